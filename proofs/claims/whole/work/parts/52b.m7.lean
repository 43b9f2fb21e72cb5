theorem ite_eq {P : Prop} {x : Int} (h : 0 ≤ x ∧ x ≤ 1) (e : x = 1 ↔ P) : x = @ite Int P (Classical.propDecidable _) 1 0 := by
  by_cases p : P
  · rw [if_pos p]; exact e.mpr p
  · rw [if_neg p]; have : ¬ x = 1 := fun z => p (e.mp z); omega
/-- the spot of a road that the reference takes is the class's -/
theorem road_w {f : Int → Int} {p w : Int} (hp : 0 ≤ p ∧ p ≤ 63) (hw : 0 ≤ w ∧ w ≤ 3) (h : 0 ≤ mbes p w) : f (mroad p w) = 1 ↔ RoadB f p (mbes p w) := by
  have hw4 : w = 0 ∨ w = 1 ∨ w = 2 ∨ w = 3 := by omega
  rcases hw4 with e | e | e | e <;> subst e
  · have e1 : mbes p 0 = p + 1 ∧ p % 8 < 7 := by unfold mbes at h ⊢; simp at h ⊢; split at h <;> omega
    have e2 : mroad p 0 = 192 + 7 * (p / 8) + p % 8 := by unfold mroad; simp
    rw [e1.1, e2]
    unfold RoadB
    constructor
    · intro z; exact Or.inr (Or.inr (Or.inl ⟨rfl, e1.2, z⟩))
    · rintro (z | z | z | z)
      · omega
      · omega
      · exact z.2.2
      · omega
  · have e1 : mbes p 1 = p - 1 ∧ 0 < p % 8 := by unfold mbes at h ⊢; simp at h ⊢; split at h <;> omega
    have e2 : mroad p 1 = 192 + 7 * ((p - 1) / 8) + (p - 1) % 8 := by unfold mroad; simp
    rw [e1.1, e2]
    unfold RoadB
    constructor
    · intro z; exact Or.inr (Or.inr (Or.inr ⟨by omega, by omega, z⟩))
    · rintro (z | z | z | z)
      · omega
      · omega
      · omega
      · exact z.2.2
  · have e1 : mbes p 2 = p + 8 := by unfold mbes at h ⊢; simp at h ⊢; split at h <;> omega
    have e2 : mroad p 2 = 248 + 8 * (p / 8) + p % 8 := by unfold mroad; simp; omega
    rw [e1, e2]
    unfold RoadB
    constructor
    · intro z; exact Or.inl ⟨rfl, z⟩
    · rintro (z | z | z | z)
      · exact z.2
      · omega
      · omega
      · omega
  · have e1 : mbes p 3 = p - 8 := by unfold mbes at h ⊢; simp at h ⊢; split at h <;> omega
    have e2 : mroad p 3 = 248 + 8 * ((p - 8) / 8) + (p - 8) % 8 := by unfold mroad; simp; omega
    rw [e1, e2]
    unfold RoadB
    constructor
    · intro z; exact Or.inr (Or.inl ⟨by omega, z⟩)
    · rintro (z | z | z | z)
      · omega
      · exact z.2
      · omega
      · omega
theorem rd_w {f : Int → Int} {p w d : Int} (hp : 0 ≤ p ∧ p ≤ 63) (hwr : ∀ j, 192 ≤ j → j ≤ 303 → 0 ≤ f j ∧ f j ≤ 1) (hw : 0 ≤ w ∧ w ≤ 3) (hbd : besid p d = mbes p w) : (if 0 ≤ mbes p w then f (mroad p w) else 0) = @ite Int (besid p d ≠ -1 ∧ RoadB f p (besid p d)) (Classical.propDecidable _) 1 0 := by
  rw [hbd]
  by_cases c : 0 ≤ mbes p w
  · rw [if_pos c]
    have := mroad_in hp hw c
    refine ite_eq (hwr _ (by omega) (by omega)) ⟨fun z => ⟨by omega, (road_w hp hw c).mp z⟩, fun z => (road_w hp hw c).mpr z.2⟩
  · rw [if_neg c]
    have := mbes_in (w := w) hp
    rw [if_neg (fun z => z.1 (by omega))]
theorem mrdN_eq {f : Int → Int} {p : Int} (hp : 0 ≤ p ∧ p ≤ 63) (hwr : ∀ j, 192 ≤ j → j ≤ 303 → 0 ≤ f j ∧ f j ≤ 1) : mrdN f p = rdN f p := by
  have b0 : besid p 0 = mbes p 0 := by unfold besid mbes; simp
  have b1 : besid p 2 = mbes p 1 := by unfold besid mbes; simp
  have b2 : besid p 1 = mbes p 2 := by unfold besid mbes; simp
  have b3 : besid p 3 = mbes p 3 := by unfold besid mbes; simp
  have e0 := rd_w hp hwr (w := 0) (by omega) b0
  have e1 := rd_w hp hwr (w := 1) (by omega) b1
  have e2 := rd_w hp hwr (w := 2) (by omega) b2
  have e3 := rd_w hp hwr (w := 3) (by omega) b3
  unfold mrdN rdN
  rw [show (4 : Int) = 0 + 1 + 1 + 1 + 1 from rfl, sum_s (by omega), sum_s (by omega), sum_s (by omega), sum_s (by omega), cnt_s (by omega), cnt_s (by omega), cnt_s (by omega), cnt_s (by omega), ← sum_0, ← cnt_0]
  show 0 + (if 0 ≤ mbes p 0 then f (mroad p 0) else 0) + (if 0 ≤ mbes p 1 then f (mroad p 1) else 0) + (if 0 ≤ mbes p 2 then f (mroad p 2) else 0) + (if 0 ≤ mbes p 3 then f (mroad p 3) else 0) = 0 + @ite Int (besid p 0 ≠ -1 ∧ RoadB f p (besid p 0)) (Classical.propDecidable _) 1 0 + @ite Int (besid p 1 ≠ -1 ∧ RoadB f p (besid p 1)) (Classical.propDecidable _) 1 0 + @ite Int (besid p 2 ≠ -1 ∧ RoadB f p (besid p 2)) (Classical.propDecidable _) 1 0 + @ite Int (besid p 3 ≠ -1 ∧ RoadB f p (besid p 3)) (Classical.propDecidable _) 1 0
  rw [e0, e1, e2, e3]
  omega
theorem MClo_iff {f : Int → Int} {l p : Int} (hp : 0 ≤ p ∧ p ≤ 63) (hl : 0 ≤ l ∧ l ≤ 2) (hwa : ∀ j, 0 ≤ j → j ≤ 191 → 0 ≤ f j) : MClo f l p ↔ Encl f l p := by
  constructor
  · intro h d d1 d2 d3
    obtain ⟨w, w1, w2, w3⟩ := bes_mb (p := p) (d := d) ⟨d1, by omega⟩
    have := h w w1 (by omega)
    have h2 := besid_in (d := d) hp
    rw [w3] at this
    omega
  · intro h w w1 w2
    obtain ⟨d, d1, d2, d3⟩ := mb_bes (p := p) (w := w) ⟨w1, by omega⟩
    have h2 := mbes_in (w := w) hp
    by_cases c : mbes p w < 0
    · exact Or.inl c
    · have h3 := h d d1 (by omega) (by omega)
      rw [d3] at h3
      have h4 := hwa (64 * l + mbes p w) (by omega) (by omega)
      exact Or.inr (by omega)
/-- a look at a rule, so far: all places, and the areas below i where they must hang together -/
def KI (K a b : Int) (f : Int → Int) (i c : Int) : Prop := (c = 1 ∧ (∀ p, 0 ≤ p → p ≤ 63 → ¬ BrkAt K a b f p) ∧ (K = 119 → ∀ A, 1 ≤ A → A < i → HangA f a A)) ∨ (c = 0 ∧ ¬ RuleHolds K a b f)
theorem KI_0 {K a b : Int} {f : Int → Int} {c i : Int} (h : AllB (fun p => ¬ BrkAt K a b f p) i c) (hi : i = 64) : KI K a b f 1 c := by
  subst hi
  rcases h with ⟨h1, h2⟩ | ⟨h1, w, w1, w2, w3⟩
  · exact Or.inl ⟨h1, fun p p1 p2 => h2 p p1 (by omega), fun _ A a1 a2 => absurd a2 (by omega)⟩
  · exact Or.inr ⟨h1, fun z => w3 (z.1 w w1 (by omega))⟩
theorem KI_b {K a b : Int} {f : Int → Int} {c i : Int} (h : KI K a b f i c) : 0 ≤ c ∧ c ≤ 1 := by rcases h with ⟨h1, -⟩ | ⟨h1, -⟩ <;> omega
theorem KI_t {K a b : Int} {f : Int → Int} {c i : Int} (h : KI K a b f i c) (hi : K = 119 → HangA f a i) : KI K a b f (i + 1) (c * 1) := by
  rcases h with ⟨h1, h2, h3⟩ | ⟨h1, h2⟩
  · refine Or.inl ⟨by omega, h2, fun e A a1 a2 => ?_⟩
    by_cases q : A = i
    · rw [q]; exact hi e
    · exact h3 e A a1 (by omega)
  · exact Or.inr ⟨by omega, h2⟩
theorem KI_f {K a b : Int} {f : Int → Int} {i j : Int} (hK : K = 119) (h1 : 1 ≤ i) (h2 : i ≤ 9) (hi : ¬ HangA f a i) : KI K a b f j 0 := Or.inr ⟨rfl, fun z => hi (z.2 hK i h1 h2)⟩
theorem KI_1 {K a b : Int} {f : Int → Int} {c i : Int} (h : KI K a b f i c) (hi : i = 10) (hp : RuleHolds K a b f) : c = 1 := by
  rcases h with ⟨h1, -⟩ | ⟨-, h2⟩
  · exact h1
  · exact absurd hp h2
theorem KI_2 {K a b : Int} {f : Int → Int} {c i : Int} (h : KI K a b f i c) (hi : i = 10) (hp : ¬ RuleHolds K a b f) : c = 0 := by
  rcases h with ⟨h1, h2, h3⟩ | ⟨h1, -⟩
  · exact absurd ⟨h2, fun e A a1 a2 => h3 e A a1 (by omega)⟩ hp
  · exact h1
theorem brk_w {a b : Int} {f : Int → Int} {p : Int} : ¬ BrkAt 119 a b f p := by simp [BrkAt]
/-- a row of the map, as far as its values go -/
def RowV (f : Int → Int) : Prop := (∀ j, 0 ≤ j → j ≤ 191 → 0 ≤ f j ∧ f j ≤ 9) ∧ ∀ j, 192 ≤ j → j ≤ 303 → 0 ≤ f j ∧ f j ≤ 1

set_option maxRecDepth 20000 in
set_option maxHeartbeats 4000000 in
theorem k_fitsc_t {g : Gx} {h : HP} {mv mrc mmc mmk mdv mwl mwa mwp mth : Int} {mw : Int → Int} {a9 b9 : Int} {p9 : Int} (hm : mO h mv mrc mmc mmk mdv mwl mwa mwp mth) (h202 : h 202 = some (oI 304 mw)) (ha : 0 ≤ a9 ∧ a9 ≤ 2) (hb : 0 ≤ b9 ∧ b9 ≤ 2) (hwv : RowV mw) (hp : 0 ≤ p9 ∧ p9 ≤ 63) (hP : ¬ BrkAt 99 a9 b9 mw p9) : Ct g yX11_fits (.code yX11_fits cX11_fits 7 (some .boolean)) 5 0 0 [vR 200, vI 99, vI a9, vI b9, vI p9] h (Rt (some (vI 1)) h) := by
  refine Ct.of (by decide) (Nat.le_of_ble_eq_true rfl) (fun x hg C F => ?_)
  subst hg
  have z1 := hwv.1 (64 * a9 + p9) (by omega) (by omega)
  have z2 := hwv.1 (64 * b9 + p9) (by omega) (by omega)
  rw [brk_c] at hP
  show T x 0 [(0, vR 200), (1, vI 99), (2, vI a9), (3, vI b9), (4, vI p9)] [] h 0 0
  refine st_aload_n C 0 dX11_fits_0 rfl rfl ?_
  refine st_getf C dX11_fits_1 fl_X11_13 hm rfl ?_
  refine st_bipush C dX11_fits_4 (by decide) (by decide) ?_
  refine st_iload_n C 2 dX11_fits_6 rfl rfl ?_
  refine st_imul C dX11_fits_7 ⟨(by omega), (by omega)⟩ ?_
  refine st_iload C dX11_fits_8 rfl ?_
  refine st_iadd C dX11_fits_10 ⟨(by omega), (by omega)⟩ ?_
  refine st_iald C dX11_fits_11 h202 (by omega) (by omega) ?_
  refine st_if_le (tgt := 19) C dX11_fits_12 (by decide) (fun c_12 => ?_) (fun c_12 => ?_)
  · refine st_iconst C dX11_fits_19 (by decide) ?_
    refine st_istore C dX11_fits_20 (by decide) rfl ?_
    show T x 22 [(0, vR 200), (1, vI 99), (2, vI a9), (3, vI b9), (4, vI p9), (5, vI 0)] [] _ _ _
    refine st_aload_n C 0 dX11_fits_22 rfl rfl ?_
    refine st_getf C dX11_fits_23 fl_X11_13 hm rfl ?_
    refine st_bipush C dX11_fits_26 (by decide) (by decide) ?_
    refine st_iload_n C 3 dX11_fits_28 rfl rfl ?_
    refine st_imul C dX11_fits_29 ⟨(by omega), (by omega)⟩ ?_
    refine st_iload C dX11_fits_30 rfl ?_
    refine st_iadd C dX11_fits_32 ⟨(by omega), (by omega)⟩ ?_
    refine st_iald C dX11_fits_33 h202 (by omega) (by omega) ?_
    refine st_if_le (tgt := 41) C dX11_fits_34 (by decide) (fun c_34 => ?_) (fun c_34 => ?_)
    · refine st_iconst C dX11_fits_41 (by decide) ?_
      refine st_istore C dX11_fits_42 (by decide) rfl ?_
      show T x 44 [(0, vR 200), (1, vI 99), (2, vI a9), (3, vI b9), (4, vI p9), (5, vI 0), (6, vI 0)] [] _ _ _
      refine st_iload_n C 1 dX11_fits_44 rfl rfl ?_
      refine st_lookup (a := 99) (tgt := 88) C dX11_fits_45 (by decide) rfl (by decide) ?_
      refine st_iload C dX11_fits_88 rfl ?_
      refine st_if_eq (tgt := 98) C dX11_fits_90 (by decide) (fun c_90 => ?_) (fun c_90 => by omega)
      refine st_iconst C dX11_fits_98 (by decide) ?_
      refine st_goto (tgt := 103) C dX11_fits_99 (by decide) ?_
      exact st_zreturn C F dX11_fits_103 rfl (by omega) (rt_i (by first | rfl | (exfalso; omega) | exact absurd ⟨by omega, by assumption⟩ hP | exact absurd hP.2 (by assumption)) rfl) (by omega) (by omega)
    · refine st_iconst C dX11_fits_37 (by decide) ?_
      refine st_goto (tgt := 42) C dX11_fits_38 (by decide) ?_
      refine st_istore C dX11_fits_42 (by decide) rfl ?_
      show T x 44 [(0, vR 200), (1, vI 99), (2, vI a9), (3, vI b9), (4, vI p9), (5, vI 0), (6, vI 1)] [] _ _ _
      refine st_iload_n C 1 dX11_fits_44 rfl rfl ?_
      refine st_lookup (a := 99) (tgt := 88) C dX11_fits_45 (by decide) rfl (by decide) ?_
      refine st_iload C dX11_fits_88 rfl ?_
      refine st_if_eq (tgt := 98) C dX11_fits_90 (by decide) (fun c_90 => ?_) (fun c_90 => by omega)
      refine st_iconst C dX11_fits_98 (by decide) ?_
      refine st_goto (tgt := 103) C dX11_fits_99 (by decide) ?_
      exact st_zreturn C F dX11_fits_103 rfl (by omega) (rt_i (by first | rfl | (exfalso; omega) | exact absurd ⟨by omega, by assumption⟩ hP | exact absurd hP.2 (by assumption)) rfl) (by omega) (by omega)
  · refine st_iconst C dX11_fits_15 (by decide) ?_
    refine st_goto (tgt := 20) C dX11_fits_16 (by decide) ?_
    refine st_istore C dX11_fits_20 (by decide) rfl ?_
    show T x 22 [(0, vR 200), (1, vI 99), (2, vI a9), (3, vI b9), (4, vI p9), (5, vI 1)] [] _ _ _
    refine st_aload_n C 0 dX11_fits_22 rfl rfl ?_
    refine st_getf C dX11_fits_23 fl_X11_13 hm rfl ?_
    refine st_bipush C dX11_fits_26 (by decide) (by decide) ?_
    refine st_iload_n C 3 dX11_fits_28 rfl rfl ?_
    refine st_imul C dX11_fits_29 ⟨(by omega), (by omega)⟩ ?_
    refine st_iload C dX11_fits_30 rfl ?_
    refine st_iadd C dX11_fits_32 ⟨(by omega), (by omega)⟩ ?_
    refine st_iald C dX11_fits_33 h202 (by omega) (by omega) ?_
    refine st_if_le (tgt := 41) C dX11_fits_34 (by decide) (fun c_34 => ?_) (fun c_34 => ?_)
    · refine st_iconst C dX11_fits_41 (by decide) ?_
      refine st_istore C dX11_fits_42 (by decide) rfl ?_
      show T x 44 [(0, vR 200), (1, vI 99), (2, vI a9), (3, vI b9), (4, vI p9), (5, vI 1), (6, vI 0)] [] _ _ _
      refine st_iload_n C 1 dX11_fits_44 rfl rfl ?_
      refine st_lookup (a := 99) (tgt := 88) C dX11_fits_45 (by decide) rfl (by decide) ?_
      refine st_iload C dX11_fits_88 rfl ?_
      refine st_if_eq (tgt := 98) C dX11_fits_90 (by decide) (fun c_90 => by omega) (fun c_90 => ?_)
      refine st_iload C dX11_fits_93 rfl ?_
      refine st_if_eq (tgt := 102) C dX11_fits_95 (by decide) (fun c_95 => ?_) (fun c_95 => by omega)
      refine st_iconst C dX11_fits_102 (by decide) ?_
      exact st_zreturn C F dX11_fits_103 rfl (by omega) (rt_i (by first | rfl | (exfalso; omega) | exact absurd ⟨by omega, by assumption⟩ hP | exact absurd hP.2 (by assumption)) rfl) (by omega) (by omega)
    · refine st_iconst C dX11_fits_37 (by decide) ?_
      refine st_goto (tgt := 42) C dX11_fits_38 (by decide) ?_
      refine st_istore C dX11_fits_42 (by decide) rfl ?_
      show T x 44 [(0, vR 200), (1, vI 99), (2, vI a9), (3, vI b9), (4, vI p9), (5, vI 1), (6, vI 1)] [] _ _ _
      refine st_iload_n C 1 dX11_fits_44 rfl rfl ?_
      refine st_lookup (a := 99) (tgt := 88) C dX11_fits_45 (by decide) rfl (by decide) ?_
      refine st_iload C dX11_fits_88 rfl ?_
      refine st_if_eq (tgt := 98) C dX11_fits_90 (by decide) (fun c_90 => by omega) (fun c_90 => ?_)
      refine st_iload C dX11_fits_93 rfl ?_
      refine st_if_eq (tgt := 102) C dX11_fits_95 (by decide) (fun c_95 => by omega) (fun c_95 => ?_)
      refine st_iconst C dX11_fits_98 (by decide) ?_
      refine st_goto (tgt := 103) C dX11_fits_99 (by decide) ?_
      exact st_zreturn C F dX11_fits_103 rfl (by omega) (rt_i (by first | rfl | (exfalso; omega) | exact absurd ⟨by omega, by assumption⟩ hP | exact absurd hP.2 (by assumption)) rfl) (by omega) (by omega)
set_option maxRecDepth 20000 in
set_option maxHeartbeats 4000000 in
theorem k_fitsc_f {g : Gx} {h : HP} {mv mrc mmc mmk mdv mwl mwa mwp mth : Int} {mw : Int → Int} {a9 b9 : Int} {p9 : Int} (hm : mO h mv mrc mmc mmk mdv mwl mwa mwp mth) (h202 : h 202 = some (oI 304 mw)) (ha : 0 ≤ a9 ∧ a9 ≤ 2) (hb : 0 ≤ b9 ∧ b9 ≤ 2) (hwv : RowV mw) (hp : 0 ≤ p9 ∧ p9 ≤ 63) (hP : BrkAt 99 a9 b9 mw p9) : Ct g yX11_fits (.code yX11_fits cX11_fits 7 (some .boolean)) 5 0 0 [vR 200, vI 99, vI a9, vI b9, vI p9] h (Rt (some (vI 0)) h) := by
  refine Ct.of (by decide) (Nat.le_of_ble_eq_true rfl) (fun x hg C F => ?_)
  subst hg
  have z1 := hwv.1 (64 * a9 + p9) (by omega) (by omega)
  have z2 := hwv.1 (64 * b9 + p9) (by omega) (by omega)
  rw [brk_c] at hP
  show T x 0 [(0, vR 200), (1, vI 99), (2, vI a9), (3, vI b9), (4, vI p9)] [] h 0 0
  refine st_aload_n C 0 dX11_fits_0 rfl rfl ?_
  refine st_getf C dX11_fits_1 fl_X11_13 hm rfl ?_
  refine st_bipush C dX11_fits_4 (by decide) (by decide) ?_
  refine st_iload_n C 2 dX11_fits_6 rfl rfl ?_
  refine st_imul C dX11_fits_7 ⟨(by omega), (by omega)⟩ ?_
  refine st_iload C dX11_fits_8 rfl ?_
  refine st_iadd C dX11_fits_10 ⟨(by omega), (by omega)⟩ ?_
  refine st_iald C dX11_fits_11 h202 (by omega) (by omega) ?_
  refine st_if_le (tgt := 19) C dX11_fits_12 (by decide) (fun c_12 => ?_) (fun c_12 => ?_)
  · refine st_iconst C dX11_fits_19 (by decide) ?_
    refine st_istore C dX11_fits_20 (by decide) rfl ?_
    show T x 22 [(0, vR 200), (1, vI 99), (2, vI a9), (3, vI b9), (4, vI p9), (5, vI 0)] [] _ _ _
    refine st_aload_n C 0 dX11_fits_22 rfl rfl ?_
    refine st_getf C dX11_fits_23 fl_X11_13 hm rfl ?_
    refine st_bipush C dX11_fits_26 (by decide) (by decide) ?_
    refine st_iload_n C 3 dX11_fits_28 rfl rfl ?_
    refine st_imul C dX11_fits_29 ⟨(by omega), (by omega)⟩ ?_
    refine st_iload C dX11_fits_30 rfl ?_
    refine st_iadd C dX11_fits_32 ⟨(by omega), (by omega)⟩ ?_
    refine st_iald C dX11_fits_33 h202 (by omega) (by omega) ?_
    refine st_if_le (tgt := 41) C dX11_fits_34 (by decide) (fun c_34 => ?_) (fun c_34 => ?_)
    · refine st_iconst C dX11_fits_41 (by decide) ?_
      refine st_istore C dX11_fits_42 (by decide) rfl ?_
      show T x 44 [(0, vR 200), (1, vI 99), (2, vI a9), (3, vI b9), (4, vI p9), (5, vI 0), (6, vI 0)] [] _ _ _
      refine st_iload_n C 1 dX11_fits_44 rfl rfl ?_
      refine st_lookup (a := 99) (tgt := 88) C dX11_fits_45 (by decide) rfl (by decide) ?_
      refine st_iload C dX11_fits_88 rfl ?_
      refine st_if_eq (tgt := 98) C dX11_fits_90 (by decide) (fun c_90 => ?_) (fun c_90 => by omega)
      refine st_iconst C dX11_fits_98 (by decide) ?_
      refine st_goto (tgt := 103) C dX11_fits_99 (by decide) ?_
      exact st_zreturn C F dX11_fits_103 rfl (by omega) (rt_i (by first | rfl | (exfalso; omega) | exact absurd ⟨by omega, by assumption⟩ hP | exact absurd hP.2 (by assumption)) rfl) (by omega) (by omega)
    · refine st_iconst C dX11_fits_37 (by decide) ?_
      refine st_goto (tgt := 42) C dX11_fits_38 (by decide) ?_
      refine st_istore C dX11_fits_42 (by decide) rfl ?_
      show T x 44 [(0, vR 200), (1, vI 99), (2, vI a9), (3, vI b9), (4, vI p9), (5, vI 0), (6, vI 1)] [] _ _ _
      refine st_iload_n C 1 dX11_fits_44 rfl rfl ?_
      refine st_lookup (a := 99) (tgt := 88) C dX11_fits_45 (by decide) rfl (by decide) ?_
      refine st_iload C dX11_fits_88 rfl ?_
      refine st_if_eq (tgt := 98) C dX11_fits_90 (by decide) (fun c_90 => ?_) (fun c_90 => by omega)
      refine st_iconst C dX11_fits_98 (by decide) ?_
      refine st_goto (tgt := 103) C dX11_fits_99 (by decide) ?_
      exact st_zreturn C F dX11_fits_103 rfl (by omega) (rt_i (by first | rfl | (exfalso; omega) | exact absurd ⟨by omega, by assumption⟩ hP | exact absurd hP.2 (by assumption)) rfl) (by omega) (by omega)
  · refine st_iconst C dX11_fits_15 (by decide) ?_
    refine st_goto (tgt := 20) C dX11_fits_16 (by decide) ?_
    refine st_istore C dX11_fits_20 (by decide) rfl ?_
    show T x 22 [(0, vR 200), (1, vI 99), (2, vI a9), (3, vI b9), (4, vI p9), (5, vI 1)] [] _ _ _
    refine st_aload_n C 0 dX11_fits_22 rfl rfl ?_
    refine st_getf C dX11_fits_23 fl_X11_13 hm rfl ?_
    refine st_bipush C dX11_fits_26 (by decide) (by decide) ?_
    refine st_iload_n C 3 dX11_fits_28 rfl rfl ?_
    refine st_imul C dX11_fits_29 ⟨(by omega), (by omega)⟩ ?_
    refine st_iload C dX11_fits_30 rfl ?_
    refine st_iadd C dX11_fits_32 ⟨(by omega), (by omega)⟩ ?_
    refine st_iald C dX11_fits_33 h202 (by omega) (by omega) ?_
    refine st_if_le (tgt := 41) C dX11_fits_34 (by decide) (fun c_34 => ?_) (fun c_34 => ?_)
    · refine st_iconst C dX11_fits_41 (by decide) ?_
      refine st_istore C dX11_fits_42 (by decide) rfl ?_
      show T x 44 [(0, vR 200), (1, vI 99), (2, vI a9), (3, vI b9), (4, vI p9), (5, vI 1), (6, vI 0)] [] _ _ _
      refine st_iload_n C 1 dX11_fits_44 rfl rfl ?_
      refine st_lookup (a := 99) (tgt := 88) C dX11_fits_45 (by decide) rfl (by decide) ?_
      refine st_iload C dX11_fits_88 rfl ?_
      refine st_if_eq (tgt := 98) C dX11_fits_90 (by decide) (fun c_90 => by omega) (fun c_90 => ?_)
      refine st_iload C dX11_fits_93 rfl ?_
      refine st_if_eq (tgt := 102) C dX11_fits_95 (by decide) (fun c_95 => ?_) (fun c_95 => by omega)
      refine st_iconst C dX11_fits_102 (by decide) ?_
      exact st_zreturn C F dX11_fits_103 rfl (by omega) (rt_i (by first | rfl | (exfalso; omega) | exact absurd ⟨by omega, by assumption⟩ hP | exact absurd hP.2 (by assumption)) rfl) (by omega) (by omega)
    · refine st_iconst C dX11_fits_37 (by decide) ?_
      refine st_goto (tgt := 42) C dX11_fits_38 (by decide) ?_
      refine st_istore C dX11_fits_42 (by decide) rfl ?_
      show T x 44 [(0, vR 200), (1, vI 99), (2, vI a9), (3, vI b9), (4, vI p9), (5, vI 1), (6, vI 1)] [] _ _ _
      refine st_iload_n C 1 dX11_fits_44 rfl rfl ?_
      refine st_lookup (a := 99) (tgt := 88) C dX11_fits_45 (by decide) rfl (by decide) ?_
      refine st_iload C dX11_fits_88 rfl ?_
      refine st_if_eq (tgt := 98) C dX11_fits_90 (by decide) (fun c_90 => by omega) (fun c_90 => ?_)
      refine st_iload C dX11_fits_93 rfl ?_
      refine st_if_eq (tgt := 102) C dX11_fits_95 (by decide) (fun c_95 => by omega) (fun c_95 => ?_)
      refine st_iconst C dX11_fits_98 (by decide) ?_
      refine st_goto (tgt := 103) C dX11_fits_99 (by decide) ?_
      exact st_zreturn C F dX11_fits_103 rfl (by omega) (rt_i (by first | rfl | (exfalso; omega) | exact absurd ⟨by omega, by assumption⟩ hP | exact absurd hP.2 (by assumption)) rfl) (by omega) (by omega)
set_option maxRecDepth 20000 in
set_option maxHeartbeats 4000000 in
theorem k_fitsx_t {g : Gx} {h : HP} {mv mrc mmc mmk mdv mwl mwa mwp mth : Int} {mw : Int → Int} {a9 b9 : Int} {p9 : Int} (hm : mO h mv mrc mmc mmk mdv mwl mwa mwp mth) (h202 : h 202 = some (oI 304 mw)) (ha : 0 ≤ a9 ∧ a9 ≤ 2) (hb : 0 ≤ b9 ∧ b9 ≤ 2) (hwv : RowV mw) (hp : 0 ≤ p9 ∧ p9 ≤ 63) (hP : ¬ BrkAt 120 a9 b9 mw p9) : Ct g yX11_fits (.code yX11_fits cX11_fits 7 (some .boolean)) 5 0 0 [vR 200, vI 120, vI a9, vI b9, vI p9] h (Rt (some (vI 1)) h) := by
  refine Ct.of (by decide) (Nat.le_of_ble_eq_true rfl) (fun x hg C F => ?_)
  subst hg
  have z1 := hwv.1 (64 * a9 + p9) (by omega) (by omega)
  have z2 := hwv.1 (64 * b9 + p9) (by omega) (by omega)
  rw [brk_x] at hP
  show T x 0 [(0, vR 200), (1, vI 120), (2, vI a9), (3, vI b9), (4, vI p9)] [] h 0 0
  refine st_aload_n C 0 dX11_fits_0 rfl rfl ?_
  refine st_getf C dX11_fits_1 fl_X11_13 hm rfl ?_
  refine st_bipush C dX11_fits_4 (by decide) (by decide) ?_
  refine st_iload_n C 2 dX11_fits_6 rfl rfl ?_
  refine st_imul C dX11_fits_7 ⟨(by omega), (by omega)⟩ ?_
  refine st_iload C dX11_fits_8 rfl ?_
  refine st_iadd C dX11_fits_10 ⟨(by omega), (by omega)⟩ ?_
  refine st_iald C dX11_fits_11 h202 (by omega) (by omega) ?_
  refine st_if_le (tgt := 19) C dX11_fits_12 (by decide) (fun c_12 => ?_) (fun c_12 => ?_)
  · refine st_iconst C dX11_fits_19 (by decide) ?_
    refine st_istore C dX11_fits_20 (by decide) rfl ?_
    show T x 22 [(0, vR 200), (1, vI 120), (2, vI a9), (3, vI b9), (4, vI p9), (5, vI 0)] [] _ _ _
    refine st_aload_n C 0 dX11_fits_22 rfl rfl ?_
    refine st_getf C dX11_fits_23 fl_X11_13 hm rfl ?_
    refine st_bipush C dX11_fits_26 (by decide) (by decide) ?_
    refine st_iload_n C 3 dX11_fits_28 rfl rfl ?_
    refine st_imul C dX11_fits_29 ⟨(by omega), (by omega)⟩ ?_
    refine st_iload C dX11_fits_30 rfl ?_
    refine st_iadd C dX11_fits_32 ⟨(by omega), (by omega)⟩ ?_
    refine st_iald C dX11_fits_33 h202 (by omega) (by omega) ?_
    refine st_if_le (tgt := 41) C dX11_fits_34 (by decide) (fun c_34 => ?_) (fun c_34 => ?_)
    · refine st_iconst C dX11_fits_41 (by decide) ?_
      refine st_istore C dX11_fits_42 (by decide) rfl ?_
      show T x 44 [(0, vR 200), (1, vI 120), (2, vI a9), (3, vI b9), (4, vI p9), (5, vI 0), (6, vI 0)] [] _ _ _
      refine st_iload_n C 1 dX11_fits_44 rfl rfl ?_
      refine st_lookup (a := 120) (tgt := 104) C dX11_fits_45 (by decide) rfl (by decide) ?_
      refine st_iload C dX11_fits_104 rfl ?_
      refine st_if_eq (tgt := 114) C dX11_fits_106 (by decide) (fun c_106 => ?_) (fun c_106 => by omega)
      refine st_iconst C dX11_fits_114 (by decide) ?_
      refine st_goto (tgt := 119) C dX11_fits_115 (by decide) ?_
      exact st_zreturn C F dX11_fits_119 rfl (by omega) (rt_i (by first | rfl | (exfalso; omega) | exact absurd ⟨by omega, by assumption⟩ hP | exact absurd hP.2 (by assumption)) rfl) (by omega) (by omega)
    · refine st_iconst C dX11_fits_37 (by decide) ?_
      refine st_goto (tgt := 42) C dX11_fits_38 (by decide) ?_
      refine st_istore C dX11_fits_42 (by decide) rfl ?_
      show T x 44 [(0, vR 200), (1, vI 120), (2, vI a9), (3, vI b9), (4, vI p9), (5, vI 0), (6, vI 1)] [] _ _ _
      refine st_iload_n C 1 dX11_fits_44 rfl rfl ?_
      refine st_lookup (a := 120) (tgt := 104) C dX11_fits_45 (by decide) rfl (by decide) ?_
      refine st_iload C dX11_fits_104 rfl ?_
      refine st_if_eq (tgt := 114) C dX11_fits_106 (by decide) (fun c_106 => ?_) (fun c_106 => by omega)
      refine st_iconst C dX11_fits_114 (by decide) ?_
      refine st_goto (tgt := 119) C dX11_fits_115 (by decide) ?_
      exact st_zreturn C F dX11_fits_119 rfl (by omega) (rt_i (by first | rfl | (exfalso; omega) | exact absurd ⟨by omega, by assumption⟩ hP | exact absurd hP.2 (by assumption)) rfl) (by omega) (by omega)
  · refine st_iconst C dX11_fits_15 (by decide) ?_
    refine st_goto (tgt := 20) C dX11_fits_16 (by decide) ?_
    refine st_istore C dX11_fits_20 (by decide) rfl ?_
    show T x 22 [(0, vR 200), (1, vI 120), (2, vI a9), (3, vI b9), (4, vI p9), (5, vI 1)] [] _ _ _
    refine st_aload_n C 0 dX11_fits_22 rfl rfl ?_
    refine st_getf C dX11_fits_23 fl_X11_13 hm rfl ?_
    refine st_bipush C dX11_fits_26 (by decide) (by decide) ?_
    refine st_iload_n C 3 dX11_fits_28 rfl rfl ?_
    refine st_imul C dX11_fits_29 ⟨(by omega), (by omega)⟩ ?_
    refine st_iload C dX11_fits_30 rfl ?_
    refine st_iadd C dX11_fits_32 ⟨(by omega), (by omega)⟩ ?_
    refine st_iald C dX11_fits_33 h202 (by omega) (by omega) ?_
    refine st_if_le (tgt := 41) C dX11_fits_34 (by decide) (fun c_34 => ?_) (fun c_34 => ?_)
    · refine st_iconst C dX11_fits_41 (by decide) ?_
      refine st_istore C dX11_fits_42 (by decide) rfl ?_
      show T x 44 [(0, vR 200), (1, vI 120), (2, vI a9), (3, vI b9), (4, vI p9), (5, vI 1), (6, vI 0)] [] _ _ _
      refine st_iload_n C 1 dX11_fits_44 rfl rfl ?_
      refine st_lookup (a := 120) (tgt := 104) C dX11_fits_45 (by decide) rfl (by decide) ?_
      refine st_iload C dX11_fits_104 rfl ?_
      refine st_if_eq (tgt := 114) C dX11_fits_106 (by decide) (fun c_106 => by omega) (fun c_106 => ?_)
      refine st_iload C dX11_fits_109 rfl ?_
      refine st_if_ne (tgt := 118) C dX11_fits_111 (by decide) (fun c_111 => by omega) (fun c_111 => ?_)
      refine st_iconst C dX11_fits_114 (by decide) ?_
      refine st_goto (tgt := 119) C dX11_fits_115 (by decide) ?_
      exact st_zreturn C F dX11_fits_119 rfl (by omega) (rt_i (by first | rfl | (exfalso; omega) | exact absurd ⟨by omega, by assumption⟩ hP | exact absurd hP.2 (by assumption)) rfl) (by omega) (by omega)
    · refine st_iconst C dX11_fits_37 (by decide) ?_
      refine st_goto (tgt := 42) C dX11_fits_38 (by decide) ?_
      refine st_istore C dX11_fits_42 (by decide) rfl ?_
      show T x 44 [(0, vR 200), (1, vI 120), (2, vI a9), (3, vI b9), (4, vI p9), (5, vI 1), (6, vI 1)] [] _ _ _
      refine st_iload_n C 1 dX11_fits_44 rfl rfl ?_
      refine st_lookup (a := 120) (tgt := 104) C dX11_fits_45 (by decide) rfl (by decide) ?_
      refine st_iload C dX11_fits_104 rfl ?_
      refine st_if_eq (tgt := 114) C dX11_fits_106 (by decide) (fun c_106 => by omega) (fun c_106 => ?_)
      refine st_iload C dX11_fits_109 rfl ?_
      refine st_if_ne (tgt := 118) C dX11_fits_111 (by decide) (fun c_111 => ?_) (fun c_111 => by omega)
      refine st_iconst C dX11_fits_118 (by decide) ?_
      exact st_zreturn C F dX11_fits_119 rfl (by omega) (rt_i (by first | rfl | (exfalso; omega) | exact absurd ⟨by omega, by assumption⟩ hP | exact absurd hP.2 (by assumption)) rfl) (by omega) (by omega)
set_option maxRecDepth 20000 in
set_option maxHeartbeats 4000000 in
theorem k_fitsx_f {g : Gx} {h : HP} {mv mrc mmc mmk mdv mwl mwa mwp mth : Int} {mw : Int → Int} {a9 b9 : Int} {p9 : Int} (hm : mO h mv mrc mmc mmk mdv mwl mwa mwp mth) (h202 : h 202 = some (oI 304 mw)) (ha : 0 ≤ a9 ∧ a9 ≤ 2) (hb : 0 ≤ b9 ∧ b9 ≤ 2) (hwv : RowV mw) (hp : 0 ≤ p9 ∧ p9 ≤ 63) (hP : BrkAt 120 a9 b9 mw p9) : Ct g yX11_fits (.code yX11_fits cX11_fits 7 (some .boolean)) 5 0 0 [vR 200, vI 120, vI a9, vI b9, vI p9] h (Rt (some (vI 0)) h) := by
  refine Ct.of (by decide) (Nat.le_of_ble_eq_true rfl) (fun x hg C F => ?_)
  subst hg
  have z1 := hwv.1 (64 * a9 + p9) (by omega) (by omega)
  have z2 := hwv.1 (64 * b9 + p9) (by omega) (by omega)
  rw [brk_x] at hP
  show T x 0 [(0, vR 200), (1, vI 120), (2, vI a9), (3, vI b9), (4, vI p9)] [] h 0 0
  refine st_aload_n C 0 dX11_fits_0 rfl rfl ?_
  refine st_getf C dX11_fits_1 fl_X11_13 hm rfl ?_
  refine st_bipush C dX11_fits_4 (by decide) (by decide) ?_
  refine st_iload_n C 2 dX11_fits_6 rfl rfl ?_
  refine st_imul C dX11_fits_7 ⟨(by omega), (by omega)⟩ ?_
  refine st_iload C dX11_fits_8 rfl ?_
  refine st_iadd C dX11_fits_10 ⟨(by omega), (by omega)⟩ ?_
  refine st_iald C dX11_fits_11 h202 (by omega) (by omega) ?_
  refine st_if_le (tgt := 19) C dX11_fits_12 (by decide) (fun c_12 => ?_) (fun c_12 => ?_)
  · refine st_iconst C dX11_fits_19 (by decide) ?_
    refine st_istore C dX11_fits_20 (by decide) rfl ?_
    show T x 22 [(0, vR 200), (1, vI 120), (2, vI a9), (3, vI b9), (4, vI p9), (5, vI 0)] [] _ _ _
    refine st_aload_n C 0 dX11_fits_22 rfl rfl ?_
    refine st_getf C dX11_fits_23 fl_X11_13 hm rfl ?_
    refine st_bipush C dX11_fits_26 (by decide) (by decide) ?_
    refine st_iload_n C 3 dX11_fits_28 rfl rfl ?_
    refine st_imul C dX11_fits_29 ⟨(by omega), (by omega)⟩ ?_
    refine st_iload C dX11_fits_30 rfl ?_
    refine st_iadd C dX11_fits_32 ⟨(by omega), (by omega)⟩ ?_
    refine st_iald C dX11_fits_33 h202 (by omega) (by omega) ?_
    refine st_if_le (tgt := 41) C dX11_fits_34 (by decide) (fun c_34 => ?_) (fun c_34 => ?_)
    · refine st_iconst C dX11_fits_41 (by decide) ?_
      refine st_istore C dX11_fits_42 (by decide) rfl ?_
      show T x 44 [(0, vR 200), (1, vI 120), (2, vI a9), (3, vI b9), (4, vI p9), (5, vI 0), (6, vI 0)] [] _ _ _
      refine st_iload_n C 1 dX11_fits_44 rfl rfl ?_
      refine st_lookup (a := 120) (tgt := 104) C dX11_fits_45 (by decide) rfl (by decide) ?_
      refine st_iload C dX11_fits_104 rfl ?_
      refine st_if_eq (tgt := 114) C dX11_fits_106 (by decide) (fun c_106 => ?_) (fun c_106 => by omega)
      refine st_iconst C dX11_fits_114 (by decide) ?_
      refine st_goto (tgt := 119) C dX11_fits_115 (by decide) ?_
      exact st_zreturn C F dX11_fits_119 rfl (by omega) (rt_i (by first | rfl | (exfalso; omega) | exact absurd ⟨by omega, by assumption⟩ hP | exact absurd hP.2 (by assumption)) rfl) (by omega) (by omega)
    · refine st_iconst C dX11_fits_37 (by decide) ?_
      refine st_goto (tgt := 42) C dX11_fits_38 (by decide) ?_
      refine st_istore C dX11_fits_42 (by decide) rfl ?_
      show T x 44 [(0, vR 200), (1, vI 120), (2, vI a9), (3, vI b9), (4, vI p9), (5, vI 0), (6, vI 1)] [] _ _ _
      refine st_iload_n C 1 dX11_fits_44 rfl rfl ?_
      refine st_lookup (a := 120) (tgt := 104) C dX11_fits_45 (by decide) rfl (by decide) ?_
      refine st_iload C dX11_fits_104 rfl ?_
      refine st_if_eq (tgt := 114) C dX11_fits_106 (by decide) (fun c_106 => ?_) (fun c_106 => by omega)
      refine st_iconst C dX11_fits_114 (by decide) ?_
      refine st_goto (tgt := 119) C dX11_fits_115 (by decide) ?_
      exact st_zreturn C F dX11_fits_119 rfl (by omega) (rt_i (by first | rfl | (exfalso; omega) | exact absurd ⟨by omega, by assumption⟩ hP | exact absurd hP.2 (by assumption)) rfl) (by omega) (by omega)
  · refine st_iconst C dX11_fits_15 (by decide) ?_
    refine st_goto (tgt := 20) C dX11_fits_16 (by decide) ?_
    refine st_istore C dX11_fits_20 (by decide) rfl ?_
    show T x 22 [(0, vR 200), (1, vI 120), (2, vI a9), (3, vI b9), (4, vI p9), (5, vI 1)] [] _ _ _
    refine st_aload_n C 0 dX11_fits_22 rfl rfl ?_
    refine st_getf C dX11_fits_23 fl_X11_13 hm rfl ?_
    refine st_bipush C dX11_fits_26 (by decide) (by decide) ?_
    refine st_iload_n C 3 dX11_fits_28 rfl rfl ?_
    refine st_imul C dX11_fits_29 ⟨(by omega), (by omega)⟩ ?_
    refine st_iload C dX11_fits_30 rfl ?_
    refine st_iadd C dX11_fits_32 ⟨(by omega), (by omega)⟩ ?_
    refine st_iald C dX11_fits_33 h202 (by omega) (by omega) ?_
    refine st_if_le (tgt := 41) C dX11_fits_34 (by decide) (fun c_34 => ?_) (fun c_34 => ?_)
    · refine st_iconst C dX11_fits_41 (by decide) ?_
      refine st_istore C dX11_fits_42 (by decide) rfl ?_
      show T x 44 [(0, vR 200), (1, vI 120), (2, vI a9), (3, vI b9), (4, vI p9), (5, vI 1), (6, vI 0)] [] _ _ _
      refine st_iload_n C 1 dX11_fits_44 rfl rfl ?_
      refine st_lookup (a := 120) (tgt := 104) C dX11_fits_45 (by decide) rfl (by decide) ?_
      refine st_iload C dX11_fits_104 rfl ?_
      refine st_if_eq (tgt := 114) C dX11_fits_106 (by decide) (fun c_106 => by omega) (fun c_106 => ?_)
      refine st_iload C dX11_fits_109 rfl ?_
      refine st_if_ne (tgt := 118) C dX11_fits_111 (by decide) (fun c_111 => by omega) (fun c_111 => ?_)
      refine st_iconst C dX11_fits_114 (by decide) ?_
      refine st_goto (tgt := 119) C dX11_fits_115 (by decide) ?_
      exact st_zreturn C F dX11_fits_119 rfl (by omega) (rt_i (by first | rfl | (exfalso; omega) | exact absurd ⟨by omega, by assumption⟩ hP | exact absurd hP.2 (by assumption)) rfl) (by omega) (by omega)
    · refine st_iconst C dX11_fits_37 (by decide) ?_
      refine st_goto (tgt := 42) C dX11_fits_38 (by decide) ?_
      refine st_istore C dX11_fits_42 (by decide) rfl ?_
      show T x 44 [(0, vR 200), (1, vI 120), (2, vI a9), (3, vI b9), (4, vI p9), (5, vI 1), (6, vI 1)] [] _ _ _
      refine st_iload_n C 1 dX11_fits_44 rfl rfl ?_
      refine st_lookup (a := 120) (tgt := 104) C dX11_fits_45 (by decide) rfl (by decide) ?_
      refine st_iload C dX11_fits_104 rfl ?_
      refine st_if_eq (tgt := 114) C dX11_fits_106 (by decide) (fun c_106 => by omega) (fun c_106 => ?_)
      refine st_iload C dX11_fits_109 rfl ?_
      refine st_if_ne (tgt := 118) C dX11_fits_111 (by decide) (fun c_111 => ?_) (fun c_111 => by omega)
      refine st_iconst C dX11_fits_118 (by decide) ?_
      exact st_zreturn C F dX11_fits_119 rfl (by omega) (rt_i (by first | rfl | (exfalso; omega) | exact absurd ⟨by omega, by assumption⟩ hP | exact absurd hP.2 (by assumption)) rfl) (by omega) (by omega)
set_option maxRecDepth 20000 in
set_option maxHeartbeats 4000000 in
theorem k_fitsg_t {g : Gx} {h : HP} {mv mrc mmc mmk mdv mwl mwa mwp mth : Int} {mw : Int → Int} {a9 b9 : Int} {p9 : Int} (hm : mO h mv mrc mmc mmk mdv mwl mwa mwp mth) (h202 : h 202 = some (oI 304 mw)) (ha : 0 ≤ a9 ∧ a9 ≤ 2) (hb : 0 ≤ b9 ∧ b9 ≤ 2) (hwv : RowV mw) (hp : 0 ≤ p9 ∧ p9 ≤ 63) (hP : ¬ BrkAt 103 a9 b9 mw p9) : Ct g yX11_fits (.code yX11_fits cX11_fits 7 (some .boolean)) 5 0 0 [vR 200, vI 103, vI a9, vI b9, vI p9] h (Rt (some (vI 1)) h) := by
  refine Ct.of (by decide) (Nat.le_of_ble_eq_true rfl) (fun x hg C F => ?_)
  subst hg
  have z1 := hwv.1 (64 * a9 + p9) (by omega) (by omega)
  have z2 := hwv.1 (64 * b9 + p9) (by omega) (by omega)
  rw [brk_g] at hP
  rw [← MClo_iff hp ha (fun j j1 j2 => (hwv.1 j j1 j2).1)] at hP
  show T x 0 [(0, vR 200), (1, vI 103), (2, vI a9), (3, vI b9), (4, vI p9)] [] h 0 0
  refine st_aload_n C 0 dX11_fits_0 rfl rfl ?_
  refine st_getf C dX11_fits_1 fl_X11_13 hm rfl ?_
  refine st_bipush C dX11_fits_4 (by decide) (by decide) ?_
  refine st_iload_n C 2 dX11_fits_6 rfl rfl ?_
  refine st_imul C dX11_fits_7 ⟨(by omega), (by omega)⟩ ?_
  refine st_iload C dX11_fits_8 rfl ?_
  refine st_iadd C dX11_fits_10 ⟨(by omega), (by omega)⟩ ?_
  refine st_iald C dX11_fits_11 h202 (by omega) (by omega) ?_
  refine st_if_le (tgt := 19) C dX11_fits_12 (by decide) (fun c_12 => ?_) (fun c_12 => ?_)
  · refine st_iconst C dX11_fits_19 (by decide) ?_
    refine st_istore C dX11_fits_20 (by decide) rfl ?_
    show T x 22 [(0, vR 200), (1, vI 103), (2, vI a9), (3, vI b9), (4, vI p9), (5, vI 0)] [] _ _ _
    refine st_aload_n C 0 dX11_fits_22 rfl rfl ?_
    refine st_getf C dX11_fits_23 fl_X11_13 hm rfl ?_
    refine st_bipush C dX11_fits_26 (by decide) (by decide) ?_
    refine st_iload_n C 3 dX11_fits_28 rfl rfl ?_
    refine st_imul C dX11_fits_29 ⟨(by omega), (by omega)⟩ ?_
    refine st_iload C dX11_fits_30 rfl ?_
    refine st_iadd C dX11_fits_32 ⟨(by omega), (by omega)⟩ ?_
    refine st_iald C dX11_fits_33 h202 (by omega) (by omega) ?_
    refine st_if_le (tgt := 41) C dX11_fits_34 (by decide) (fun c_34 => ?_) (fun c_34 => ?_)
    · refine st_iconst C dX11_fits_41 (by decide) ?_
      refine st_istore C dX11_fits_42 (by decide) rfl ?_
      show T x 44 [(0, vR 200), (1, vI 103), (2, vI a9), (3, vI b9), (4, vI p9), (5, vI 0), (6, vI 0)] [] _ _ _
      refine st_iload_n C 1 dX11_fits_44 rfl rfl ?_
      refine st_lookup (a := 103) (tgt := 120) C dX11_fits_45 (by decide) rfl (by decide) ?_
      refine st_iload C dX11_fits_120 rfl ?_
      refine st_if_ne (tgt := 135) C dX11_fits_122 (by decide) (fun c_122 => by omega) (fun c_122 => ?_)
      refine st_aload_n C 0 dX11_fits_125 rfl rfl ?_
      refine st_iload_n C 2 dX11_fits_126 rfl rfl ?_
      refine st_iload C dX11_fits_127 rfl ?_
      by_cases b_129 : MClo mw a9 p9
      · refine st_callV (st := []) C dX11_fits_129 [vI a9, vI p9] (k_isClosed_t (mw := mw) (l := a9) (p9 := p9) hm h202 (by omega) (by omega) b_129) hm w_X11_90 rfl (by decide) (by decide) (by omega) (by omega) (Nat.le_of_ble_eq_true rfl) (ko_rt ?_)
        show T x 132 [(0, vR 200), (1, vI 103), (2, vI a9), (3, vI b9), (4, vI p9), (5, vI 0), (6, vI 0)] [vI 1] _ _ _
        refine st_if_ne (tgt := 139) C dX11_fits_132 (by decide) (fun c_132 => ?_) (fun c_132 => by omega)
        refine st_iconst C dX11_fits_139 (by decide) ?_
        exact st_zreturn C F dX11_fits_140 rfl (by omega) (rt_i (by first | rfl | (exfalso; omega) | exact absurd ⟨by omega, by assumption⟩ hP | exact absurd hP.2 (by assumption)) rfl) (by omega) (by omega)
      · refine st_callV (st := []) C dX11_fits_129 [vI a9, vI p9] (k_isClosed_f (mw := mw) (l := a9) (p9 := p9) hm h202 (by omega) (by omega) b_129) hm w_X11_90 rfl (by decide) (by decide) (by omega) (by omega) (Nat.le_of_ble_eq_true rfl) (ko_rt ?_)
        show T x 132 [(0, vR 200), (1, vI 103), (2, vI a9), (3, vI b9), (4, vI p9), (5, vI 0), (6, vI 0)] [vI 0] _ _ _
        refine st_if_ne (tgt := 139) C dX11_fits_132 (by decide) (fun c_132 => by omega) (fun c_132 => ?_)
        refine st_iconst C dX11_fits_135 (by decide) ?_
        refine st_goto (tgt := 140) C dX11_fits_136 (by decide) ?_
        exact st_zreturn C F dX11_fits_140 rfl (by omega) (rt_i (by first | rfl | (exfalso; omega) | exact absurd ⟨by omega, by assumption⟩ hP | exact absurd hP.2 (by assumption)) rfl) (by omega) (by omega)
    · refine st_iconst C dX11_fits_37 (by decide) ?_
      refine st_goto (tgt := 42) C dX11_fits_38 (by decide) ?_
      refine st_istore C dX11_fits_42 (by decide) rfl ?_
      show T x 44 [(0, vR 200), (1, vI 103), (2, vI a9), (3, vI b9), (4, vI p9), (5, vI 0), (6, vI 1)] [] _ _ _
      refine st_iload_n C 1 dX11_fits_44 rfl rfl ?_
      refine st_lookup (a := 103) (tgt := 120) C dX11_fits_45 (by decide) rfl (by decide) ?_
      refine st_iload C dX11_fits_120 rfl ?_
      refine st_if_ne (tgt := 135) C dX11_fits_122 (by decide) (fun c_122 => by omega) (fun c_122 => ?_)
      refine st_aload_n C 0 dX11_fits_125 rfl rfl ?_
      refine st_iload_n C 2 dX11_fits_126 rfl rfl ?_
      refine st_iload C dX11_fits_127 rfl ?_
      by_cases b_129 : MClo mw a9 p9
      · refine st_callV (st := []) C dX11_fits_129 [vI a9, vI p9] (k_isClosed_t (mw := mw) (l := a9) (p9 := p9) hm h202 (by omega) (by omega) b_129) hm w_X11_90 rfl (by decide) (by decide) (by omega) (by omega) (Nat.le_of_ble_eq_true rfl) (ko_rt ?_)
        show T x 132 [(0, vR 200), (1, vI 103), (2, vI a9), (3, vI b9), (4, vI p9), (5, vI 0), (6, vI 1)] [vI 1] _ _ _
        refine st_if_ne (tgt := 139) C dX11_fits_132 (by decide) (fun c_132 => ?_) (fun c_132 => by omega)
        refine st_iconst C dX11_fits_139 (by decide) ?_
        exact st_zreturn C F dX11_fits_140 rfl (by omega) (rt_i (by first | rfl | (exfalso; omega) | exact absurd ⟨by omega, by assumption⟩ hP | exact absurd hP.2 (by assumption)) rfl) (by omega) (by omega)
      · refine st_callV (st := []) C dX11_fits_129 [vI a9, vI p9] (k_isClosed_f (mw := mw) (l := a9) (p9 := p9) hm h202 (by omega) (by omega) b_129) hm w_X11_90 rfl (by decide) (by decide) (by omega) (by omega) (Nat.le_of_ble_eq_true rfl) (ko_rt ?_)
        show T x 132 [(0, vR 200), (1, vI 103), (2, vI a9), (3, vI b9), (4, vI p9), (5, vI 0), (6, vI 1)] [vI 0] _ _ _
        refine st_if_ne (tgt := 139) C dX11_fits_132 (by decide) (fun c_132 => by omega) (fun c_132 => ?_)
        refine st_iconst C dX11_fits_135 (by decide) ?_
        refine st_goto (tgt := 140) C dX11_fits_136 (by decide) ?_
        exact st_zreturn C F dX11_fits_140 rfl (by omega) (rt_i (by first | rfl | (exfalso; omega) | exact absurd ⟨by omega, by assumption⟩ hP | exact absurd hP.2 (by assumption)) rfl) (by omega) (by omega)
  · refine st_iconst C dX11_fits_15 (by decide) ?_
    refine st_goto (tgt := 20) C dX11_fits_16 (by decide) ?_
    refine st_istore C dX11_fits_20 (by decide) rfl ?_
    show T x 22 [(0, vR 200), (1, vI 103), (2, vI a9), (3, vI b9), (4, vI p9), (5, vI 1)] [] _ _ _
    refine st_aload_n C 0 dX11_fits_22 rfl rfl ?_
    refine st_getf C dX11_fits_23 fl_X11_13 hm rfl ?_
    refine st_bipush C dX11_fits_26 (by decide) (by decide) ?_
    refine st_iload_n C 3 dX11_fits_28 rfl rfl ?_
    refine st_imul C dX11_fits_29 ⟨(by omega), (by omega)⟩ ?_
    refine st_iload C dX11_fits_30 rfl ?_
    refine st_iadd C dX11_fits_32 ⟨(by omega), (by omega)⟩ ?_
    refine st_iald C dX11_fits_33 h202 (by omega) (by omega) ?_
    refine st_if_le (tgt := 41) C dX11_fits_34 (by decide) (fun c_34 => ?_) (fun c_34 => ?_)
    · refine st_iconst C dX11_fits_41 (by decide) ?_
      refine st_istore C dX11_fits_42 (by decide) rfl ?_
      show T x 44 [(0, vR 200), (1, vI 103), (2, vI a9), (3, vI b9), (4, vI p9), (5, vI 1), (6, vI 0)] [] _ _ _
      refine st_iload_n C 1 dX11_fits_44 rfl rfl ?_
      refine st_lookup (a := 103) (tgt := 120) C dX11_fits_45 (by decide) rfl (by decide) ?_
      refine st_iload C dX11_fits_120 rfl ?_
      refine st_if_ne (tgt := 135) C dX11_fits_122 (by decide) (fun c_122 => ?_) (fun c_122 => by omega)
      refine st_iconst C dX11_fits_135 (by decide) ?_
      refine st_goto (tgt := 140) C dX11_fits_136 (by decide) ?_
      exact st_zreturn C F dX11_fits_140 rfl (by omega) (rt_i (by first | rfl | (exfalso; omega) | exact absurd ⟨by omega, by assumption⟩ hP | exact absurd hP.2 (by assumption)) rfl) (by omega) (by omega)
    · refine st_iconst C dX11_fits_37 (by decide) ?_
      refine st_goto (tgt := 42) C dX11_fits_38 (by decide) ?_
      refine st_istore C dX11_fits_42 (by decide) rfl ?_
      show T x 44 [(0, vR 200), (1, vI 103), (2, vI a9), (3, vI b9), (4, vI p9), (5, vI 1), (6, vI 1)] [] _ _ _
      refine st_iload_n C 1 dX11_fits_44 rfl rfl ?_
      refine st_lookup (a := 103) (tgt := 120) C dX11_fits_45 (by decide) rfl (by decide) ?_
      refine st_iload C dX11_fits_120 rfl ?_
      refine st_if_ne (tgt := 135) C dX11_fits_122 (by decide) (fun c_122 => ?_) (fun c_122 => by omega)
      refine st_iconst C dX11_fits_135 (by decide) ?_
      refine st_goto (tgt := 140) C dX11_fits_136 (by decide) ?_
      exact st_zreturn C F dX11_fits_140 rfl (by omega) (rt_i (by first | rfl | (exfalso; omega) | exact absurd ⟨by omega, by assumption⟩ hP | exact absurd hP.2 (by assumption)) rfl) (by omega) (by omega)
set_option maxRecDepth 20000 in
set_option maxHeartbeats 4000000 in
theorem k_fitsg_f {g : Gx} {h : HP} {mv mrc mmc mmk mdv mwl mwa mwp mth : Int} {mw : Int → Int} {a9 b9 : Int} {p9 : Int} (hm : mO h mv mrc mmc mmk mdv mwl mwa mwp mth) (h202 : h 202 = some (oI 304 mw)) (ha : 0 ≤ a9 ∧ a9 ≤ 2) (hb : 0 ≤ b9 ∧ b9 ≤ 2) (hwv : RowV mw) (hp : 0 ≤ p9 ∧ p9 ≤ 63) (hP : BrkAt 103 a9 b9 mw p9) : Ct g yX11_fits (.code yX11_fits cX11_fits 7 (some .boolean)) 5 0 0 [vR 200, vI 103, vI a9, vI b9, vI p9] h (Rt (some (vI 0)) h) := by
  refine Ct.of (by decide) (Nat.le_of_ble_eq_true rfl) (fun x hg C F => ?_)
  subst hg
  have z1 := hwv.1 (64 * a9 + p9) (by omega) (by omega)
  have z2 := hwv.1 (64 * b9 + p9) (by omega) (by omega)
  rw [brk_g] at hP
  rw [← MClo_iff hp ha (fun j j1 j2 => (hwv.1 j j1 j2).1)] at hP
  show T x 0 [(0, vR 200), (1, vI 103), (2, vI a9), (3, vI b9), (4, vI p9)] [] h 0 0
  refine st_aload_n C 0 dX11_fits_0 rfl rfl ?_
  refine st_getf C dX11_fits_1 fl_X11_13 hm rfl ?_
  refine st_bipush C dX11_fits_4 (by decide) (by decide) ?_
  refine st_iload_n C 2 dX11_fits_6 rfl rfl ?_
  refine st_imul C dX11_fits_7 ⟨(by omega), (by omega)⟩ ?_
  refine st_iload C dX11_fits_8 rfl ?_
  refine st_iadd C dX11_fits_10 ⟨(by omega), (by omega)⟩ ?_
  refine st_iald C dX11_fits_11 h202 (by omega) (by omega) ?_
  refine st_if_le (tgt := 19) C dX11_fits_12 (by decide) (fun c_12 => ?_) (fun c_12 => ?_)
  · refine st_iconst C dX11_fits_19 (by decide) ?_
    refine st_istore C dX11_fits_20 (by decide) rfl ?_
    show T x 22 [(0, vR 200), (1, vI 103), (2, vI a9), (3, vI b9), (4, vI p9), (5, vI 0)] [] _ _ _
    refine st_aload_n C 0 dX11_fits_22 rfl rfl ?_
    refine st_getf C dX11_fits_23 fl_X11_13 hm rfl ?_
    refine st_bipush C dX11_fits_26 (by decide) (by decide) ?_
    refine st_iload_n C 3 dX11_fits_28 rfl rfl ?_
    refine st_imul C dX11_fits_29 ⟨(by omega), (by omega)⟩ ?_
    refine st_iload C dX11_fits_30 rfl ?_
    refine st_iadd C dX11_fits_32 ⟨(by omega), (by omega)⟩ ?_
    refine st_iald C dX11_fits_33 h202 (by omega) (by omega) ?_
    refine st_if_le (tgt := 41) C dX11_fits_34 (by decide) (fun c_34 => ?_) (fun c_34 => ?_)
    · refine st_iconst C dX11_fits_41 (by decide) ?_
      refine st_istore C dX11_fits_42 (by decide) rfl ?_
      show T x 44 [(0, vR 200), (1, vI 103), (2, vI a9), (3, vI b9), (4, vI p9), (5, vI 0), (6, vI 0)] [] _ _ _
      refine st_iload_n C 1 dX11_fits_44 rfl rfl ?_
      refine st_lookup (a := 103) (tgt := 120) C dX11_fits_45 (by decide) rfl (by decide) ?_
      refine st_iload C dX11_fits_120 rfl ?_
      refine st_if_ne (tgt := 135) C dX11_fits_122 (by decide) (fun c_122 => by omega) (fun c_122 => ?_)
      refine st_aload_n C 0 dX11_fits_125 rfl rfl ?_
      refine st_iload_n C 2 dX11_fits_126 rfl rfl ?_
      refine st_iload C dX11_fits_127 rfl ?_
      by_cases b_129 : MClo mw a9 p9
      · refine st_callV (st := []) C dX11_fits_129 [vI a9, vI p9] (k_isClosed_t (mw := mw) (l := a9) (p9 := p9) hm h202 (by omega) (by omega) b_129) hm w_X11_90 rfl (by decide) (by decide) (by omega) (by omega) (Nat.le_of_ble_eq_true rfl) (ko_rt ?_)
        show T x 132 [(0, vR 200), (1, vI 103), (2, vI a9), (3, vI b9), (4, vI p9), (5, vI 0), (6, vI 0)] [vI 1] _ _ _
        refine st_if_ne (tgt := 139) C dX11_fits_132 (by decide) (fun c_132 => ?_) (fun c_132 => by omega)
        refine st_iconst C dX11_fits_139 (by decide) ?_
        exact st_zreturn C F dX11_fits_140 rfl (by omega) (rt_i (by first | rfl | (exfalso; omega) | exact absurd ⟨by omega, by assumption⟩ hP | exact absurd hP.2 (by assumption)) rfl) (by omega) (by omega)
      · refine st_callV (st := []) C dX11_fits_129 [vI a9, vI p9] (k_isClosed_f (mw := mw) (l := a9) (p9 := p9) hm h202 (by omega) (by omega) b_129) hm w_X11_90 rfl (by decide) (by decide) (by omega) (by omega) (Nat.le_of_ble_eq_true rfl) (ko_rt ?_)
        show T x 132 [(0, vR 200), (1, vI 103), (2, vI a9), (3, vI b9), (4, vI p9), (5, vI 0), (6, vI 0)] [vI 0] _ _ _
        refine st_if_ne (tgt := 139) C dX11_fits_132 (by decide) (fun c_132 => by omega) (fun c_132 => ?_)
        refine st_iconst C dX11_fits_135 (by decide) ?_
        refine st_goto (tgt := 140) C dX11_fits_136 (by decide) ?_
        exact st_zreturn C F dX11_fits_140 rfl (by omega) (rt_i (by first | rfl | (exfalso; omega) | exact absurd ⟨by omega, by assumption⟩ hP | exact absurd hP.2 (by assumption)) rfl) (by omega) (by omega)
    · refine st_iconst C dX11_fits_37 (by decide) ?_
      refine st_goto (tgt := 42) C dX11_fits_38 (by decide) ?_
      refine st_istore C dX11_fits_42 (by decide) rfl ?_
      show T x 44 [(0, vR 200), (1, vI 103), (2, vI a9), (3, vI b9), (4, vI p9), (5, vI 0), (6, vI 1)] [] _ _ _
      refine st_iload_n C 1 dX11_fits_44 rfl rfl ?_
      refine st_lookup (a := 103) (tgt := 120) C dX11_fits_45 (by decide) rfl (by decide) ?_
      refine st_iload C dX11_fits_120 rfl ?_
      refine st_if_ne (tgt := 135) C dX11_fits_122 (by decide) (fun c_122 => by omega) (fun c_122 => ?_)
      refine st_aload_n C 0 dX11_fits_125 rfl rfl ?_
      refine st_iload_n C 2 dX11_fits_126 rfl rfl ?_
      refine st_iload C dX11_fits_127 rfl ?_
      by_cases b_129 : MClo mw a9 p9
      · refine st_callV (st := []) C dX11_fits_129 [vI a9, vI p9] (k_isClosed_t (mw := mw) (l := a9) (p9 := p9) hm h202 (by omega) (by omega) b_129) hm w_X11_90 rfl (by decide) (by decide) (by omega) (by omega) (Nat.le_of_ble_eq_true rfl) (ko_rt ?_)
        show T x 132 [(0, vR 200), (1, vI 103), (2, vI a9), (3, vI b9), (4, vI p9), (5, vI 0), (6, vI 1)] [vI 1] _ _ _
        refine st_if_ne (tgt := 139) C dX11_fits_132 (by decide) (fun c_132 => ?_) (fun c_132 => by omega)
        refine st_iconst C dX11_fits_139 (by decide) ?_
        exact st_zreturn C F dX11_fits_140 rfl (by omega) (rt_i (by first | rfl | (exfalso; omega) | exact absurd ⟨by omega, by assumption⟩ hP | exact absurd hP.2 (by assumption)) rfl) (by omega) (by omega)
      · refine st_callV (st := []) C dX11_fits_129 [vI a9, vI p9] (k_isClosed_f (mw := mw) (l := a9) (p9 := p9) hm h202 (by omega) (by omega) b_129) hm w_X11_90 rfl (by decide) (by decide) (by omega) (by omega) (Nat.le_of_ble_eq_true rfl) (ko_rt ?_)
        show T x 132 [(0, vR 200), (1, vI 103), (2, vI a9), (3, vI b9), (4, vI p9), (5, vI 0), (6, vI 1)] [vI 0] _ _ _
        refine st_if_ne (tgt := 139) C dX11_fits_132 (by decide) (fun c_132 => by omega) (fun c_132 => ?_)
        refine st_iconst C dX11_fits_135 (by decide) ?_
        refine st_goto (tgt := 140) C dX11_fits_136 (by decide) ?_
        exact st_zreturn C F dX11_fits_140 rfl (by omega) (rt_i (by first | rfl | (exfalso; omega) | exact absurd ⟨by omega, by assumption⟩ hP | exact absurd hP.2 (by assumption)) rfl) (by omega) (by omega)
  · refine st_iconst C dX11_fits_15 (by decide) ?_
    refine st_goto (tgt := 20) C dX11_fits_16 (by decide) ?_
    refine st_istore C dX11_fits_20 (by decide) rfl ?_
    show T x 22 [(0, vR 200), (1, vI 103), (2, vI a9), (3, vI b9), (4, vI p9), (5, vI 1)] [] _ _ _
    refine st_aload_n C 0 dX11_fits_22 rfl rfl ?_
    refine st_getf C dX11_fits_23 fl_X11_13 hm rfl ?_
    refine st_bipush C dX11_fits_26 (by decide) (by decide) ?_
    refine st_iload_n C 3 dX11_fits_28 rfl rfl ?_
    refine st_imul C dX11_fits_29 ⟨(by omega), (by omega)⟩ ?_
    refine st_iload C dX11_fits_30 rfl ?_
    refine st_iadd C dX11_fits_32 ⟨(by omega), (by omega)⟩ ?_
    refine st_iald C dX11_fits_33 h202 (by omega) (by omega) ?_
    refine st_if_le (tgt := 41) C dX11_fits_34 (by decide) (fun c_34 => ?_) (fun c_34 => ?_)
    · refine st_iconst C dX11_fits_41 (by decide) ?_
      refine st_istore C dX11_fits_42 (by decide) rfl ?_
      show T x 44 [(0, vR 200), (1, vI 103), (2, vI a9), (3, vI b9), (4, vI p9), (5, vI 1), (6, vI 0)] [] _ _ _
      refine st_iload_n C 1 dX11_fits_44 rfl rfl ?_
      refine st_lookup (a := 103) (tgt := 120) C dX11_fits_45 (by decide) rfl (by decide) ?_
      refine st_iload C dX11_fits_120 rfl ?_
      refine st_if_ne (tgt := 135) C dX11_fits_122 (by decide) (fun c_122 => ?_) (fun c_122 => by omega)
      refine st_iconst C dX11_fits_135 (by decide) ?_
      refine st_goto (tgt := 140) C dX11_fits_136 (by decide) ?_
      exact st_zreturn C F dX11_fits_140 rfl (by omega) (rt_i (by first | rfl | (exfalso; omega) | exact absurd ⟨by omega, by assumption⟩ hP | exact absurd hP.2 (by assumption)) rfl) (by omega) (by omega)
    · refine st_iconst C dX11_fits_37 (by decide) ?_
      refine st_goto (tgt := 42) C dX11_fits_38 (by decide) ?_
      refine st_istore C dX11_fits_42 (by decide) rfl ?_
      show T x 44 [(0, vR 200), (1, vI 103), (2, vI a9), (3, vI b9), (4, vI p9), (5, vI 1), (6, vI 1)] [] _ _ _
      refine st_iload_n C 1 dX11_fits_44 rfl rfl ?_
      refine st_lookup (a := 103) (tgt := 120) C dX11_fits_45 (by decide) rfl (by decide) ?_
      refine st_iload C dX11_fits_120 rfl ?_
      refine st_if_ne (tgt := 135) C dX11_fits_122 (by decide) (fun c_122 => ?_) (fun c_122 => by omega)
      refine st_iconst C dX11_fits_135 (by decide) ?_
      refine st_goto (tgt := 140) C dX11_fits_136 (by decide) ?_
      exact st_zreturn C F dX11_fits_140 rfl (by omega) (rt_i (by first | rfl | (exfalso; omega) | exact absurd ⟨by omega, by assumption⟩ hP | exact absurd hP.2 (by assumption)) rfl) (by omega) (by omega)
set_option maxRecDepth 20000 in
set_option maxHeartbeats 4000000 in
theorem k_fitsm_t {g : Gx} {h : HP} {mv mrc mmc mmk mdv mwl mwa mwp mth : Int} {mw : Int → Int} {a9 b9 : Int} {p9 : Int} (hm : mO h mv mrc mmc mmk mdv mwl mwa mwp mth) (h202 : h 202 = some (oI 304 mw)) (ha : 0 ≤ a9 ∧ a9 ≤ 2) (hb : 0 ≤ b9 ∧ b9 ≤ 2) (hwv : RowV mw) (hp : 0 ≤ p9 ∧ p9 ≤ 63) (hP : ¬ BrkAt 109 a9 b9 mw p9) : Ct g yX11_fits (.code yX11_fits cX11_fits 7 (some .boolean)) 5 0 0 [vR 200, vI 109, vI a9, vI b9, vI p9] h (Rt (some (vI 1)) h) := by
  refine Ct.of (by decide) (Nat.le_of_ble_eq_true rfl) (fun x hg C F => ?_)
  subst hg
  have z1 := hwv.1 (64 * a9 + p9) (by omega) (by omega)
  have z2 := hwv.1 (64 * b9 + p9) (by omega) (by omega)
  rw [brk_m] at hP
  rw [← mrdN_eq hp hwv.2] at hP
  show T x 0 [(0, vR 200), (1, vI 109), (2, vI a9), (3, vI b9), (4, vI p9)] [] h 0 0
  refine st_aload_n C 0 dX11_fits_0 rfl rfl ?_
  refine st_getf C dX11_fits_1 fl_X11_13 hm rfl ?_
  refine st_bipush C dX11_fits_4 (by decide) (by decide) ?_
  refine st_iload_n C 2 dX11_fits_6 rfl rfl ?_
  refine st_imul C dX11_fits_7 ⟨(by omega), (by omega)⟩ ?_
  refine st_iload C dX11_fits_8 rfl ?_
  refine st_iadd C dX11_fits_10 ⟨(by omega), (by omega)⟩ ?_
  refine st_iald C dX11_fits_11 h202 (by omega) (by omega) ?_
  refine st_if_le (tgt := 19) C dX11_fits_12 (by decide) (fun c_12 => ?_) (fun c_12 => ?_)
  · refine st_iconst C dX11_fits_19 (by decide) ?_
    refine st_istore C dX11_fits_20 (by decide) rfl ?_
    show T x 22 [(0, vR 200), (1, vI 109), (2, vI a9), (3, vI b9), (4, vI p9), (5, vI 0)] [] _ _ _
    refine st_aload_n C 0 dX11_fits_22 rfl rfl ?_
    refine st_getf C dX11_fits_23 fl_X11_13 hm rfl ?_
    refine st_bipush C dX11_fits_26 (by decide) (by decide) ?_
    refine st_iload_n C 3 dX11_fits_28 rfl rfl ?_
    refine st_imul C dX11_fits_29 ⟨(by omega), (by omega)⟩ ?_
    refine st_iload C dX11_fits_30 rfl ?_
    refine st_iadd C dX11_fits_32 ⟨(by omega), (by omega)⟩ ?_
    refine st_iald C dX11_fits_33 h202 (by omega) (by omega) ?_
    refine st_if_le (tgt := 41) C dX11_fits_34 (by decide) (fun c_34 => ?_) (fun c_34 => ?_)
    · refine st_iconst C dX11_fits_41 (by decide) ?_
      refine st_istore C dX11_fits_42 (by decide) rfl ?_
      show T x 44 [(0, vR 200), (1, vI 109), (2, vI a9), (3, vI b9), (4, vI p9), (5, vI 0), (6, vI 0)] [] _ _ _
      refine st_iload_n C 1 dX11_fits_44 rfl rfl ?_
      refine st_lookup (a := 109) (tgt := 141) C dX11_fits_45 (by decide) rfl (by decide) ?_
      refine st_iload C dX11_fits_141 rfl ?_
      refine st_bipush C dX11_fits_143 (by decide) (by decide) ?_
      refine st_irem C dX11_fits_145 (by omega) (by omega) ?_
      refine st_iconst C dX11_fits_146 (by decide) ?_
      refine st_bipush C dX11_fits_147 (by decide) (by decide) ?_
      by_cases b_149 : 1 ≤ (p9 % 8) ∧ (p9 % 8) ≤ 6
      · refine st_callS (st := []) C dX11_fits_149 [vI (p9 % 8), vI 1, vI 6] (k_isIn_t (v9 := (p9 % 8)) (l9 := 1) (u9 := 6)  b_149) w_X11_75 rfl (by decide) (by decide) (by omega) (by omega) (Nat.le_of_ble_eq_true rfl) (ko_rt ?_)
        show T x 152 [(0, vR 200), (1, vI 109), (2, vI a9), (3, vI b9), (4, vI p9), (5, vI 0), (6, vI 0)] [vI 1] _ _ _
        refine st_if_eq (tgt := 179) C dX11_fits_152 (by decide) (fun c_152 => by omega) (fun c_152 => ?_)
        refine st_iload C dX11_fits_155 rfl ?_
        refine st_bipush C dX11_fits_157 (by decide) (by decide) ?_
        refine st_idiv C dX11_fits_159 (by omega) (by omega) ?_
        refine st_iconst C dX11_fits_160 (by decide) ?_
        refine st_bipush C dX11_fits_161 (by decide) (by decide) ?_
        by_cases b_163 : 1 ≤ (p9 / 8) ∧ (p9 / 8) ≤ 6
        · refine st_callS (st := []) C dX11_fits_163 [vI (p9 / 8), vI 1, vI 6] (k_isIn_t (v9 := (p9 / 8)) (l9 := 1) (u9 := 6)  b_163) w_X11_75 rfl (by decide) (by decide) (by omega) (by omega) (Nat.le_of_ble_eq_true rfl) (ko_rt ?_)
          show T x 166 [(0, vR 200), (1, vI 109), (2, vI a9), (3, vI b9), (4, vI p9), (5, vI 0), (6, vI 0)] [vI 1] _ _ _
          refine st_if_eq (tgt := 179) C dX11_fits_166 (by decide) (fun c_166 => by omega) (fun c_166 => ?_)
          refine st_aload_n C 0 dX11_fits_169 rfl rfl ?_
          refine st_iload C dX11_fits_170 rfl ?_
          refine st_callV (st := []) C dX11_fits_172 [vI p9] (k_mroadsAt (mw := mw) (p9 := p9) hm h202 (by omega) hwv.2) hm w_X11_94 rfl (by decide) (by decide) (by omega) (by omega) (Nat.le_of_ble_eq_true rfl) (ko_rt ?_)
          show T x 175 [(0, vR 200), (1, vI 109), (2, vI a9), (3, vI b9), (4, vI p9), (5, vI 0), (6, vI 0)] [vI (mrdN mw p9)] _ _ _
          refine st_iconst C dX11_fits_175 (by decide) ?_
          refine st_icmp_eq (tgt := 183) C dX11_fits_176 (by decide) (fun c_176 => ?_) (fun c_176 => ?_)
          · refine st_iconst C dX11_fits_183 (by decide) ?_
            exact st_zreturn C F dX11_fits_184 rfl (by omega) (rt_i (by first | rfl | (exfalso; omega) | exact absurd ⟨by omega, by assumption⟩ hP | exact absurd hP.2 (by assumption)) rfl) (by omega) (by omega)
          · refine st_iconst C dX11_fits_179 (by decide) ?_
            refine st_goto (tgt := 184) C dX11_fits_180 (by decide) ?_
            exact st_zreturn C F dX11_fits_184 rfl (by omega) (rt_i (by first | rfl | (exfalso; omega) | exact absurd ⟨by omega, by assumption⟩ hP | exact absurd hP.2 (by assumption)) rfl) (by omega) (by omega)
        · refine st_callS (st := []) C dX11_fits_163 [vI (p9 / 8), vI 1, vI 6] (k_isIn_f (v9 := (p9 / 8)) (l9 := 1) (u9 := 6)  b_163) w_X11_75 rfl (by decide) (by decide) (by omega) (by omega) (Nat.le_of_ble_eq_true rfl) (ko_rt ?_)
          show T x 166 [(0, vR 200), (1, vI 109), (2, vI a9), (3, vI b9), (4, vI p9), (5, vI 0), (6, vI 0)] [vI 0] _ _ _
          refine st_if_eq (tgt := 179) C dX11_fits_166 (by decide) (fun c_166 => ?_) (fun c_166 => by omega)
          refine st_iconst C dX11_fits_179 (by decide) ?_
          refine st_goto (tgt := 184) C dX11_fits_180 (by decide) ?_
          exact st_zreturn C F dX11_fits_184 rfl (by omega) (rt_i (by first | rfl | (exfalso; omega) | exact absurd ⟨by omega, by assumption⟩ hP | exact absurd hP.2 (by assumption)) rfl) (by omega) (by omega)
      · refine st_callS (st := []) C dX11_fits_149 [vI (p9 % 8), vI 1, vI 6] (k_isIn_f (v9 := (p9 % 8)) (l9 := 1) (u9 := 6)  b_149) w_X11_75 rfl (by decide) (by decide) (by omega) (by omega) (Nat.le_of_ble_eq_true rfl) (ko_rt ?_)
        show T x 152 [(0, vR 200), (1, vI 109), (2, vI a9), (3, vI b9), (4, vI p9), (5, vI 0), (6, vI 0)] [vI 0] _ _ _
        refine st_if_eq (tgt := 179) C dX11_fits_152 (by decide) (fun c_152 => ?_) (fun c_152 => by omega)
        refine st_iconst C dX11_fits_179 (by decide) ?_
        refine st_goto (tgt := 184) C dX11_fits_180 (by decide) ?_
        exact st_zreturn C F dX11_fits_184 rfl (by omega) (rt_i (by first | rfl | (exfalso; omega) | exact absurd ⟨by omega, by assumption⟩ hP | exact absurd hP.2 (by assumption)) rfl) (by omega) (by omega)
    · refine st_iconst C dX11_fits_37 (by decide) ?_
      refine st_goto (tgt := 42) C dX11_fits_38 (by decide) ?_
      refine st_istore C dX11_fits_42 (by decide) rfl ?_
      show T x 44 [(0, vR 200), (1, vI 109), (2, vI a9), (3, vI b9), (4, vI p9), (5, vI 0), (6, vI 1)] [] _ _ _
      refine st_iload_n C 1 dX11_fits_44 rfl rfl ?_
      refine st_lookup (a := 109) (tgt := 141) C dX11_fits_45 (by decide) rfl (by decide) ?_
      refine st_iload C dX11_fits_141 rfl ?_
      refine st_bipush C dX11_fits_143 (by decide) (by decide) ?_
      refine st_irem C dX11_fits_145 (by omega) (by omega) ?_
      refine st_iconst C dX11_fits_146 (by decide) ?_
      refine st_bipush C dX11_fits_147 (by decide) (by decide) ?_
      by_cases b_149 : 1 ≤ (p9 % 8) ∧ (p9 % 8) ≤ 6
      · refine st_callS (st := []) C dX11_fits_149 [vI (p9 % 8), vI 1, vI 6] (k_isIn_t (v9 := (p9 % 8)) (l9 := 1) (u9 := 6)  b_149) w_X11_75 rfl (by decide) (by decide) (by omega) (by omega) (Nat.le_of_ble_eq_true rfl) (ko_rt ?_)
        show T x 152 [(0, vR 200), (1, vI 109), (2, vI a9), (3, vI b9), (4, vI p9), (5, vI 0), (6, vI 1)] [vI 1] _ _ _
        refine st_if_eq (tgt := 179) C dX11_fits_152 (by decide) (fun c_152 => by omega) (fun c_152 => ?_)
        refine st_iload C dX11_fits_155 rfl ?_
        refine st_bipush C dX11_fits_157 (by decide) (by decide) ?_
        refine st_idiv C dX11_fits_159 (by omega) (by omega) ?_
        refine st_iconst C dX11_fits_160 (by decide) ?_
        refine st_bipush C dX11_fits_161 (by decide) (by decide) ?_
        by_cases b_163 : 1 ≤ (p9 / 8) ∧ (p9 / 8) ≤ 6
        · refine st_callS (st := []) C dX11_fits_163 [vI (p9 / 8), vI 1, vI 6] (k_isIn_t (v9 := (p9 / 8)) (l9 := 1) (u9 := 6)  b_163) w_X11_75 rfl (by decide) (by decide) (by omega) (by omega) (Nat.le_of_ble_eq_true rfl) (ko_rt ?_)
          show T x 166 [(0, vR 200), (1, vI 109), (2, vI a9), (3, vI b9), (4, vI p9), (5, vI 0), (6, vI 1)] [vI 1] _ _ _
          refine st_if_eq (tgt := 179) C dX11_fits_166 (by decide) (fun c_166 => by omega) (fun c_166 => ?_)
          refine st_aload_n C 0 dX11_fits_169 rfl rfl ?_
          refine st_iload C dX11_fits_170 rfl ?_
          refine st_callV (st := []) C dX11_fits_172 [vI p9] (k_mroadsAt (mw := mw) (p9 := p9) hm h202 (by omega) hwv.2) hm w_X11_94 rfl (by decide) (by decide) (by omega) (by omega) (Nat.le_of_ble_eq_true rfl) (ko_rt ?_)
          show T x 175 [(0, vR 200), (1, vI 109), (2, vI a9), (3, vI b9), (4, vI p9), (5, vI 0), (6, vI 1)] [vI (mrdN mw p9)] _ _ _
          refine st_iconst C dX11_fits_175 (by decide) ?_
          refine st_icmp_eq (tgt := 183) C dX11_fits_176 (by decide) (fun c_176 => ?_) (fun c_176 => ?_)
          · refine st_iconst C dX11_fits_183 (by decide) ?_
            exact st_zreturn C F dX11_fits_184 rfl (by omega) (rt_i (by first | rfl | (exfalso; omega) | exact absurd ⟨by omega, by assumption⟩ hP | exact absurd hP.2 (by assumption)) rfl) (by omega) (by omega)
          · refine st_iconst C dX11_fits_179 (by decide) ?_
            refine st_goto (tgt := 184) C dX11_fits_180 (by decide) ?_
            exact st_zreturn C F dX11_fits_184 rfl (by omega) (rt_i (by first | rfl | (exfalso; omega) | exact absurd ⟨by omega, by assumption⟩ hP | exact absurd hP.2 (by assumption)) rfl) (by omega) (by omega)
        · refine st_callS (st := []) C dX11_fits_163 [vI (p9 / 8), vI 1, vI 6] (k_isIn_f (v9 := (p9 / 8)) (l9 := 1) (u9 := 6)  b_163) w_X11_75 rfl (by decide) (by decide) (by omega) (by omega) (Nat.le_of_ble_eq_true rfl) (ko_rt ?_)
          show T x 166 [(0, vR 200), (1, vI 109), (2, vI a9), (3, vI b9), (4, vI p9), (5, vI 0), (6, vI 1)] [vI 0] _ _ _
          refine st_if_eq (tgt := 179) C dX11_fits_166 (by decide) (fun c_166 => ?_) (fun c_166 => by omega)
          refine st_iconst C dX11_fits_179 (by decide) ?_
          refine st_goto (tgt := 184) C dX11_fits_180 (by decide) ?_
          exact st_zreturn C F dX11_fits_184 rfl (by omega) (rt_i (by first | rfl | (exfalso; omega) | exact absurd ⟨by omega, by assumption⟩ hP | exact absurd hP.2 (by assumption)) rfl) (by omega) (by omega)
      · refine st_callS (st := []) C dX11_fits_149 [vI (p9 % 8), vI 1, vI 6] (k_isIn_f (v9 := (p9 % 8)) (l9 := 1) (u9 := 6)  b_149) w_X11_75 rfl (by decide) (by decide) (by omega) (by omega) (Nat.le_of_ble_eq_true rfl) (ko_rt ?_)
        show T x 152 [(0, vR 200), (1, vI 109), (2, vI a9), (3, vI b9), (4, vI p9), (5, vI 0), (6, vI 1)] [vI 0] _ _ _
        refine st_if_eq (tgt := 179) C dX11_fits_152 (by decide) (fun c_152 => ?_) (fun c_152 => by omega)
        refine st_iconst C dX11_fits_179 (by decide) ?_
        refine st_goto (tgt := 184) C dX11_fits_180 (by decide) ?_
        exact st_zreturn C F dX11_fits_184 rfl (by omega) (rt_i (by first | rfl | (exfalso; omega) | exact absurd ⟨by omega, by assumption⟩ hP | exact absurd hP.2 (by assumption)) rfl) (by omega) (by omega)
  · refine st_iconst C dX11_fits_15 (by decide) ?_
    refine st_goto (tgt := 20) C dX11_fits_16 (by decide) ?_
    refine st_istore C dX11_fits_20 (by decide) rfl ?_
    show T x 22 [(0, vR 200), (1, vI 109), (2, vI a9), (3, vI b9), (4, vI p9), (5, vI 1)] [] _ _ _
    refine st_aload_n C 0 dX11_fits_22 rfl rfl ?_
    refine st_getf C dX11_fits_23 fl_X11_13 hm rfl ?_
    refine st_bipush C dX11_fits_26 (by decide) (by decide) ?_
    refine st_iload_n C 3 dX11_fits_28 rfl rfl ?_
    refine st_imul C dX11_fits_29 ⟨(by omega), (by omega)⟩ ?_
    refine st_iload C dX11_fits_30 rfl ?_
    refine st_iadd C dX11_fits_32 ⟨(by omega), (by omega)⟩ ?_
    refine st_iald C dX11_fits_33 h202 (by omega) (by omega) ?_
    refine st_if_le (tgt := 41) C dX11_fits_34 (by decide) (fun c_34 => ?_) (fun c_34 => ?_)
    · refine st_iconst C dX11_fits_41 (by decide) ?_
      refine st_istore C dX11_fits_42 (by decide) rfl ?_
      show T x 44 [(0, vR 200), (1, vI 109), (2, vI a9), (3, vI b9), (4, vI p9), (5, vI 1), (6, vI 0)] [] _ _ _
      refine st_iload_n C 1 dX11_fits_44 rfl rfl ?_
      refine st_lookup (a := 109) (tgt := 141) C dX11_fits_45 (by decide) rfl (by decide) ?_
      refine st_iload C dX11_fits_141 rfl ?_
      refine st_bipush C dX11_fits_143 (by decide) (by decide) ?_
      refine st_irem C dX11_fits_145 (by omega) (by omega) ?_
      refine st_iconst C dX11_fits_146 (by decide) ?_
      refine st_bipush C dX11_fits_147 (by decide) (by decide) ?_
      by_cases b_149 : 1 ≤ (p9 % 8) ∧ (p9 % 8) ≤ 6
      · refine st_callS (st := []) C dX11_fits_149 [vI (p9 % 8), vI 1, vI 6] (k_isIn_t (v9 := (p9 % 8)) (l9 := 1) (u9 := 6)  b_149) w_X11_75 rfl (by decide) (by decide) (by omega) (by omega) (Nat.le_of_ble_eq_true rfl) (ko_rt ?_)
        show T x 152 [(0, vR 200), (1, vI 109), (2, vI a9), (3, vI b9), (4, vI p9), (5, vI 1), (6, vI 0)] [vI 1] _ _ _
        refine st_if_eq (tgt := 179) C dX11_fits_152 (by decide) (fun c_152 => by omega) (fun c_152 => ?_)
        refine st_iload C dX11_fits_155 rfl ?_
        refine st_bipush C dX11_fits_157 (by decide) (by decide) ?_
        refine st_idiv C dX11_fits_159 (by omega) (by omega) ?_
        refine st_iconst C dX11_fits_160 (by decide) ?_
        refine st_bipush C dX11_fits_161 (by decide) (by decide) ?_
        by_cases b_163 : 1 ≤ (p9 / 8) ∧ (p9 / 8) ≤ 6
        · refine st_callS (st := []) C dX11_fits_163 [vI (p9 / 8), vI 1, vI 6] (k_isIn_t (v9 := (p9 / 8)) (l9 := 1) (u9 := 6)  b_163) w_X11_75 rfl (by decide) (by decide) (by omega) (by omega) (Nat.le_of_ble_eq_true rfl) (ko_rt ?_)
          show T x 166 [(0, vR 200), (1, vI 109), (2, vI a9), (3, vI b9), (4, vI p9), (5, vI 1), (6, vI 0)] [vI 1] _ _ _
          refine st_if_eq (tgt := 179) C dX11_fits_166 (by decide) (fun c_166 => by omega) (fun c_166 => ?_)
          refine st_aload_n C 0 dX11_fits_169 rfl rfl ?_
          refine st_iload C dX11_fits_170 rfl ?_
          refine st_callV (st := []) C dX11_fits_172 [vI p9] (k_mroadsAt (mw := mw) (p9 := p9) hm h202 (by omega) hwv.2) hm w_X11_94 rfl (by decide) (by decide) (by omega) (by omega) (Nat.le_of_ble_eq_true rfl) (ko_rt ?_)
          show T x 175 [(0, vR 200), (1, vI 109), (2, vI a9), (3, vI b9), (4, vI p9), (5, vI 1), (6, vI 0)] [vI (mrdN mw p9)] _ _ _
          refine st_iconst C dX11_fits_175 (by decide) ?_
          refine st_icmp_eq (tgt := 183) C dX11_fits_176 (by decide) (fun c_176 => ?_) (fun c_176 => ?_)
          · refine st_iconst C dX11_fits_183 (by decide) ?_
            exact st_zreturn C F dX11_fits_184 rfl (by omega) (rt_i (by first | rfl | (exfalso; omega) | exact absurd ⟨by omega, by assumption⟩ hP | exact absurd hP.2 (by assumption)) rfl) (by omega) (by omega)
          · refine st_iconst C dX11_fits_179 (by decide) ?_
            refine st_goto (tgt := 184) C dX11_fits_180 (by decide) ?_
            exact st_zreturn C F dX11_fits_184 rfl (by omega) (rt_i (by first | rfl | (exfalso; omega) | exact absurd ⟨by omega, by assumption⟩ hP | exact absurd hP.2 (by assumption)) rfl) (by omega) (by omega)
        · refine st_callS (st := []) C dX11_fits_163 [vI (p9 / 8), vI 1, vI 6] (k_isIn_f (v9 := (p9 / 8)) (l9 := 1) (u9 := 6)  b_163) w_X11_75 rfl (by decide) (by decide) (by omega) (by omega) (Nat.le_of_ble_eq_true rfl) (ko_rt ?_)
          show T x 166 [(0, vR 200), (1, vI 109), (2, vI a9), (3, vI b9), (4, vI p9), (5, vI 1), (6, vI 0)] [vI 0] _ _ _
          refine st_if_eq (tgt := 179) C dX11_fits_166 (by decide) (fun c_166 => ?_) (fun c_166 => by omega)
          refine st_iconst C dX11_fits_179 (by decide) ?_
          refine st_goto (tgt := 184) C dX11_fits_180 (by decide) ?_
          exact st_zreturn C F dX11_fits_184 rfl (by omega) (rt_i (by first | rfl | (exfalso; omega) | exact absurd ⟨by omega, by assumption⟩ hP | exact absurd hP.2 (by assumption)) rfl) (by omega) (by omega)
      · refine st_callS (st := []) C dX11_fits_149 [vI (p9 % 8), vI 1, vI 6] (k_isIn_f (v9 := (p9 % 8)) (l9 := 1) (u9 := 6)  b_149) w_X11_75 rfl (by decide) (by decide) (by omega) (by omega) (Nat.le_of_ble_eq_true rfl) (ko_rt ?_)
        show T x 152 [(0, vR 200), (1, vI 109), (2, vI a9), (3, vI b9), (4, vI p9), (5, vI 1), (6, vI 0)] [vI 0] _ _ _
        refine st_if_eq (tgt := 179) C dX11_fits_152 (by decide) (fun c_152 => ?_) (fun c_152 => by omega)
        refine st_iconst C dX11_fits_179 (by decide) ?_
        refine st_goto (tgt := 184) C dX11_fits_180 (by decide) ?_
        exact st_zreturn C F dX11_fits_184 rfl (by omega) (rt_i (by first | rfl | (exfalso; omega) | exact absurd ⟨by omega, by assumption⟩ hP | exact absurd hP.2 (by assumption)) rfl) (by omega) (by omega)
    · refine st_iconst C dX11_fits_37 (by decide) ?_
      refine st_goto (tgt := 42) C dX11_fits_38 (by decide) ?_
      refine st_istore C dX11_fits_42 (by decide) rfl ?_
      show T x 44 [(0, vR 200), (1, vI 109), (2, vI a9), (3, vI b9), (4, vI p9), (5, vI 1), (6, vI 1)] [] _ _ _
      refine st_iload_n C 1 dX11_fits_44 rfl rfl ?_
      refine st_lookup (a := 109) (tgt := 141) C dX11_fits_45 (by decide) rfl (by decide) ?_
      refine st_iload C dX11_fits_141 rfl ?_
      refine st_bipush C dX11_fits_143 (by decide) (by decide) ?_
      refine st_irem C dX11_fits_145 (by omega) (by omega) ?_
      refine st_iconst C dX11_fits_146 (by decide) ?_
      refine st_bipush C dX11_fits_147 (by decide) (by decide) ?_
      by_cases b_149 : 1 ≤ (p9 % 8) ∧ (p9 % 8) ≤ 6
      · refine st_callS (st := []) C dX11_fits_149 [vI (p9 % 8), vI 1, vI 6] (k_isIn_t (v9 := (p9 % 8)) (l9 := 1) (u9 := 6)  b_149) w_X11_75 rfl (by decide) (by decide) (by omega) (by omega) (Nat.le_of_ble_eq_true rfl) (ko_rt ?_)
        show T x 152 [(0, vR 200), (1, vI 109), (2, vI a9), (3, vI b9), (4, vI p9), (5, vI 1), (6, vI 1)] [vI 1] _ _ _
        refine st_if_eq (tgt := 179) C dX11_fits_152 (by decide) (fun c_152 => by omega) (fun c_152 => ?_)
        refine st_iload C dX11_fits_155 rfl ?_
        refine st_bipush C dX11_fits_157 (by decide) (by decide) ?_
        refine st_idiv C dX11_fits_159 (by omega) (by omega) ?_
        refine st_iconst C dX11_fits_160 (by decide) ?_
        refine st_bipush C dX11_fits_161 (by decide) (by decide) ?_
        by_cases b_163 : 1 ≤ (p9 / 8) ∧ (p9 / 8) ≤ 6
        · refine st_callS (st := []) C dX11_fits_163 [vI (p9 / 8), vI 1, vI 6] (k_isIn_t (v9 := (p9 / 8)) (l9 := 1) (u9 := 6)  b_163) w_X11_75 rfl (by decide) (by decide) (by omega) (by omega) (Nat.le_of_ble_eq_true rfl) (ko_rt ?_)
          show T x 166 [(0, vR 200), (1, vI 109), (2, vI a9), (3, vI b9), (4, vI p9), (5, vI 1), (6, vI 1)] [vI 1] _ _ _
          refine st_if_eq (tgt := 179) C dX11_fits_166 (by decide) (fun c_166 => by omega) (fun c_166 => ?_)
          refine st_aload_n C 0 dX11_fits_169 rfl rfl ?_
          refine st_iload C dX11_fits_170 rfl ?_
          refine st_callV (st := []) C dX11_fits_172 [vI p9] (k_mroadsAt (mw := mw) (p9 := p9) hm h202 (by omega) hwv.2) hm w_X11_94 rfl (by decide) (by decide) (by omega) (by omega) (Nat.le_of_ble_eq_true rfl) (ko_rt ?_)
          show T x 175 [(0, vR 200), (1, vI 109), (2, vI a9), (3, vI b9), (4, vI p9), (5, vI 1), (6, vI 1)] [vI (mrdN mw p9)] _ _ _
          refine st_iconst C dX11_fits_175 (by decide) ?_
          refine st_icmp_eq (tgt := 183) C dX11_fits_176 (by decide) (fun c_176 => ?_) (fun c_176 => ?_)
          · refine st_iconst C dX11_fits_183 (by decide) ?_
            exact st_zreturn C F dX11_fits_184 rfl (by omega) (rt_i (by first | rfl | (exfalso; omega) | exact absurd ⟨by omega, by assumption⟩ hP | exact absurd hP.2 (by assumption)) rfl) (by omega) (by omega)
          · refine st_iconst C dX11_fits_179 (by decide) ?_
            refine st_goto (tgt := 184) C dX11_fits_180 (by decide) ?_
            exact st_zreturn C F dX11_fits_184 rfl (by omega) (rt_i (by first | rfl | (exfalso; omega) | exact absurd ⟨by omega, by assumption⟩ hP | exact absurd hP.2 (by assumption)) rfl) (by omega) (by omega)
        · refine st_callS (st := []) C dX11_fits_163 [vI (p9 / 8), vI 1, vI 6] (k_isIn_f (v9 := (p9 / 8)) (l9 := 1) (u9 := 6)  b_163) w_X11_75 rfl (by decide) (by decide) (by omega) (by omega) (Nat.le_of_ble_eq_true rfl) (ko_rt ?_)
          show T x 166 [(0, vR 200), (1, vI 109), (2, vI a9), (3, vI b9), (4, vI p9), (5, vI 1), (6, vI 1)] [vI 0] _ _ _
          refine st_if_eq (tgt := 179) C dX11_fits_166 (by decide) (fun c_166 => ?_) (fun c_166 => by omega)
          refine st_iconst C dX11_fits_179 (by decide) ?_
          refine st_goto (tgt := 184) C dX11_fits_180 (by decide) ?_
          exact st_zreturn C F dX11_fits_184 rfl (by omega) (rt_i (by first | rfl | (exfalso; omega) | exact absurd ⟨by omega, by assumption⟩ hP | exact absurd hP.2 (by assumption)) rfl) (by omega) (by omega)
      · refine st_callS (st := []) C dX11_fits_149 [vI (p9 % 8), vI 1, vI 6] (k_isIn_f (v9 := (p9 % 8)) (l9 := 1) (u9 := 6)  b_149) w_X11_75 rfl (by decide) (by decide) (by omega) (by omega) (Nat.le_of_ble_eq_true rfl) (ko_rt ?_)
        show T x 152 [(0, vR 200), (1, vI 109), (2, vI a9), (3, vI b9), (4, vI p9), (5, vI 1), (6, vI 1)] [vI 0] _ _ _
        refine st_if_eq (tgt := 179) C dX11_fits_152 (by decide) (fun c_152 => ?_) (fun c_152 => by omega)
        refine st_iconst C dX11_fits_179 (by decide) ?_
        refine st_goto (tgt := 184) C dX11_fits_180 (by decide) ?_
        exact st_zreturn C F dX11_fits_184 rfl (by omega) (rt_i (by first | rfl | (exfalso; omega) | exact absurd ⟨by omega, by assumption⟩ hP | exact absurd hP.2 (by assumption)) rfl) (by omega) (by omega)
set_option maxRecDepth 20000 in
set_option maxHeartbeats 4000000 in
theorem k_fitsm_f {g : Gx} {h : HP} {mv mrc mmc mmk mdv mwl mwa mwp mth : Int} {mw : Int → Int} {a9 b9 : Int} {p9 : Int} (hm : mO h mv mrc mmc mmk mdv mwl mwa mwp mth) (h202 : h 202 = some (oI 304 mw)) (ha : 0 ≤ a9 ∧ a9 ≤ 2) (hb : 0 ≤ b9 ∧ b9 ≤ 2) (hwv : RowV mw) (hp : 0 ≤ p9 ∧ p9 ≤ 63) (hP : BrkAt 109 a9 b9 mw p9) : Ct g yX11_fits (.code yX11_fits cX11_fits 7 (some .boolean)) 5 0 0 [vR 200, vI 109, vI a9, vI b9, vI p9] h (Rt (some (vI 0)) h) := by
  refine Ct.of (by decide) (Nat.le_of_ble_eq_true rfl) (fun x hg C F => ?_)
  subst hg
  have z1 := hwv.1 (64 * a9 + p9) (by omega) (by omega)
  have z2 := hwv.1 (64 * b9 + p9) (by omega) (by omega)
  rw [brk_m] at hP
  rw [← mrdN_eq hp hwv.2] at hP
  show T x 0 [(0, vR 200), (1, vI 109), (2, vI a9), (3, vI b9), (4, vI p9)] [] h 0 0
  refine st_aload_n C 0 dX11_fits_0 rfl rfl ?_
  refine st_getf C dX11_fits_1 fl_X11_13 hm rfl ?_
  refine st_bipush C dX11_fits_4 (by decide) (by decide) ?_
  refine st_iload_n C 2 dX11_fits_6 rfl rfl ?_
  refine st_imul C dX11_fits_7 ⟨(by omega), (by omega)⟩ ?_
  refine st_iload C dX11_fits_8 rfl ?_
  refine st_iadd C dX11_fits_10 ⟨(by omega), (by omega)⟩ ?_
  refine st_iald C dX11_fits_11 h202 (by omega) (by omega) ?_
  refine st_if_le (tgt := 19) C dX11_fits_12 (by decide) (fun c_12 => ?_) (fun c_12 => ?_)
  · refine st_iconst C dX11_fits_19 (by decide) ?_
    refine st_istore C dX11_fits_20 (by decide) rfl ?_
    show T x 22 [(0, vR 200), (1, vI 109), (2, vI a9), (3, vI b9), (4, vI p9), (5, vI 0)] [] _ _ _
    refine st_aload_n C 0 dX11_fits_22 rfl rfl ?_
    refine st_getf C dX11_fits_23 fl_X11_13 hm rfl ?_
    refine st_bipush C dX11_fits_26 (by decide) (by decide) ?_
    refine st_iload_n C 3 dX11_fits_28 rfl rfl ?_
    refine st_imul C dX11_fits_29 ⟨(by omega), (by omega)⟩ ?_
    refine st_iload C dX11_fits_30 rfl ?_
    refine st_iadd C dX11_fits_32 ⟨(by omega), (by omega)⟩ ?_
    refine st_iald C dX11_fits_33 h202 (by omega) (by omega) ?_
    refine st_if_le (tgt := 41) C dX11_fits_34 (by decide) (fun c_34 => ?_) (fun c_34 => ?_)
    · refine st_iconst C dX11_fits_41 (by decide) ?_
      refine st_istore C dX11_fits_42 (by decide) rfl ?_
      show T x 44 [(0, vR 200), (1, vI 109), (2, vI a9), (3, vI b9), (4, vI p9), (5, vI 0), (6, vI 0)] [] _ _ _
      refine st_iload_n C 1 dX11_fits_44 rfl rfl ?_
      refine st_lookup (a := 109) (tgt := 141) C dX11_fits_45 (by decide) rfl (by decide) ?_
      refine st_iload C dX11_fits_141 rfl ?_
      refine st_bipush C dX11_fits_143 (by decide) (by decide) ?_
      refine st_irem C dX11_fits_145 (by omega) (by omega) ?_
      refine st_iconst C dX11_fits_146 (by decide) ?_
      refine st_bipush C dX11_fits_147 (by decide) (by decide) ?_
      by_cases b_149 : 1 ≤ (p9 % 8) ∧ (p9 % 8) ≤ 6
      · refine st_callS (st := []) C dX11_fits_149 [vI (p9 % 8), vI 1, vI 6] (k_isIn_t (v9 := (p9 % 8)) (l9 := 1) (u9 := 6)  b_149) w_X11_75 rfl (by decide) (by decide) (by omega) (by omega) (Nat.le_of_ble_eq_true rfl) (ko_rt ?_)
        show T x 152 [(0, vR 200), (1, vI 109), (2, vI a9), (3, vI b9), (4, vI p9), (5, vI 0), (6, vI 0)] [vI 1] _ _ _
        refine st_if_eq (tgt := 179) C dX11_fits_152 (by decide) (fun c_152 => by omega) (fun c_152 => ?_)
        refine st_iload C dX11_fits_155 rfl ?_
        refine st_bipush C dX11_fits_157 (by decide) (by decide) ?_
        refine st_idiv C dX11_fits_159 (by omega) (by omega) ?_
        refine st_iconst C dX11_fits_160 (by decide) ?_
        refine st_bipush C dX11_fits_161 (by decide) (by decide) ?_
        by_cases b_163 : 1 ≤ (p9 / 8) ∧ (p9 / 8) ≤ 6
        · refine st_callS (st := []) C dX11_fits_163 [vI (p9 / 8), vI 1, vI 6] (k_isIn_t (v9 := (p9 / 8)) (l9 := 1) (u9 := 6)  b_163) w_X11_75 rfl (by decide) (by decide) (by omega) (by omega) (Nat.le_of_ble_eq_true rfl) (ko_rt ?_)
          show T x 166 [(0, vR 200), (1, vI 109), (2, vI a9), (3, vI b9), (4, vI p9), (5, vI 0), (6, vI 0)] [vI 1] _ _ _
          refine st_if_eq (tgt := 179) C dX11_fits_166 (by decide) (fun c_166 => by omega) (fun c_166 => ?_)
          refine st_aload_n C 0 dX11_fits_169 rfl rfl ?_
          refine st_iload C dX11_fits_170 rfl ?_
          refine st_callV (st := []) C dX11_fits_172 [vI p9] (k_mroadsAt (mw := mw) (p9 := p9) hm h202 (by omega) hwv.2) hm w_X11_94 rfl (by decide) (by decide) (by omega) (by omega) (Nat.le_of_ble_eq_true rfl) (ko_rt ?_)
          show T x 175 [(0, vR 200), (1, vI 109), (2, vI a9), (3, vI b9), (4, vI p9), (5, vI 0), (6, vI 0)] [vI (mrdN mw p9)] _ _ _
          refine st_iconst C dX11_fits_175 (by decide) ?_
          refine st_icmp_eq (tgt := 183) C dX11_fits_176 (by decide) (fun c_176 => ?_) (fun c_176 => ?_)
          · refine st_iconst C dX11_fits_183 (by decide) ?_
            exact st_zreturn C F dX11_fits_184 rfl (by omega) (rt_i (by first | rfl | (exfalso; omega) | exact absurd ⟨by omega, by assumption⟩ hP | exact absurd hP.2 (by assumption)) rfl) (by omega) (by omega)
          · refine st_iconst C dX11_fits_179 (by decide) ?_
            refine st_goto (tgt := 184) C dX11_fits_180 (by decide) ?_
            exact st_zreturn C F dX11_fits_184 rfl (by omega) (rt_i (by first | rfl | (exfalso; omega) | exact absurd ⟨by omega, by assumption⟩ hP | exact absurd hP.2 (by assumption)) rfl) (by omega) (by omega)
        · refine st_callS (st := []) C dX11_fits_163 [vI (p9 / 8), vI 1, vI 6] (k_isIn_f (v9 := (p9 / 8)) (l9 := 1) (u9 := 6)  b_163) w_X11_75 rfl (by decide) (by decide) (by omega) (by omega) (Nat.le_of_ble_eq_true rfl) (ko_rt ?_)
          show T x 166 [(0, vR 200), (1, vI 109), (2, vI a9), (3, vI b9), (4, vI p9), (5, vI 0), (6, vI 0)] [vI 0] _ _ _
          refine st_if_eq (tgt := 179) C dX11_fits_166 (by decide) (fun c_166 => ?_) (fun c_166 => by omega)
          refine st_iconst C dX11_fits_179 (by decide) ?_
          refine st_goto (tgt := 184) C dX11_fits_180 (by decide) ?_
          exact st_zreturn C F dX11_fits_184 rfl (by omega) (rt_i (by first | rfl | (exfalso; omega) | exact absurd ⟨by omega, by assumption⟩ hP | exact absurd hP.2 (by assumption)) rfl) (by omega) (by omega)
      · refine st_callS (st := []) C dX11_fits_149 [vI (p9 % 8), vI 1, vI 6] (k_isIn_f (v9 := (p9 % 8)) (l9 := 1) (u9 := 6)  b_149) w_X11_75 rfl (by decide) (by decide) (by omega) (by omega) (Nat.le_of_ble_eq_true rfl) (ko_rt ?_)
        show T x 152 [(0, vR 200), (1, vI 109), (2, vI a9), (3, vI b9), (4, vI p9), (5, vI 0), (6, vI 0)] [vI 0] _ _ _
        refine st_if_eq (tgt := 179) C dX11_fits_152 (by decide) (fun c_152 => ?_) (fun c_152 => by omega)
        refine st_iconst C dX11_fits_179 (by decide) ?_
        refine st_goto (tgt := 184) C dX11_fits_180 (by decide) ?_
        exact st_zreturn C F dX11_fits_184 rfl (by omega) (rt_i (by first | rfl | (exfalso; omega) | exact absurd ⟨by omega, by assumption⟩ hP | exact absurd hP.2 (by assumption)) rfl) (by omega) (by omega)
    · refine st_iconst C dX11_fits_37 (by decide) ?_
      refine st_goto (tgt := 42) C dX11_fits_38 (by decide) ?_
      refine st_istore C dX11_fits_42 (by decide) rfl ?_
      show T x 44 [(0, vR 200), (1, vI 109), (2, vI a9), (3, vI b9), (4, vI p9), (5, vI 0), (6, vI 1)] [] _ _ _
      refine st_iload_n C 1 dX11_fits_44 rfl rfl ?_
      refine st_lookup (a := 109) (tgt := 141) C dX11_fits_45 (by decide) rfl (by decide) ?_
      refine st_iload C dX11_fits_141 rfl ?_
      refine st_bipush C dX11_fits_143 (by decide) (by decide) ?_
      refine st_irem C dX11_fits_145 (by omega) (by omega) ?_
      refine st_iconst C dX11_fits_146 (by decide) ?_
      refine st_bipush C dX11_fits_147 (by decide) (by decide) ?_
      by_cases b_149 : 1 ≤ (p9 % 8) ∧ (p9 % 8) ≤ 6
      · refine st_callS (st := []) C dX11_fits_149 [vI (p9 % 8), vI 1, vI 6] (k_isIn_t (v9 := (p9 % 8)) (l9 := 1) (u9 := 6)  b_149) w_X11_75 rfl (by decide) (by decide) (by omega) (by omega) (Nat.le_of_ble_eq_true rfl) (ko_rt ?_)
        show T x 152 [(0, vR 200), (1, vI 109), (2, vI a9), (3, vI b9), (4, vI p9), (5, vI 0), (6, vI 1)] [vI 1] _ _ _
        refine st_if_eq (tgt := 179) C dX11_fits_152 (by decide) (fun c_152 => by omega) (fun c_152 => ?_)
        refine st_iload C dX11_fits_155 rfl ?_
        refine st_bipush C dX11_fits_157 (by decide) (by decide) ?_
        refine st_idiv C dX11_fits_159 (by omega) (by omega) ?_
        refine st_iconst C dX11_fits_160 (by decide) ?_
        refine st_bipush C dX11_fits_161 (by decide) (by decide) ?_
        by_cases b_163 : 1 ≤ (p9 / 8) ∧ (p9 / 8) ≤ 6
        · refine st_callS (st := []) C dX11_fits_163 [vI (p9 / 8), vI 1, vI 6] (k_isIn_t (v9 := (p9 / 8)) (l9 := 1) (u9 := 6)  b_163) w_X11_75 rfl (by decide) (by decide) (by omega) (by omega) (Nat.le_of_ble_eq_true rfl) (ko_rt ?_)
          show T x 166 [(0, vR 200), (1, vI 109), (2, vI a9), (3, vI b9), (4, vI p9), (5, vI 0), (6, vI 1)] [vI 1] _ _ _
          refine st_if_eq (tgt := 179) C dX11_fits_166 (by decide) (fun c_166 => by omega) (fun c_166 => ?_)
          refine st_aload_n C 0 dX11_fits_169 rfl rfl ?_
          refine st_iload C dX11_fits_170 rfl ?_
          refine st_callV (st := []) C dX11_fits_172 [vI p9] (k_mroadsAt (mw := mw) (p9 := p9) hm h202 (by omega) hwv.2) hm w_X11_94 rfl (by decide) (by decide) (by omega) (by omega) (Nat.le_of_ble_eq_true rfl) (ko_rt ?_)
          show T x 175 [(0, vR 200), (1, vI 109), (2, vI a9), (3, vI b9), (4, vI p9), (5, vI 0), (6, vI 1)] [vI (mrdN mw p9)] _ _ _
          refine st_iconst C dX11_fits_175 (by decide) ?_
          refine st_icmp_eq (tgt := 183) C dX11_fits_176 (by decide) (fun c_176 => ?_) (fun c_176 => ?_)
          · refine st_iconst C dX11_fits_183 (by decide) ?_
            exact st_zreturn C F dX11_fits_184 rfl (by omega) (rt_i (by first | rfl | (exfalso; omega) | exact absurd ⟨by omega, by assumption⟩ hP | exact absurd hP.2 (by assumption)) rfl) (by omega) (by omega)
          · refine st_iconst C dX11_fits_179 (by decide) ?_
            refine st_goto (tgt := 184) C dX11_fits_180 (by decide) ?_
            exact st_zreturn C F dX11_fits_184 rfl (by omega) (rt_i (by first | rfl | (exfalso; omega) | exact absurd ⟨by omega, by assumption⟩ hP | exact absurd hP.2 (by assumption)) rfl) (by omega) (by omega)
        · refine st_callS (st := []) C dX11_fits_163 [vI (p9 / 8), vI 1, vI 6] (k_isIn_f (v9 := (p9 / 8)) (l9 := 1) (u9 := 6)  b_163) w_X11_75 rfl (by decide) (by decide) (by omega) (by omega) (Nat.le_of_ble_eq_true rfl) (ko_rt ?_)
          show T x 166 [(0, vR 200), (1, vI 109), (2, vI a9), (3, vI b9), (4, vI p9), (5, vI 0), (6, vI 1)] [vI 0] _ _ _
          refine st_if_eq (tgt := 179) C dX11_fits_166 (by decide) (fun c_166 => ?_) (fun c_166 => by omega)
          refine st_iconst C dX11_fits_179 (by decide) ?_
          refine st_goto (tgt := 184) C dX11_fits_180 (by decide) ?_
          exact st_zreturn C F dX11_fits_184 rfl (by omega) (rt_i (by first | rfl | (exfalso; omega) | exact absurd ⟨by omega, by assumption⟩ hP | exact absurd hP.2 (by assumption)) rfl) (by omega) (by omega)
      · refine st_callS (st := []) C dX11_fits_149 [vI (p9 % 8), vI 1, vI 6] (k_isIn_f (v9 := (p9 % 8)) (l9 := 1) (u9 := 6)  b_149) w_X11_75 rfl (by decide) (by decide) (by omega) (by omega) (Nat.le_of_ble_eq_true rfl) (ko_rt ?_)
        show T x 152 [(0, vR 200), (1, vI 109), (2, vI a9), (3, vI b9), (4, vI p9), (5, vI 0), (6, vI 1)] [vI 0] _ _ _
        refine st_if_eq (tgt := 179) C dX11_fits_152 (by decide) (fun c_152 => ?_) (fun c_152 => by omega)
        refine st_iconst C dX11_fits_179 (by decide) ?_
        refine st_goto (tgt := 184) C dX11_fits_180 (by decide) ?_
        exact st_zreturn C F dX11_fits_184 rfl (by omega) (rt_i (by first | rfl | (exfalso; omega) | exact absurd ⟨by omega, by assumption⟩ hP | exact absurd hP.2 (by assumption)) rfl) (by omega) (by omega)
  · refine st_iconst C dX11_fits_15 (by decide) ?_
    refine st_goto (tgt := 20) C dX11_fits_16 (by decide) ?_
    refine st_istore C dX11_fits_20 (by decide) rfl ?_
    show T x 22 [(0, vR 200), (1, vI 109), (2, vI a9), (3, vI b9), (4, vI p9), (5, vI 1)] [] _ _ _
    refine st_aload_n C 0 dX11_fits_22 rfl rfl ?_
    refine st_getf C dX11_fits_23 fl_X11_13 hm rfl ?_
    refine st_bipush C dX11_fits_26 (by decide) (by decide) ?_
    refine st_iload_n C 3 dX11_fits_28 rfl rfl ?_
    refine st_imul C dX11_fits_29 ⟨(by omega), (by omega)⟩ ?_
    refine st_iload C dX11_fits_30 rfl ?_
    refine st_iadd C dX11_fits_32 ⟨(by omega), (by omega)⟩ ?_
    refine st_iald C dX11_fits_33 h202 (by omega) (by omega) ?_
    refine st_if_le (tgt := 41) C dX11_fits_34 (by decide) (fun c_34 => ?_) (fun c_34 => ?_)
    · refine st_iconst C dX11_fits_41 (by decide) ?_
      refine st_istore C dX11_fits_42 (by decide) rfl ?_
      show T x 44 [(0, vR 200), (1, vI 109), (2, vI a9), (3, vI b9), (4, vI p9), (5, vI 1), (6, vI 0)] [] _ _ _
      refine st_iload_n C 1 dX11_fits_44 rfl rfl ?_
      refine st_lookup (a := 109) (tgt := 141) C dX11_fits_45 (by decide) rfl (by decide) ?_
      refine st_iload C dX11_fits_141 rfl ?_
      refine st_bipush C dX11_fits_143 (by decide) (by decide) ?_
      refine st_irem C dX11_fits_145 (by omega) (by omega) ?_
      refine st_iconst C dX11_fits_146 (by decide) ?_
      refine st_bipush C dX11_fits_147 (by decide) (by decide) ?_
      by_cases b_149 : 1 ≤ (p9 % 8) ∧ (p9 % 8) ≤ 6
      · refine st_callS (st := []) C dX11_fits_149 [vI (p9 % 8), vI 1, vI 6] (k_isIn_t (v9 := (p9 % 8)) (l9 := 1) (u9 := 6)  b_149) w_X11_75 rfl (by decide) (by decide) (by omega) (by omega) (Nat.le_of_ble_eq_true rfl) (ko_rt ?_)
        show T x 152 [(0, vR 200), (1, vI 109), (2, vI a9), (3, vI b9), (4, vI p9), (5, vI 1), (6, vI 0)] [vI 1] _ _ _
        refine st_if_eq (tgt := 179) C dX11_fits_152 (by decide) (fun c_152 => by omega) (fun c_152 => ?_)
        refine st_iload C dX11_fits_155 rfl ?_
        refine st_bipush C dX11_fits_157 (by decide) (by decide) ?_
        refine st_idiv C dX11_fits_159 (by omega) (by omega) ?_
        refine st_iconst C dX11_fits_160 (by decide) ?_
        refine st_bipush C dX11_fits_161 (by decide) (by decide) ?_
        by_cases b_163 : 1 ≤ (p9 / 8) ∧ (p9 / 8) ≤ 6
        · refine st_callS (st := []) C dX11_fits_163 [vI (p9 / 8), vI 1, vI 6] (k_isIn_t (v9 := (p9 / 8)) (l9 := 1) (u9 := 6)  b_163) w_X11_75 rfl (by decide) (by decide) (by omega) (by omega) (Nat.le_of_ble_eq_true rfl) (ko_rt ?_)
          show T x 166 [(0, vR 200), (1, vI 109), (2, vI a9), (3, vI b9), (4, vI p9), (5, vI 1), (6, vI 0)] [vI 1] _ _ _
          refine st_if_eq (tgt := 179) C dX11_fits_166 (by decide) (fun c_166 => by omega) (fun c_166 => ?_)
          refine st_aload_n C 0 dX11_fits_169 rfl rfl ?_
          refine st_iload C dX11_fits_170 rfl ?_
          refine st_callV (st := []) C dX11_fits_172 [vI p9] (k_mroadsAt (mw := mw) (p9 := p9) hm h202 (by omega) hwv.2) hm w_X11_94 rfl (by decide) (by decide) (by omega) (by omega) (Nat.le_of_ble_eq_true rfl) (ko_rt ?_)
          show T x 175 [(0, vR 200), (1, vI 109), (2, vI a9), (3, vI b9), (4, vI p9), (5, vI 1), (6, vI 0)] [vI (mrdN mw p9)] _ _ _
          refine st_iconst C dX11_fits_175 (by decide) ?_
          refine st_icmp_eq (tgt := 183) C dX11_fits_176 (by decide) (fun c_176 => ?_) (fun c_176 => ?_)
          · refine st_iconst C dX11_fits_183 (by decide) ?_
            exact st_zreturn C F dX11_fits_184 rfl (by omega) (rt_i (by first | rfl | (exfalso; omega) | exact absurd ⟨by omega, by assumption⟩ hP | exact absurd hP.2 (by assumption)) rfl) (by omega) (by omega)
          · refine st_iconst C dX11_fits_179 (by decide) ?_
            refine st_goto (tgt := 184) C dX11_fits_180 (by decide) ?_
            exact st_zreturn C F dX11_fits_184 rfl (by omega) (rt_i (by first | rfl | (exfalso; omega) | exact absurd ⟨by omega, by assumption⟩ hP | exact absurd hP.2 (by assumption)) rfl) (by omega) (by omega)
        · refine st_callS (st := []) C dX11_fits_163 [vI (p9 / 8), vI 1, vI 6] (k_isIn_f (v9 := (p9 / 8)) (l9 := 1) (u9 := 6)  b_163) w_X11_75 rfl (by decide) (by decide) (by omega) (by omega) (Nat.le_of_ble_eq_true rfl) (ko_rt ?_)
          show T x 166 [(0, vR 200), (1, vI 109), (2, vI a9), (3, vI b9), (4, vI p9), (5, vI 1), (6, vI 0)] [vI 0] _ _ _
          refine st_if_eq (tgt := 179) C dX11_fits_166 (by decide) (fun c_166 => ?_) (fun c_166 => by omega)
          refine st_iconst C dX11_fits_179 (by decide) ?_
          refine st_goto (tgt := 184) C dX11_fits_180 (by decide) ?_
          exact st_zreturn C F dX11_fits_184 rfl (by omega) (rt_i (by first | rfl | (exfalso; omega) | exact absurd ⟨by omega, by assumption⟩ hP | exact absurd hP.2 (by assumption)) rfl) (by omega) (by omega)
      · refine st_callS (st := []) C dX11_fits_149 [vI (p9 % 8), vI 1, vI 6] (k_isIn_f (v9 := (p9 % 8)) (l9 := 1) (u9 := 6)  b_149) w_X11_75 rfl (by decide) (by decide) (by omega) (by omega) (Nat.le_of_ble_eq_true rfl) (ko_rt ?_)
        show T x 152 [(0, vR 200), (1, vI 109), (2, vI a9), (3, vI b9), (4, vI p9), (5, vI 1), (6, vI 0)] [vI 0] _ _ _
        refine st_if_eq (tgt := 179) C dX11_fits_152 (by decide) (fun c_152 => ?_) (fun c_152 => by omega)
        refine st_iconst C dX11_fits_179 (by decide) ?_
        refine st_goto (tgt := 184) C dX11_fits_180 (by decide) ?_
        exact st_zreturn C F dX11_fits_184 rfl (by omega) (rt_i (by first | rfl | (exfalso; omega) | exact absurd ⟨by omega, by assumption⟩ hP | exact absurd hP.2 (by assumption)) rfl) (by omega) (by omega)
    · refine st_iconst C dX11_fits_37 (by decide) ?_
      refine st_goto (tgt := 42) C dX11_fits_38 (by decide) ?_
      refine st_istore C dX11_fits_42 (by decide) rfl ?_
      show T x 44 [(0, vR 200), (1, vI 109), (2, vI a9), (3, vI b9), (4, vI p9), (5, vI 1), (6, vI 1)] [] _ _ _
      refine st_iload_n C 1 dX11_fits_44 rfl rfl ?_
      refine st_lookup (a := 109) (tgt := 141) C dX11_fits_45 (by decide) rfl (by decide) ?_
      refine st_iload C dX11_fits_141 rfl ?_
      refine st_bipush C dX11_fits_143 (by decide) (by decide) ?_
      refine st_irem C dX11_fits_145 (by omega) (by omega) ?_
      refine st_iconst C dX11_fits_146 (by decide) ?_
      refine st_bipush C dX11_fits_147 (by decide) (by decide) ?_
      by_cases b_149 : 1 ≤ (p9 % 8) ∧ (p9 % 8) ≤ 6
      · refine st_callS (st := []) C dX11_fits_149 [vI (p9 % 8), vI 1, vI 6] (k_isIn_t (v9 := (p9 % 8)) (l9 := 1) (u9 := 6)  b_149) w_X11_75 rfl (by decide) (by decide) (by omega) (by omega) (Nat.le_of_ble_eq_true rfl) (ko_rt ?_)
        show T x 152 [(0, vR 200), (1, vI 109), (2, vI a9), (3, vI b9), (4, vI p9), (5, vI 1), (6, vI 1)] [vI 1] _ _ _
        refine st_if_eq (tgt := 179) C dX11_fits_152 (by decide) (fun c_152 => by omega) (fun c_152 => ?_)
        refine st_iload C dX11_fits_155 rfl ?_
        refine st_bipush C dX11_fits_157 (by decide) (by decide) ?_
        refine st_idiv C dX11_fits_159 (by omega) (by omega) ?_
        refine st_iconst C dX11_fits_160 (by decide) ?_
        refine st_bipush C dX11_fits_161 (by decide) (by decide) ?_
        by_cases b_163 : 1 ≤ (p9 / 8) ∧ (p9 / 8) ≤ 6
        · refine st_callS (st := []) C dX11_fits_163 [vI (p9 / 8), vI 1, vI 6] (k_isIn_t (v9 := (p9 / 8)) (l9 := 1) (u9 := 6)  b_163) w_X11_75 rfl (by decide) (by decide) (by omega) (by omega) (Nat.le_of_ble_eq_true rfl) (ko_rt ?_)
          show T x 166 [(0, vR 200), (1, vI 109), (2, vI a9), (3, vI b9), (4, vI p9), (5, vI 1), (6, vI 1)] [vI 1] _ _ _
          refine st_if_eq (tgt := 179) C dX11_fits_166 (by decide) (fun c_166 => by omega) (fun c_166 => ?_)
          refine st_aload_n C 0 dX11_fits_169 rfl rfl ?_
          refine st_iload C dX11_fits_170 rfl ?_
          refine st_callV (st := []) C dX11_fits_172 [vI p9] (k_mroadsAt (mw := mw) (p9 := p9) hm h202 (by omega) hwv.2) hm w_X11_94 rfl (by decide) (by decide) (by omega) (by omega) (Nat.le_of_ble_eq_true rfl) (ko_rt ?_)
          show T x 175 [(0, vR 200), (1, vI 109), (2, vI a9), (3, vI b9), (4, vI p9), (5, vI 1), (6, vI 1)] [vI (mrdN mw p9)] _ _ _
          refine st_iconst C dX11_fits_175 (by decide) ?_
          refine st_icmp_eq (tgt := 183) C dX11_fits_176 (by decide) (fun c_176 => ?_) (fun c_176 => ?_)
          · refine st_iconst C dX11_fits_183 (by decide) ?_
            exact st_zreturn C F dX11_fits_184 rfl (by omega) (rt_i (by first | rfl | (exfalso; omega) | exact absurd ⟨by omega, by assumption⟩ hP | exact absurd hP.2 (by assumption)) rfl) (by omega) (by omega)
          · refine st_iconst C dX11_fits_179 (by decide) ?_
            refine st_goto (tgt := 184) C dX11_fits_180 (by decide) ?_
            exact st_zreturn C F dX11_fits_184 rfl (by omega) (rt_i (by first | rfl | (exfalso; omega) | exact absurd ⟨by omega, by assumption⟩ hP | exact absurd hP.2 (by assumption)) rfl) (by omega) (by omega)
        · refine st_callS (st := []) C dX11_fits_163 [vI (p9 / 8), vI 1, vI 6] (k_isIn_f (v9 := (p9 / 8)) (l9 := 1) (u9 := 6)  b_163) w_X11_75 rfl (by decide) (by decide) (by omega) (by omega) (Nat.le_of_ble_eq_true rfl) (ko_rt ?_)
          show T x 166 [(0, vR 200), (1, vI 109), (2, vI a9), (3, vI b9), (4, vI p9), (5, vI 1), (6, vI 1)] [vI 0] _ _ _
          refine st_if_eq (tgt := 179) C dX11_fits_166 (by decide) (fun c_166 => ?_) (fun c_166 => by omega)
          refine st_iconst C dX11_fits_179 (by decide) ?_
          refine st_goto (tgt := 184) C dX11_fits_180 (by decide) ?_
          exact st_zreturn C F dX11_fits_184 rfl (by omega) (rt_i (by first | rfl | (exfalso; omega) | exact absurd ⟨by omega, by assumption⟩ hP | exact absurd hP.2 (by assumption)) rfl) (by omega) (by omega)
      · refine st_callS (st := []) C dX11_fits_149 [vI (p9 % 8), vI 1, vI 6] (k_isIn_f (v9 := (p9 % 8)) (l9 := 1) (u9 := 6)  b_149) w_X11_75 rfl (by decide) (by decide) (by omega) (by omega) (Nat.le_of_ble_eq_true rfl) (ko_rt ?_)
        show T x 152 [(0, vR 200), (1, vI 109), (2, vI a9), (3, vI b9), (4, vI p9), (5, vI 1), (6, vI 1)] [vI 0] _ _ _
        refine st_if_eq (tgt := 179) C dX11_fits_152 (by decide) (fun c_152 => ?_) (fun c_152 => by omega)
        refine st_iconst C dX11_fits_179 (by decide) ?_
        refine st_goto (tgt := 184) C dX11_fits_180 (by decide) ?_
        exact st_zreturn C F dX11_fits_184 rfl (by omega) (rt_i (by first | rfl | (exfalso; omega) | exact absurd ⟨by omega, by assumption⟩ hP | exact absurd hP.2 (by assumption)) rfl) (by omega) (by omega)
set_option maxRecDepth 20000 in
set_option maxHeartbeats 4000000 in
theorem k_fitsw_t {g : Gx} {h : HP} {mv mrc mmc mmk mdv mwl mwa mwp mth : Int} {mw : Int → Int} {a9 b9 : Int} {p9 : Int} (hm : mO h mv mrc mmc mmk mdv mwl mwa mwp mth) (h202 : h 202 = some (oI 304 mw)) (ha : 0 ≤ a9 ∧ a9 ≤ 2) (hb : 0 ≤ b9 ∧ b9 ≤ 2) (hwv : RowV mw) (hp : 0 ≤ p9 ∧ p9 ≤ 63) : Ct g yX11_fits (.code yX11_fits cX11_fits 7 (some .boolean)) 5 0 0 [vR 200, vI 119, vI a9, vI b9, vI p9] h (Rt (some (vI 1)) h) := by
  refine Ct.of (by decide) (Nat.le_of_ble_eq_true rfl) (fun x hg C F => ?_)
  subst hg
  have z1 := hwv.1 (64 * a9 + p9) (by omega) (by omega)
  have z2 := hwv.1 (64 * b9 + p9) (by omega) (by omega)
  show T x 0 [(0, vR 200), (1, vI 119), (2, vI a9), (3, vI b9), (4, vI p9)] [] h 0 0
  refine st_aload_n C 0 dX11_fits_0 rfl rfl ?_
  refine st_getf C dX11_fits_1 fl_X11_13 hm rfl ?_
  refine st_bipush C dX11_fits_4 (by decide) (by decide) ?_
  refine st_iload_n C 2 dX11_fits_6 rfl rfl ?_
  refine st_imul C dX11_fits_7 ⟨(by omega), (by omega)⟩ ?_
  refine st_iload C dX11_fits_8 rfl ?_
  refine st_iadd C dX11_fits_10 ⟨(by omega), (by omega)⟩ ?_
  refine st_iald C dX11_fits_11 h202 (by omega) (by omega) ?_
  refine st_if_le (tgt := 19) C dX11_fits_12 (by decide) (fun c_12 => ?_) (fun c_12 => ?_)
  · refine st_iconst C dX11_fits_19 (by decide) ?_
    refine st_istore C dX11_fits_20 (by decide) rfl ?_
    show T x 22 [(0, vR 200), (1, vI 119), (2, vI a9), (3, vI b9), (4, vI p9), (5, vI 0)] [] _ _ _
    refine st_aload_n C 0 dX11_fits_22 rfl rfl ?_
    refine st_getf C dX11_fits_23 fl_X11_13 hm rfl ?_
    refine st_bipush C dX11_fits_26 (by decide) (by decide) ?_
    refine st_iload_n C 3 dX11_fits_28 rfl rfl ?_
    refine st_imul C dX11_fits_29 ⟨(by omega), (by omega)⟩ ?_
    refine st_iload C dX11_fits_30 rfl ?_
    refine st_iadd C dX11_fits_32 ⟨(by omega), (by omega)⟩ ?_
    refine st_iald C dX11_fits_33 h202 (by omega) (by omega) ?_
    refine st_if_le (tgt := 41) C dX11_fits_34 (by decide) (fun c_34 => ?_) (fun c_34 => ?_)
    · refine st_iconst C dX11_fits_41 (by decide) ?_
      refine st_istore C dX11_fits_42 (by decide) rfl ?_
      show T x 44 [(0, vR 200), (1, vI 119), (2, vI a9), (3, vI b9), (4, vI p9), (5, vI 0), (6, vI 0)] [] _ _ _
      refine st_iload_n C 1 dX11_fits_44 rfl rfl ?_
      refine st_lookup (a := 119) (tgt := 185) C dX11_fits_45 (by decide) rfl (by decide) ?_
      refine st_iconst C dX11_fits_185 (by decide) ?_
      exact st_zreturn C F dX11_fits_186 rfl (by omega) (rt_i (by first | rfl | (exfalso; omega) | exact absurd ⟨by omega, by assumption⟩ hP | exact absurd hP.2 (by assumption)) rfl) (by omega) (by omega)
    · refine st_iconst C dX11_fits_37 (by decide) ?_
      refine st_goto (tgt := 42) C dX11_fits_38 (by decide) ?_
      refine st_istore C dX11_fits_42 (by decide) rfl ?_
      show T x 44 [(0, vR 200), (1, vI 119), (2, vI a9), (3, vI b9), (4, vI p9), (5, vI 0), (6, vI 1)] [] _ _ _
      refine st_iload_n C 1 dX11_fits_44 rfl rfl ?_
      refine st_lookup (a := 119) (tgt := 185) C dX11_fits_45 (by decide) rfl (by decide) ?_
      refine st_iconst C dX11_fits_185 (by decide) ?_
      exact st_zreturn C F dX11_fits_186 rfl (by omega) (rt_i (by first | rfl | (exfalso; omega) | exact absurd ⟨by omega, by assumption⟩ hP | exact absurd hP.2 (by assumption)) rfl) (by omega) (by omega)
  · refine st_iconst C dX11_fits_15 (by decide) ?_
    refine st_goto (tgt := 20) C dX11_fits_16 (by decide) ?_
    refine st_istore C dX11_fits_20 (by decide) rfl ?_
    show T x 22 [(0, vR 200), (1, vI 119), (2, vI a9), (3, vI b9), (4, vI p9), (5, vI 1)] [] _ _ _
    refine st_aload_n C 0 dX11_fits_22 rfl rfl ?_
    refine st_getf C dX11_fits_23 fl_X11_13 hm rfl ?_
    refine st_bipush C dX11_fits_26 (by decide) (by decide) ?_
    refine st_iload_n C 3 dX11_fits_28 rfl rfl ?_
    refine st_imul C dX11_fits_29 ⟨(by omega), (by omega)⟩ ?_
    refine st_iload C dX11_fits_30 rfl ?_
    refine st_iadd C dX11_fits_32 ⟨(by omega), (by omega)⟩ ?_
    refine st_iald C dX11_fits_33 h202 (by omega) (by omega) ?_
    refine st_if_le (tgt := 41) C dX11_fits_34 (by decide) (fun c_34 => ?_) (fun c_34 => ?_)
    · refine st_iconst C dX11_fits_41 (by decide) ?_
      refine st_istore C dX11_fits_42 (by decide) rfl ?_
      show T x 44 [(0, vR 200), (1, vI 119), (2, vI a9), (3, vI b9), (4, vI p9), (5, vI 1), (6, vI 0)] [] _ _ _
      refine st_iload_n C 1 dX11_fits_44 rfl rfl ?_
      refine st_lookup (a := 119) (tgt := 185) C dX11_fits_45 (by decide) rfl (by decide) ?_
      refine st_iconst C dX11_fits_185 (by decide) ?_
      exact st_zreturn C F dX11_fits_186 rfl (by omega) (rt_i (by first | rfl | (exfalso; omega) | exact absurd ⟨by omega, by assumption⟩ hP | exact absurd hP.2 (by assumption)) rfl) (by omega) (by omega)
    · refine st_iconst C dX11_fits_37 (by decide) ?_
      refine st_goto (tgt := 42) C dX11_fits_38 (by decide) ?_
      refine st_istore C dX11_fits_42 (by decide) rfl ?_
      show T x 44 [(0, vR 200), (1, vI 119), (2, vI a9), (3, vI b9), (4, vI p9), (5, vI 1), (6, vI 1)] [] _ _ _
      refine st_iload_n C 1 dX11_fits_44 rfl rfl ?_
      refine st_lookup (a := 119) (tgt := 185) C dX11_fits_45 (by decide) rfl (by decide) ?_
      refine st_iconst C dX11_fits_185 (by decide) ?_
      exact st_zreturn C F dX11_fits_186 rfl (by omega) (rt_i (by first | rfl | (exfalso; omega) | exact absurd ⟨by omega, by assumption⟩ hP | exact absurd hP.2 (by assumption)) rfl) (by omega) (by omega)
set_option maxRecDepth 20000 in
set_option maxHeartbeats 4000000 in
theorem k_keepsc_t {g : Gx} {h : HP} {mv mrc mmc mmk mdv mwl mwa mwp mth : Int} {mw : Int → Int} {a9 b9 : Int} (hm : mO h mv mrc mmc mmk mdv mwl mwa mwp mth) (h202 : h 202 = some (oI 304 mw)) (ha : 0 ≤ a9 ∧ a9 ≤ 2) (hb : 0 ≤ b9 ∧ b9 ≤ 2) (hwv : RowV mw) (hP : RuleHolds 99 a9 b9 mw) : Ct g yX11_keeps (.code yX11_keeps cX11_keeps 6 (some .boolean)) 6 0 0 [vR 200, vI 99, vI a9, vI b9] h (Rt (some (vI 1)) h) := by
  refine Ct.of (by decide) (Nat.le_of_ble_eq_true rfl) (fun x hg C F => ?_)
  subst hg
  show T x 0 [(0, vR 200), (1, vI 99), (2, vI a9), (3, vI b9)] [] h 0 0
  refine st_iconst C dX11_keeps_0 (by decide) ?_
  refine st_istore C dX11_keeps_1 (by decide) rfl ?_
  show T x 3 [(0, vR 200), (1, vI 99), (2, vI a9), (3, vI b9), (4, vI 1)] [] _ _ _
  refine st_iconst C dX11_keeps_3 (by decide) ?_
  refine st_istore C dX11_keeps_4 (by decide) rfl ?_
  show T x 6 [(0, vR 200), (1, vI 99), (2, vI a9), (3, vI b9), (4, vI 1), (5, vI 0)] [] _ _ _
  have loop_6 : ∀ (n_6 : Nat) (c1 : Int) (i : Int), (0 ≤ i) → (i ≤ 64) → (AllB (fun p => ¬ BrkAt 99 a9 b9 mw p) i c1) → (64 - i).toNat < n_6 → T x 6 [(0, vR 200), (1, vI 99), (2, vI a9), (3, vI b9), (4, vI c1), (5, vI i)] [] h 0 0 := by
    intro n_6
    induction n_6 with
    | zero => intro c1 i g1 g2 g3 hm_6; exact absurd hm_6 (Nat.not_lt_zero _)
    | succ n_6 ih_6 =>
      intro c1 i g1 g2 g3 hm_6
      have fc := allB_b g3
      refine st_iload C dX11_keeps_6 rfl ?_
      refine st_bipush C dX11_keeps_8 (by decide) (by decide) ?_
      refine st_icmp_ge (tgt := 33) C dX11_keeps_10 (by decide) (fun c_10 => ?_) (fun c_10 => ?_)
      · refine st_iconst C dX11_keeps_33 (by decide) ?_
        refine st_istore C dX11_keeps_34 (by decide) rfl ?_
        show T x 36 [(0, vR 200), (1, vI 99), (2, vI a9), (3, vI b9), (4, vI c1), (5, vI 1)] [] _ _ _
        have loop_36 : ∀ (n_36 : Nat) (c2 : Int) (k : Int), (1 ≤ k) → (k ≤ 10) → (KI 99 a9 b9 mw k c2) → (10 - k).toNat < n_36 → T x 36 [(0, vR 200), (1, vI 99), (2, vI a9), (3, vI b9), (4, vI c2), (5, vI k)] [] h 0 0 := by
          intro n_36
          induction n_36 with
          | zero => intro c2 k g4 g5 g6 hm_36; exact absurd hm_36 (Nat.not_lt_zero _)
          | succ n_36 ih_36 =>
            intro c2 k g4 g5 g6 hm_36
            have fd := KI_b g6
            refine st_iload C dX11_keeps_36 rfl ?_
            refine st_bipush C dX11_keeps_38 (by decide) (by decide) ?_
            refine st_icmp_gt (tgt := 75) C dX11_keeps_40 (by decide) (fun c_40 => ?_) (fun c_40 => ?_)
            · refine st_iload C dX11_keeps_75 rfl ?_
              exact st_zreturn C F dX11_keeps_77 rfl (by omega) (rt_i (KI_1 g6 (by omega) hP) rfl) (by omega) (by omega)
            · refine st_iload C dX11_keeps_43 rfl ?_
              refine st_iload_n C 1 dX11_keeps_45 rfl rfl ?_
              refine st_bipush C dX11_keeps_46 (by decide) (by decide) ?_
              refine st_icmp_ne (tgt := 61) C dX11_keeps_48 (by decide) (fun c_48 => ?_) (fun c_48 => by omega)
              refine st_iconst C dX11_keeps_61 (by decide) ?_
              refine st_goto (tgt := 66) C dX11_keeps_62 (by decide) ?_
              refine st_iandB C dX11_keeps_66 (by omega) (by omega) ?_
              refine st_istore C dX11_keeps_67 (by decide) rfl ?_
              show T x 69 [(0, vR 200), (1, vI 99), (2, vI a9), (3, vI b9), (4, vI (c2 * 1)), (5, vI k)] [] _ _ _
              refine st_iinc C dX11_keeps_69 rfl (by decide) rfl ⟨(by omega), (by omega)⟩ ?_
              show T x 72 [(0, vR 200), (1, vI 99), (2, vI a9), (3, vI b9), (4, vI (c2 * 1)), (5, vI (k + 1))] [] _ _ _
              refine st_goto (tgt := 36) C dX11_keeps_72 (by decide) ?_
              exact ih_36 (c2 * 1) (k + 1) (by omega) (by omega) (by exact KI_t g6 (fun z => by omega)) (by omega)
        exact loop_36 _ c1 1 (by omega) (by omega) (KI_0 g3 (by omega)) (Nat.lt_succ_self _)
      · refine st_iload C dX11_keeps_13 rfl ?_
        refine st_aload_n C 0 dX11_keeps_15 rfl rfl ?_
        refine st_iload_n C 1 dX11_keeps_16 rfl rfl ?_
        refine st_iload_n C 2 dX11_keeps_17 rfl rfl ?_
        refine st_iload_n C 3 dX11_keeps_18 rfl rfl ?_
        refine st_iload C dX11_keeps_19 rfl ?_
        by_cases b_21 : ¬ BrkAt 99 a9 b9 mw i
        · refine st_callV (st := [vI c1]) C dX11_keeps_21 [vI 99, vI a9, vI b9, vI i] (k_fitsc_t (mw := mw) (a9 := a9) (b9 := b9) (p9 := i) hm h202 ha hb hwv (by omega) b_21) hm w_X11_98 rfl (by decide) (by decide) (by omega) (by omega) (Nat.le_of_ble_eq_true rfl) (ko_rt ?_)
          show T x 24 [(0, vR 200), (1, vI 99), (2, vI a9), (3, vI b9), (4, vI c1), (5, vI i)] [vI 1, vI c1] _ _ _
          refine st_iandB C dX11_keeps_24 (by omega) (by omega) ?_
          refine st_istore C dX11_keeps_25 (by decide) rfl ?_
          show T x 27 [(0, vR 200), (1, vI 99), (2, vI a9), (3, vI b9), (4, vI (c1 * 1)), (5, vI i)] [] _ _ _
          refine st_iinc C dX11_keeps_27 rfl (by decide) rfl ⟨(by omega), (by omega)⟩ ?_
          show T x 30 [(0, vR 200), (1, vI 99), (2, vI a9), (3, vI b9), (4, vI (c1 * 1)), (5, vI (i + 1))] [] _ _ _
          refine st_goto (tgt := 6) C dX11_keeps_30 (by decide) ?_
          exact ih_6 (c1 * 1) (i + 1) (by omega) (by omega) (by first | exact allB_t g3 (by first | exact brk_w | assumption) | exact allB_f g1 (by assumption)) (by omega)
        · refine st_callV (st := [vI c1]) C dX11_keeps_21 [vI 99, vI a9, vI b9, vI i] (k_fitsc_f (mw := mw) (a9 := a9) (b9 := b9) (p9 := i) hm h202 ha hb hwv (by omega) (Classical.byContradiction b_21)) hm w_X11_98 rfl (by decide) (by decide) (by omega) (by omega) (Nat.le_of_ble_eq_true rfl) (ko_rt ?_)
          show T x 24 [(0, vR 200), (1, vI 99), (2, vI a9), (3, vI b9), (4, vI c1), (5, vI i)] [vI 0, vI c1] _ _ _
          refine st_iandB C dX11_keeps_24 (by omega) (by omega) ?_
          rw [Int.mul_zero]
          refine st_istore C dX11_keeps_25 (by decide) rfl ?_
          show T x 27 [(0, vR 200), (1, vI 99), (2, vI a9), (3, vI b9), (4, vI 0), (5, vI i)] [] _ _ _
          refine st_iinc C dX11_keeps_27 rfl (by decide) rfl ⟨(by omega), (by omega)⟩ ?_
          show T x 30 [(0, vR 200), (1, vI 99), (2, vI a9), (3, vI b9), (4, vI 0), (5, vI (i + 1))] [] _ _ _
          refine st_goto (tgt := 6) C dX11_keeps_30 (by decide) ?_
          exact ih_6 0 (i + 1) (by omega) (by omega) (by first | exact allB_t g3 (by first | exact brk_w | assumption) | exact allB_f g1 (by assumption)) (by omega)
  exact loop_6 _ 1 0 (by omega) (by omega) (allB_0) (Nat.lt_succ_self _)
set_option maxRecDepth 20000 in
set_option maxHeartbeats 4000000 in
theorem k_keepsc_f {g : Gx} {h : HP} {mv mrc mmc mmk mdv mwl mwa mwp mth : Int} {mw : Int → Int} {a9 b9 : Int} (hm : mO h mv mrc mmc mmk mdv mwl mwa mwp mth) (h202 : h 202 = some (oI 304 mw)) (ha : 0 ≤ a9 ∧ a9 ≤ 2) (hb : 0 ≤ b9 ∧ b9 ≤ 2) (hwv : RowV mw) (hP : ¬ RuleHolds 99 a9 b9 mw) : Ct g yX11_keeps (.code yX11_keeps cX11_keeps 6 (some .boolean)) 6 0 0 [vR 200, vI 99, vI a9, vI b9] h (Rt (some (vI 0)) h) := by
  refine Ct.of (by decide) (Nat.le_of_ble_eq_true rfl) (fun x hg C F => ?_)
  subst hg
  show T x 0 [(0, vR 200), (1, vI 99), (2, vI a9), (3, vI b9)] [] h 0 0
  refine st_iconst C dX11_keeps_0 (by decide) ?_
  refine st_istore C dX11_keeps_1 (by decide) rfl ?_
  show T x 3 [(0, vR 200), (1, vI 99), (2, vI a9), (3, vI b9), (4, vI 1)] [] _ _ _
  refine st_iconst C dX11_keeps_3 (by decide) ?_
  refine st_istore C dX11_keeps_4 (by decide) rfl ?_
  show T x 6 [(0, vR 200), (1, vI 99), (2, vI a9), (3, vI b9), (4, vI 1), (5, vI 0)] [] _ _ _
  have loop_6 : ∀ (n_6 : Nat) (c1 : Int) (i : Int), (0 ≤ i) → (i ≤ 64) → (AllB (fun p => ¬ BrkAt 99 a9 b9 mw p) i c1) → (64 - i).toNat < n_6 → T x 6 [(0, vR 200), (1, vI 99), (2, vI a9), (3, vI b9), (4, vI c1), (5, vI i)] [] h 0 0 := by
    intro n_6
    induction n_6 with
    | zero => intro c1 i g1 g2 g3 hm_6; exact absurd hm_6 (Nat.not_lt_zero _)
    | succ n_6 ih_6 =>
      intro c1 i g1 g2 g3 hm_6
      have fc := allB_b g3
      refine st_iload C dX11_keeps_6 rfl ?_
      refine st_bipush C dX11_keeps_8 (by decide) (by decide) ?_
      refine st_icmp_ge (tgt := 33) C dX11_keeps_10 (by decide) (fun c_10 => ?_) (fun c_10 => ?_)
      · refine st_iconst C dX11_keeps_33 (by decide) ?_
        refine st_istore C dX11_keeps_34 (by decide) rfl ?_
        show T x 36 [(0, vR 200), (1, vI 99), (2, vI a9), (3, vI b9), (4, vI c1), (5, vI 1)] [] _ _ _
        have loop_36 : ∀ (n_36 : Nat) (c2 : Int) (k : Int), (1 ≤ k) → (k ≤ 10) → (KI 99 a9 b9 mw k c2) → (10 - k).toNat < n_36 → T x 36 [(0, vR 200), (1, vI 99), (2, vI a9), (3, vI b9), (4, vI c2), (5, vI k)] [] h 0 0 := by
          intro n_36
          induction n_36 with
          | zero => intro c2 k g4 g5 g6 hm_36; exact absurd hm_36 (Nat.not_lt_zero _)
          | succ n_36 ih_36 =>
            intro c2 k g4 g5 g6 hm_36
            have fd := KI_b g6
            refine st_iload C dX11_keeps_36 rfl ?_
            refine st_bipush C dX11_keeps_38 (by decide) (by decide) ?_
            refine st_icmp_gt (tgt := 75) C dX11_keeps_40 (by decide) (fun c_40 => ?_) (fun c_40 => ?_)
            · refine st_iload C dX11_keeps_75 rfl ?_
              exact st_zreturn C F dX11_keeps_77 rfl (by omega) (rt_i (KI_2 g6 (by omega) hP) rfl) (by omega) (by omega)
            · refine st_iload C dX11_keeps_43 rfl ?_
              refine st_iload_n C 1 dX11_keeps_45 rfl rfl ?_
              refine st_bipush C dX11_keeps_46 (by decide) (by decide) ?_
              refine st_icmp_ne (tgt := 61) C dX11_keeps_48 (by decide) (fun c_48 => ?_) (fun c_48 => by omega)
              refine st_iconst C dX11_keeps_61 (by decide) ?_
              refine st_goto (tgt := 66) C dX11_keeps_62 (by decide) ?_
              refine st_iandB C dX11_keeps_66 (by omega) (by omega) ?_
              refine st_istore C dX11_keeps_67 (by decide) rfl ?_
              show T x 69 [(0, vR 200), (1, vI 99), (2, vI a9), (3, vI b9), (4, vI (c2 * 1)), (5, vI k)] [] _ _ _
              refine st_iinc C dX11_keeps_69 rfl (by decide) rfl ⟨(by omega), (by omega)⟩ ?_
              show T x 72 [(0, vR 200), (1, vI 99), (2, vI a9), (3, vI b9), (4, vI (c2 * 1)), (5, vI (k + 1))] [] _ _ _
              refine st_goto (tgt := 36) C dX11_keeps_72 (by decide) ?_
              exact ih_36 (c2 * 1) (k + 1) (by omega) (by omega) (by exact KI_t g6 (fun z => by omega)) (by omega)
        exact loop_36 _ c1 1 (by omega) (by omega) (KI_0 g3 (by omega)) (Nat.lt_succ_self _)
      · refine st_iload C dX11_keeps_13 rfl ?_
        refine st_aload_n C 0 dX11_keeps_15 rfl rfl ?_
        refine st_iload_n C 1 dX11_keeps_16 rfl rfl ?_
        refine st_iload_n C 2 dX11_keeps_17 rfl rfl ?_
        refine st_iload_n C 3 dX11_keeps_18 rfl rfl ?_
        refine st_iload C dX11_keeps_19 rfl ?_
        by_cases b_21 : ¬ BrkAt 99 a9 b9 mw i
        · refine st_callV (st := [vI c1]) C dX11_keeps_21 [vI 99, vI a9, vI b9, vI i] (k_fitsc_t (mw := mw) (a9 := a9) (b9 := b9) (p9 := i) hm h202 ha hb hwv (by omega) b_21) hm w_X11_98 rfl (by decide) (by decide) (by omega) (by omega) (Nat.le_of_ble_eq_true rfl) (ko_rt ?_)
          show T x 24 [(0, vR 200), (1, vI 99), (2, vI a9), (3, vI b9), (4, vI c1), (5, vI i)] [vI 1, vI c1] _ _ _
          refine st_iandB C dX11_keeps_24 (by omega) (by omega) ?_
          refine st_istore C dX11_keeps_25 (by decide) rfl ?_
          show T x 27 [(0, vR 200), (1, vI 99), (2, vI a9), (3, vI b9), (4, vI (c1 * 1)), (5, vI i)] [] _ _ _
          refine st_iinc C dX11_keeps_27 rfl (by decide) rfl ⟨(by omega), (by omega)⟩ ?_
          show T x 30 [(0, vR 200), (1, vI 99), (2, vI a9), (3, vI b9), (4, vI (c1 * 1)), (5, vI (i + 1))] [] _ _ _
          refine st_goto (tgt := 6) C dX11_keeps_30 (by decide) ?_
          exact ih_6 (c1 * 1) (i + 1) (by omega) (by omega) (by first | exact allB_t g3 (by first | exact brk_w | assumption) | exact allB_f g1 (by assumption)) (by omega)
        · refine st_callV (st := [vI c1]) C dX11_keeps_21 [vI 99, vI a9, vI b9, vI i] (k_fitsc_f (mw := mw) (a9 := a9) (b9 := b9) (p9 := i) hm h202 ha hb hwv (by omega) (Classical.byContradiction b_21)) hm w_X11_98 rfl (by decide) (by decide) (by omega) (by omega) (Nat.le_of_ble_eq_true rfl) (ko_rt ?_)
          show T x 24 [(0, vR 200), (1, vI 99), (2, vI a9), (3, vI b9), (4, vI c1), (5, vI i)] [vI 0, vI c1] _ _ _
          refine st_iandB C dX11_keeps_24 (by omega) (by omega) ?_
          rw [Int.mul_zero]
          refine st_istore C dX11_keeps_25 (by decide) rfl ?_
          show T x 27 [(0, vR 200), (1, vI 99), (2, vI a9), (3, vI b9), (4, vI 0), (5, vI i)] [] _ _ _
          refine st_iinc C dX11_keeps_27 rfl (by decide) rfl ⟨(by omega), (by omega)⟩ ?_
          show T x 30 [(0, vR 200), (1, vI 99), (2, vI a9), (3, vI b9), (4, vI 0), (5, vI (i + 1))] [] _ _ _
          refine st_goto (tgt := 6) C dX11_keeps_30 (by decide) ?_
          exact ih_6 0 (i + 1) (by omega) (by omega) (by first | exact allB_t g3 (by first | exact brk_w | assumption) | exact allB_f g1 (by assumption)) (by omega)
  exact loop_6 _ 1 0 (by omega) (by omega) (allB_0) (Nat.lt_succ_self _)
set_option maxRecDepth 20000 in
set_option maxHeartbeats 4000000 in
theorem k_keepsx_t {g : Gx} {h : HP} {mv mrc mmc mmk mdv mwl mwa mwp mth : Int} {mw : Int → Int} {a9 b9 : Int} (hm : mO h mv mrc mmc mmk mdv mwl mwa mwp mth) (h202 : h 202 = some (oI 304 mw)) (ha : 0 ≤ a9 ∧ a9 ≤ 2) (hb : 0 ≤ b9 ∧ b9 ≤ 2) (hwv : RowV mw) (hP : RuleHolds 120 a9 b9 mw) : Ct g yX11_keeps (.code yX11_keeps cX11_keeps 6 (some .boolean)) 6 0 0 [vR 200, vI 120, vI a9, vI b9] h (Rt (some (vI 1)) h) := by
  refine Ct.of (by decide) (Nat.le_of_ble_eq_true rfl) (fun x hg C F => ?_)
  subst hg
  show T x 0 [(0, vR 200), (1, vI 120), (2, vI a9), (3, vI b9)] [] h 0 0
  refine st_iconst C dX11_keeps_0 (by decide) ?_
  refine st_istore C dX11_keeps_1 (by decide) rfl ?_
  show T x 3 [(0, vR 200), (1, vI 120), (2, vI a9), (3, vI b9), (4, vI 1)] [] _ _ _
  refine st_iconst C dX11_keeps_3 (by decide) ?_
  refine st_istore C dX11_keeps_4 (by decide) rfl ?_
  show T x 6 [(0, vR 200), (1, vI 120), (2, vI a9), (3, vI b9), (4, vI 1), (5, vI 0)] [] _ _ _
  have loop_6 : ∀ (n_6 : Nat) (c1 : Int) (i : Int), (0 ≤ i) → (i ≤ 64) → (AllB (fun p => ¬ BrkAt 120 a9 b9 mw p) i c1) → (64 - i).toNat < n_6 → T x 6 [(0, vR 200), (1, vI 120), (2, vI a9), (3, vI b9), (4, vI c1), (5, vI i)] [] h 0 0 := by
    intro n_6
    induction n_6 with
    | zero => intro c1 i g1 g2 g3 hm_6; exact absurd hm_6 (Nat.not_lt_zero _)
    | succ n_6 ih_6 =>
      intro c1 i g1 g2 g3 hm_6
      have fc := allB_b g3
      refine st_iload C dX11_keeps_6 rfl ?_
      refine st_bipush C dX11_keeps_8 (by decide) (by decide) ?_
      refine st_icmp_ge (tgt := 33) C dX11_keeps_10 (by decide) (fun c_10 => ?_) (fun c_10 => ?_)
      · refine st_iconst C dX11_keeps_33 (by decide) ?_
        refine st_istore C dX11_keeps_34 (by decide) rfl ?_
        show T x 36 [(0, vR 200), (1, vI 120), (2, vI a9), (3, vI b9), (4, vI c1), (5, vI 1)] [] _ _ _
        have loop_36 : ∀ (n_36 : Nat) (c2 : Int) (k : Int), (1 ≤ k) → (k ≤ 10) → (KI 120 a9 b9 mw k c2) → (10 - k).toNat < n_36 → T x 36 [(0, vR 200), (1, vI 120), (2, vI a9), (3, vI b9), (4, vI c2), (5, vI k)] [] h 0 0 := by
          intro n_36
          induction n_36 with
          | zero => intro c2 k g4 g5 g6 hm_36; exact absurd hm_36 (Nat.not_lt_zero _)
          | succ n_36 ih_36 =>
            intro c2 k g4 g5 g6 hm_36
            have fd := KI_b g6
            refine st_iload C dX11_keeps_36 rfl ?_
            refine st_bipush C dX11_keeps_38 (by decide) (by decide) ?_
            refine st_icmp_gt (tgt := 75) C dX11_keeps_40 (by decide) (fun c_40 => ?_) (fun c_40 => ?_)
            · refine st_iload C dX11_keeps_75 rfl ?_
              exact st_zreturn C F dX11_keeps_77 rfl (by omega) (rt_i (KI_1 g6 (by omega) hP) rfl) (by omega) (by omega)
            · refine st_iload C dX11_keeps_43 rfl ?_
              refine st_iload_n C 1 dX11_keeps_45 rfl rfl ?_
              refine st_bipush C dX11_keeps_46 (by decide) (by decide) ?_
              refine st_icmp_ne (tgt := 61) C dX11_keeps_48 (by decide) (fun c_48 => ?_) (fun c_48 => by omega)
              refine st_iconst C dX11_keeps_61 (by decide) ?_
              refine st_goto (tgt := 66) C dX11_keeps_62 (by decide) ?_
              refine st_iandB C dX11_keeps_66 (by omega) (by omega) ?_
              refine st_istore C dX11_keeps_67 (by decide) rfl ?_
              show T x 69 [(0, vR 200), (1, vI 120), (2, vI a9), (3, vI b9), (4, vI (c2 * 1)), (5, vI k)] [] _ _ _
              refine st_iinc C dX11_keeps_69 rfl (by decide) rfl ⟨(by omega), (by omega)⟩ ?_
              show T x 72 [(0, vR 200), (1, vI 120), (2, vI a9), (3, vI b9), (4, vI (c2 * 1)), (5, vI (k + 1))] [] _ _ _
              refine st_goto (tgt := 36) C dX11_keeps_72 (by decide) ?_
              exact ih_36 (c2 * 1) (k + 1) (by omega) (by omega) (by exact KI_t g6 (fun z => by omega)) (by omega)
        exact loop_36 _ c1 1 (by omega) (by omega) (KI_0 g3 (by omega)) (Nat.lt_succ_self _)
      · refine st_iload C dX11_keeps_13 rfl ?_
        refine st_aload_n C 0 dX11_keeps_15 rfl rfl ?_
        refine st_iload_n C 1 dX11_keeps_16 rfl rfl ?_
        refine st_iload_n C 2 dX11_keeps_17 rfl rfl ?_
        refine st_iload_n C 3 dX11_keeps_18 rfl rfl ?_
        refine st_iload C dX11_keeps_19 rfl ?_
        by_cases b_21 : ¬ BrkAt 120 a9 b9 mw i
        · refine st_callV (st := [vI c1]) C dX11_keeps_21 [vI 120, vI a9, vI b9, vI i] (k_fitsx_t (mw := mw) (a9 := a9) (b9 := b9) (p9 := i) hm h202 ha hb hwv (by omega) b_21) hm w_X11_98 rfl (by decide) (by decide) (by omega) (by omega) (Nat.le_of_ble_eq_true rfl) (ko_rt ?_)
          show T x 24 [(0, vR 200), (1, vI 120), (2, vI a9), (3, vI b9), (4, vI c1), (5, vI i)] [vI 1, vI c1] _ _ _
          refine st_iandB C dX11_keeps_24 (by omega) (by omega) ?_
          refine st_istore C dX11_keeps_25 (by decide) rfl ?_
          show T x 27 [(0, vR 200), (1, vI 120), (2, vI a9), (3, vI b9), (4, vI (c1 * 1)), (5, vI i)] [] _ _ _
          refine st_iinc C dX11_keeps_27 rfl (by decide) rfl ⟨(by omega), (by omega)⟩ ?_
          show T x 30 [(0, vR 200), (1, vI 120), (2, vI a9), (3, vI b9), (4, vI (c1 * 1)), (5, vI (i + 1))] [] _ _ _
          refine st_goto (tgt := 6) C dX11_keeps_30 (by decide) ?_
          exact ih_6 (c1 * 1) (i + 1) (by omega) (by omega) (by first | exact allB_t g3 (by first | exact brk_w | assumption) | exact allB_f g1 (by assumption)) (by omega)
        · refine st_callV (st := [vI c1]) C dX11_keeps_21 [vI 120, vI a9, vI b9, vI i] (k_fitsx_f (mw := mw) (a9 := a9) (b9 := b9) (p9 := i) hm h202 ha hb hwv (by omega) (Classical.byContradiction b_21)) hm w_X11_98 rfl (by decide) (by decide) (by omega) (by omega) (Nat.le_of_ble_eq_true rfl) (ko_rt ?_)
          show T x 24 [(0, vR 200), (1, vI 120), (2, vI a9), (3, vI b9), (4, vI c1), (5, vI i)] [vI 0, vI c1] _ _ _
          refine st_iandB C dX11_keeps_24 (by omega) (by omega) ?_
          rw [Int.mul_zero]
          refine st_istore C dX11_keeps_25 (by decide) rfl ?_
          show T x 27 [(0, vR 200), (1, vI 120), (2, vI a9), (3, vI b9), (4, vI 0), (5, vI i)] [] _ _ _
          refine st_iinc C dX11_keeps_27 rfl (by decide) rfl ⟨(by omega), (by omega)⟩ ?_
          show T x 30 [(0, vR 200), (1, vI 120), (2, vI a9), (3, vI b9), (4, vI 0), (5, vI (i + 1))] [] _ _ _
          refine st_goto (tgt := 6) C dX11_keeps_30 (by decide) ?_
          exact ih_6 0 (i + 1) (by omega) (by omega) (by first | exact allB_t g3 (by first | exact brk_w | assumption) | exact allB_f g1 (by assumption)) (by omega)
  exact loop_6 _ 1 0 (by omega) (by omega) (allB_0) (Nat.lt_succ_self _)
set_option maxRecDepth 20000 in
set_option maxHeartbeats 4000000 in
theorem k_keepsx_f {g : Gx} {h : HP} {mv mrc mmc mmk mdv mwl mwa mwp mth : Int} {mw : Int → Int} {a9 b9 : Int} (hm : mO h mv mrc mmc mmk mdv mwl mwa mwp mth) (h202 : h 202 = some (oI 304 mw)) (ha : 0 ≤ a9 ∧ a9 ≤ 2) (hb : 0 ≤ b9 ∧ b9 ≤ 2) (hwv : RowV mw) (hP : ¬ RuleHolds 120 a9 b9 mw) : Ct g yX11_keeps (.code yX11_keeps cX11_keeps 6 (some .boolean)) 6 0 0 [vR 200, vI 120, vI a9, vI b9] h (Rt (some (vI 0)) h) := by
  refine Ct.of (by decide) (Nat.le_of_ble_eq_true rfl) (fun x hg C F => ?_)
  subst hg
  show T x 0 [(0, vR 200), (1, vI 120), (2, vI a9), (3, vI b9)] [] h 0 0
  refine st_iconst C dX11_keeps_0 (by decide) ?_
  refine st_istore C dX11_keeps_1 (by decide) rfl ?_
  show T x 3 [(0, vR 200), (1, vI 120), (2, vI a9), (3, vI b9), (4, vI 1)] [] _ _ _
  refine st_iconst C dX11_keeps_3 (by decide) ?_
  refine st_istore C dX11_keeps_4 (by decide) rfl ?_
  show T x 6 [(0, vR 200), (1, vI 120), (2, vI a9), (3, vI b9), (4, vI 1), (5, vI 0)] [] _ _ _
  have loop_6 : ∀ (n_6 : Nat) (c1 : Int) (i : Int), (0 ≤ i) → (i ≤ 64) → (AllB (fun p => ¬ BrkAt 120 a9 b9 mw p) i c1) → (64 - i).toNat < n_6 → T x 6 [(0, vR 200), (1, vI 120), (2, vI a9), (3, vI b9), (4, vI c1), (5, vI i)] [] h 0 0 := by
    intro n_6
    induction n_6 with
    | zero => intro c1 i g1 g2 g3 hm_6; exact absurd hm_6 (Nat.not_lt_zero _)
    | succ n_6 ih_6 =>
      intro c1 i g1 g2 g3 hm_6
      have fc := allB_b g3
      refine st_iload C dX11_keeps_6 rfl ?_
      refine st_bipush C dX11_keeps_8 (by decide) (by decide) ?_
      refine st_icmp_ge (tgt := 33) C dX11_keeps_10 (by decide) (fun c_10 => ?_) (fun c_10 => ?_)
      · refine st_iconst C dX11_keeps_33 (by decide) ?_
        refine st_istore C dX11_keeps_34 (by decide) rfl ?_
        show T x 36 [(0, vR 200), (1, vI 120), (2, vI a9), (3, vI b9), (4, vI c1), (5, vI 1)] [] _ _ _
        have loop_36 : ∀ (n_36 : Nat) (c2 : Int) (k : Int), (1 ≤ k) → (k ≤ 10) → (KI 120 a9 b9 mw k c2) → (10 - k).toNat < n_36 → T x 36 [(0, vR 200), (1, vI 120), (2, vI a9), (3, vI b9), (4, vI c2), (5, vI k)] [] h 0 0 := by
          intro n_36
          induction n_36 with
          | zero => intro c2 k g4 g5 g6 hm_36; exact absurd hm_36 (Nat.not_lt_zero _)
          | succ n_36 ih_36 =>
            intro c2 k g4 g5 g6 hm_36
            have fd := KI_b g6
            refine st_iload C dX11_keeps_36 rfl ?_
            refine st_bipush C dX11_keeps_38 (by decide) (by decide) ?_
            refine st_icmp_gt (tgt := 75) C dX11_keeps_40 (by decide) (fun c_40 => ?_) (fun c_40 => ?_)
            · refine st_iload C dX11_keeps_75 rfl ?_
              exact st_zreturn C F dX11_keeps_77 rfl (by omega) (rt_i (KI_2 g6 (by omega) hP) rfl) (by omega) (by omega)
            · refine st_iload C dX11_keeps_43 rfl ?_
              refine st_iload_n C 1 dX11_keeps_45 rfl rfl ?_
              refine st_bipush C dX11_keeps_46 (by decide) (by decide) ?_
              refine st_icmp_ne (tgt := 61) C dX11_keeps_48 (by decide) (fun c_48 => ?_) (fun c_48 => by omega)
              refine st_iconst C dX11_keeps_61 (by decide) ?_
              refine st_goto (tgt := 66) C dX11_keeps_62 (by decide) ?_
              refine st_iandB C dX11_keeps_66 (by omega) (by omega) ?_
              refine st_istore C dX11_keeps_67 (by decide) rfl ?_
              show T x 69 [(0, vR 200), (1, vI 120), (2, vI a9), (3, vI b9), (4, vI (c2 * 1)), (5, vI k)] [] _ _ _
              refine st_iinc C dX11_keeps_69 rfl (by decide) rfl ⟨(by omega), (by omega)⟩ ?_
              show T x 72 [(0, vR 200), (1, vI 120), (2, vI a9), (3, vI b9), (4, vI (c2 * 1)), (5, vI (k + 1))] [] _ _ _
              refine st_goto (tgt := 36) C dX11_keeps_72 (by decide) ?_
              exact ih_36 (c2 * 1) (k + 1) (by omega) (by omega) (by exact KI_t g6 (fun z => by omega)) (by omega)
        exact loop_36 _ c1 1 (by omega) (by omega) (KI_0 g3 (by omega)) (Nat.lt_succ_self _)
      · refine st_iload C dX11_keeps_13 rfl ?_
        refine st_aload_n C 0 dX11_keeps_15 rfl rfl ?_
        refine st_iload_n C 1 dX11_keeps_16 rfl rfl ?_
        refine st_iload_n C 2 dX11_keeps_17 rfl rfl ?_
        refine st_iload_n C 3 dX11_keeps_18 rfl rfl ?_
        refine st_iload C dX11_keeps_19 rfl ?_
        by_cases b_21 : ¬ BrkAt 120 a9 b9 mw i
        · refine st_callV (st := [vI c1]) C dX11_keeps_21 [vI 120, vI a9, vI b9, vI i] (k_fitsx_t (mw := mw) (a9 := a9) (b9 := b9) (p9 := i) hm h202 ha hb hwv (by omega) b_21) hm w_X11_98 rfl (by decide) (by decide) (by omega) (by omega) (Nat.le_of_ble_eq_true rfl) (ko_rt ?_)
          show T x 24 [(0, vR 200), (1, vI 120), (2, vI a9), (3, vI b9), (4, vI c1), (5, vI i)] [vI 1, vI c1] _ _ _
          refine st_iandB C dX11_keeps_24 (by omega) (by omega) ?_
          refine st_istore C dX11_keeps_25 (by decide) rfl ?_
          show T x 27 [(0, vR 200), (1, vI 120), (2, vI a9), (3, vI b9), (4, vI (c1 * 1)), (5, vI i)] [] _ _ _
          refine st_iinc C dX11_keeps_27 rfl (by decide) rfl ⟨(by omega), (by omega)⟩ ?_
          show T x 30 [(0, vR 200), (1, vI 120), (2, vI a9), (3, vI b9), (4, vI (c1 * 1)), (5, vI (i + 1))] [] _ _ _
          refine st_goto (tgt := 6) C dX11_keeps_30 (by decide) ?_
          exact ih_6 (c1 * 1) (i + 1) (by omega) (by omega) (by first | exact allB_t g3 (by first | exact brk_w | assumption) | exact allB_f g1 (by assumption)) (by omega)
        · refine st_callV (st := [vI c1]) C dX11_keeps_21 [vI 120, vI a9, vI b9, vI i] (k_fitsx_f (mw := mw) (a9 := a9) (b9 := b9) (p9 := i) hm h202 ha hb hwv (by omega) (Classical.byContradiction b_21)) hm w_X11_98 rfl (by decide) (by decide) (by omega) (by omega) (Nat.le_of_ble_eq_true rfl) (ko_rt ?_)
          show T x 24 [(0, vR 200), (1, vI 120), (2, vI a9), (3, vI b9), (4, vI c1), (5, vI i)] [vI 0, vI c1] _ _ _
          refine st_iandB C dX11_keeps_24 (by omega) (by omega) ?_
          rw [Int.mul_zero]
          refine st_istore C dX11_keeps_25 (by decide) rfl ?_
          show T x 27 [(0, vR 200), (1, vI 120), (2, vI a9), (3, vI b9), (4, vI 0), (5, vI i)] [] _ _ _
          refine st_iinc C dX11_keeps_27 rfl (by decide) rfl ⟨(by omega), (by omega)⟩ ?_
          show T x 30 [(0, vR 200), (1, vI 120), (2, vI a9), (3, vI b9), (4, vI 0), (5, vI (i + 1))] [] _ _ _
          refine st_goto (tgt := 6) C dX11_keeps_30 (by decide) ?_
          exact ih_6 0 (i + 1) (by omega) (by omega) (by first | exact allB_t g3 (by first | exact brk_w | assumption) | exact allB_f g1 (by assumption)) (by omega)
  exact loop_6 _ 1 0 (by omega) (by omega) (allB_0) (Nat.lt_succ_self _)
set_option maxRecDepth 20000 in
set_option maxHeartbeats 4000000 in
theorem k_keepsg_t {g : Gx} {h : HP} {mv mrc mmc mmk mdv mwl mwa mwp mth : Int} {mw : Int → Int} {a9 b9 : Int} (hm : mO h mv mrc mmc mmk mdv mwl mwa mwp mth) (h202 : h 202 = some (oI 304 mw)) (ha : 0 ≤ a9 ∧ a9 ≤ 2) (hb : 0 ≤ b9 ∧ b9 ≤ 2) (hwv : RowV mw) (hP : RuleHolds 103 a9 b9 mw) : Ct g yX11_keeps (.code yX11_keeps cX11_keeps 6 (some .boolean)) 6 0 0 [vR 200, vI 103, vI a9, vI b9] h (Rt (some (vI 1)) h) := by
  refine Ct.of (by decide) (Nat.le_of_ble_eq_true rfl) (fun x hg C F => ?_)
  subst hg
  show T x 0 [(0, vR 200), (1, vI 103), (2, vI a9), (3, vI b9)] [] h 0 0
  refine st_iconst C dX11_keeps_0 (by decide) ?_
  refine st_istore C dX11_keeps_1 (by decide) rfl ?_
  show T x 3 [(0, vR 200), (1, vI 103), (2, vI a9), (3, vI b9), (4, vI 1)] [] _ _ _
  refine st_iconst C dX11_keeps_3 (by decide) ?_
  refine st_istore C dX11_keeps_4 (by decide) rfl ?_
  show T x 6 [(0, vR 200), (1, vI 103), (2, vI a9), (3, vI b9), (4, vI 1), (5, vI 0)] [] _ _ _
  have loop_6 : ∀ (n_6 : Nat) (c1 : Int) (i : Int), (0 ≤ i) → (i ≤ 64) → (AllB (fun p => ¬ BrkAt 103 a9 b9 mw p) i c1) → (64 - i).toNat < n_6 → T x 6 [(0, vR 200), (1, vI 103), (2, vI a9), (3, vI b9), (4, vI c1), (5, vI i)] [] h 0 0 := by
    intro n_6
    induction n_6 with
    | zero => intro c1 i g1 g2 g3 hm_6; exact absurd hm_6 (Nat.not_lt_zero _)
    | succ n_6 ih_6 =>
      intro c1 i g1 g2 g3 hm_6
      have fc := allB_b g3
      refine st_iload C dX11_keeps_6 rfl ?_
      refine st_bipush C dX11_keeps_8 (by decide) (by decide) ?_
      refine st_icmp_ge (tgt := 33) C dX11_keeps_10 (by decide) (fun c_10 => ?_) (fun c_10 => ?_)
      · refine st_iconst C dX11_keeps_33 (by decide) ?_
        refine st_istore C dX11_keeps_34 (by decide) rfl ?_
        show T x 36 [(0, vR 200), (1, vI 103), (2, vI a9), (3, vI b9), (4, vI c1), (5, vI 1)] [] _ _ _
        have loop_36 : ∀ (n_36 : Nat) (c2 : Int) (k : Int), (1 ≤ k) → (k ≤ 10) → (KI 103 a9 b9 mw k c2) → (10 - k).toNat < n_36 → T x 36 [(0, vR 200), (1, vI 103), (2, vI a9), (3, vI b9), (4, vI c2), (5, vI k)] [] h 0 0 := by
          intro n_36
          induction n_36 with
          | zero => intro c2 k g4 g5 g6 hm_36; exact absurd hm_36 (Nat.not_lt_zero _)
          | succ n_36 ih_36 =>
            intro c2 k g4 g5 g6 hm_36
            have fd := KI_b g6
            refine st_iload C dX11_keeps_36 rfl ?_
            refine st_bipush C dX11_keeps_38 (by decide) (by decide) ?_
            refine st_icmp_gt (tgt := 75) C dX11_keeps_40 (by decide) (fun c_40 => ?_) (fun c_40 => ?_)
            · refine st_iload C dX11_keeps_75 rfl ?_
              exact st_zreturn C F dX11_keeps_77 rfl (by omega) (rt_i (KI_1 g6 (by omega) hP) rfl) (by omega) (by omega)
            · refine st_iload C dX11_keeps_43 rfl ?_
              refine st_iload_n C 1 dX11_keeps_45 rfl rfl ?_
              refine st_bipush C dX11_keeps_46 (by decide) (by decide) ?_
              refine st_icmp_ne (tgt := 61) C dX11_keeps_48 (by decide) (fun c_48 => ?_) (fun c_48 => by omega)
              refine st_iconst C dX11_keeps_61 (by decide) ?_
              refine st_goto (tgt := 66) C dX11_keeps_62 (by decide) ?_
              refine st_iandB C dX11_keeps_66 (by omega) (by omega) ?_
              refine st_istore C dX11_keeps_67 (by decide) rfl ?_
              show T x 69 [(0, vR 200), (1, vI 103), (2, vI a9), (3, vI b9), (4, vI (c2 * 1)), (5, vI k)] [] _ _ _
              refine st_iinc C dX11_keeps_69 rfl (by decide) rfl ⟨(by omega), (by omega)⟩ ?_
              show T x 72 [(0, vR 200), (1, vI 103), (2, vI a9), (3, vI b9), (4, vI (c2 * 1)), (5, vI (k + 1))] [] _ _ _
              refine st_goto (tgt := 36) C dX11_keeps_72 (by decide) ?_
              exact ih_36 (c2 * 1) (k + 1) (by omega) (by omega) (by exact KI_t g6 (fun z => by omega)) (by omega)
        exact loop_36 _ c1 1 (by omega) (by omega) (KI_0 g3 (by omega)) (Nat.lt_succ_self _)
      · refine st_iload C dX11_keeps_13 rfl ?_
        refine st_aload_n C 0 dX11_keeps_15 rfl rfl ?_
        refine st_iload_n C 1 dX11_keeps_16 rfl rfl ?_
        refine st_iload_n C 2 dX11_keeps_17 rfl rfl ?_
        refine st_iload_n C 3 dX11_keeps_18 rfl rfl ?_
        refine st_iload C dX11_keeps_19 rfl ?_
        by_cases b_21 : ¬ BrkAt 103 a9 b9 mw i
        · refine st_callV (st := [vI c1]) C dX11_keeps_21 [vI 103, vI a9, vI b9, vI i] (k_fitsg_t (mw := mw) (a9 := a9) (b9 := b9) (p9 := i) hm h202 ha hb hwv (by omega) b_21) hm w_X11_98 rfl (by decide) (by decide) (by omega) (by omega) (Nat.le_of_ble_eq_true rfl) (ko_rt ?_)
          show T x 24 [(0, vR 200), (1, vI 103), (2, vI a9), (3, vI b9), (4, vI c1), (5, vI i)] [vI 1, vI c1] _ _ _
          refine st_iandB C dX11_keeps_24 (by omega) (by omega) ?_
          refine st_istore C dX11_keeps_25 (by decide) rfl ?_
          show T x 27 [(0, vR 200), (1, vI 103), (2, vI a9), (3, vI b9), (4, vI (c1 * 1)), (5, vI i)] [] _ _ _
          refine st_iinc C dX11_keeps_27 rfl (by decide) rfl ⟨(by omega), (by omega)⟩ ?_
          show T x 30 [(0, vR 200), (1, vI 103), (2, vI a9), (3, vI b9), (4, vI (c1 * 1)), (5, vI (i + 1))] [] _ _ _
          refine st_goto (tgt := 6) C dX11_keeps_30 (by decide) ?_
          exact ih_6 (c1 * 1) (i + 1) (by omega) (by omega) (by first | exact allB_t g3 (by first | exact brk_w | assumption) | exact allB_f g1 (by assumption)) (by omega)
        · refine st_callV (st := [vI c1]) C dX11_keeps_21 [vI 103, vI a9, vI b9, vI i] (k_fitsg_f (mw := mw) (a9 := a9) (b9 := b9) (p9 := i) hm h202 ha hb hwv (by omega) (Classical.byContradiction b_21)) hm w_X11_98 rfl (by decide) (by decide) (by omega) (by omega) (Nat.le_of_ble_eq_true rfl) (ko_rt ?_)
          show T x 24 [(0, vR 200), (1, vI 103), (2, vI a9), (3, vI b9), (4, vI c1), (5, vI i)] [vI 0, vI c1] _ _ _
          refine st_iandB C dX11_keeps_24 (by omega) (by omega) ?_
          rw [Int.mul_zero]
          refine st_istore C dX11_keeps_25 (by decide) rfl ?_
          show T x 27 [(0, vR 200), (1, vI 103), (2, vI a9), (3, vI b9), (4, vI 0), (5, vI i)] [] _ _ _
          refine st_iinc C dX11_keeps_27 rfl (by decide) rfl ⟨(by omega), (by omega)⟩ ?_
          show T x 30 [(0, vR 200), (1, vI 103), (2, vI a9), (3, vI b9), (4, vI 0), (5, vI (i + 1))] [] _ _ _
          refine st_goto (tgt := 6) C dX11_keeps_30 (by decide) ?_
          exact ih_6 0 (i + 1) (by omega) (by omega) (by first | exact allB_t g3 (by first | exact brk_w | assumption) | exact allB_f g1 (by assumption)) (by omega)
  exact loop_6 _ 1 0 (by omega) (by omega) (allB_0) (Nat.lt_succ_self _)
set_option maxRecDepth 20000 in
set_option maxHeartbeats 4000000 in
theorem k_keepsg_f {g : Gx} {h : HP} {mv mrc mmc mmk mdv mwl mwa mwp mth : Int} {mw : Int → Int} {a9 b9 : Int} (hm : mO h mv mrc mmc mmk mdv mwl mwa mwp mth) (h202 : h 202 = some (oI 304 mw)) (ha : 0 ≤ a9 ∧ a9 ≤ 2) (hb : 0 ≤ b9 ∧ b9 ≤ 2) (hwv : RowV mw) (hP : ¬ RuleHolds 103 a9 b9 mw) : Ct g yX11_keeps (.code yX11_keeps cX11_keeps 6 (some .boolean)) 6 0 0 [vR 200, vI 103, vI a9, vI b9] h (Rt (some (vI 0)) h) := by
  refine Ct.of (by decide) (Nat.le_of_ble_eq_true rfl) (fun x hg C F => ?_)
  subst hg
  show T x 0 [(0, vR 200), (1, vI 103), (2, vI a9), (3, vI b9)] [] h 0 0
  refine st_iconst C dX11_keeps_0 (by decide) ?_
  refine st_istore C dX11_keeps_1 (by decide) rfl ?_
  show T x 3 [(0, vR 200), (1, vI 103), (2, vI a9), (3, vI b9), (4, vI 1)] [] _ _ _
  refine st_iconst C dX11_keeps_3 (by decide) ?_
  refine st_istore C dX11_keeps_4 (by decide) rfl ?_
  show T x 6 [(0, vR 200), (1, vI 103), (2, vI a9), (3, vI b9), (4, vI 1), (5, vI 0)] [] _ _ _
  have loop_6 : ∀ (n_6 : Nat) (c1 : Int) (i : Int), (0 ≤ i) → (i ≤ 64) → (AllB (fun p => ¬ BrkAt 103 a9 b9 mw p) i c1) → (64 - i).toNat < n_6 → T x 6 [(0, vR 200), (1, vI 103), (2, vI a9), (3, vI b9), (4, vI c1), (5, vI i)] [] h 0 0 := by
    intro n_6
    induction n_6 with
    | zero => intro c1 i g1 g2 g3 hm_6; exact absurd hm_6 (Nat.not_lt_zero _)
    | succ n_6 ih_6 =>
      intro c1 i g1 g2 g3 hm_6
      have fc := allB_b g3
      refine st_iload C dX11_keeps_6 rfl ?_
      refine st_bipush C dX11_keeps_8 (by decide) (by decide) ?_
      refine st_icmp_ge (tgt := 33) C dX11_keeps_10 (by decide) (fun c_10 => ?_) (fun c_10 => ?_)
      · refine st_iconst C dX11_keeps_33 (by decide) ?_
        refine st_istore C dX11_keeps_34 (by decide) rfl ?_
        show T x 36 [(0, vR 200), (1, vI 103), (2, vI a9), (3, vI b9), (4, vI c1), (5, vI 1)] [] _ _ _
        have loop_36 : ∀ (n_36 : Nat) (c2 : Int) (k : Int), (1 ≤ k) → (k ≤ 10) → (KI 103 a9 b9 mw k c2) → (10 - k).toNat < n_36 → T x 36 [(0, vR 200), (1, vI 103), (2, vI a9), (3, vI b9), (4, vI c2), (5, vI k)] [] h 0 0 := by
          intro n_36
          induction n_36 with
          | zero => intro c2 k g4 g5 g6 hm_36; exact absurd hm_36 (Nat.not_lt_zero _)
          | succ n_36 ih_36 =>
            intro c2 k g4 g5 g6 hm_36
            have fd := KI_b g6
            refine st_iload C dX11_keeps_36 rfl ?_
            refine st_bipush C dX11_keeps_38 (by decide) (by decide) ?_
            refine st_icmp_gt (tgt := 75) C dX11_keeps_40 (by decide) (fun c_40 => ?_) (fun c_40 => ?_)
            · refine st_iload C dX11_keeps_75 rfl ?_
              exact st_zreturn C F dX11_keeps_77 rfl (by omega) (rt_i (KI_2 g6 (by omega) hP) rfl) (by omega) (by omega)
            · refine st_iload C dX11_keeps_43 rfl ?_
              refine st_iload_n C 1 dX11_keeps_45 rfl rfl ?_
              refine st_bipush C dX11_keeps_46 (by decide) (by decide) ?_
              refine st_icmp_ne (tgt := 61) C dX11_keeps_48 (by decide) (fun c_48 => ?_) (fun c_48 => by omega)
              refine st_iconst C dX11_keeps_61 (by decide) ?_
              refine st_goto (tgt := 66) C dX11_keeps_62 (by decide) ?_
              refine st_iandB C dX11_keeps_66 (by omega) (by omega) ?_
              refine st_istore C dX11_keeps_67 (by decide) rfl ?_
              show T x 69 [(0, vR 200), (1, vI 103), (2, vI a9), (3, vI b9), (4, vI (c2 * 1)), (5, vI k)] [] _ _ _
              refine st_iinc C dX11_keeps_69 rfl (by decide) rfl ⟨(by omega), (by omega)⟩ ?_
              show T x 72 [(0, vR 200), (1, vI 103), (2, vI a9), (3, vI b9), (4, vI (c2 * 1)), (5, vI (k + 1))] [] _ _ _
              refine st_goto (tgt := 36) C dX11_keeps_72 (by decide) ?_
              exact ih_36 (c2 * 1) (k + 1) (by omega) (by omega) (by exact KI_t g6 (fun z => by omega)) (by omega)
        exact loop_36 _ c1 1 (by omega) (by omega) (KI_0 g3 (by omega)) (Nat.lt_succ_self _)
      · refine st_iload C dX11_keeps_13 rfl ?_
        refine st_aload_n C 0 dX11_keeps_15 rfl rfl ?_
        refine st_iload_n C 1 dX11_keeps_16 rfl rfl ?_
        refine st_iload_n C 2 dX11_keeps_17 rfl rfl ?_
        refine st_iload_n C 3 dX11_keeps_18 rfl rfl ?_
        refine st_iload C dX11_keeps_19 rfl ?_
        by_cases b_21 : ¬ BrkAt 103 a9 b9 mw i
        · refine st_callV (st := [vI c1]) C dX11_keeps_21 [vI 103, vI a9, vI b9, vI i] (k_fitsg_t (mw := mw) (a9 := a9) (b9 := b9) (p9 := i) hm h202 ha hb hwv (by omega) b_21) hm w_X11_98 rfl (by decide) (by decide) (by omega) (by omega) (Nat.le_of_ble_eq_true rfl) (ko_rt ?_)
          show T x 24 [(0, vR 200), (1, vI 103), (2, vI a9), (3, vI b9), (4, vI c1), (5, vI i)] [vI 1, vI c1] _ _ _
          refine st_iandB C dX11_keeps_24 (by omega) (by omega) ?_
          refine st_istore C dX11_keeps_25 (by decide) rfl ?_
          show T x 27 [(0, vR 200), (1, vI 103), (2, vI a9), (3, vI b9), (4, vI (c1 * 1)), (5, vI i)] [] _ _ _
          refine st_iinc C dX11_keeps_27 rfl (by decide) rfl ⟨(by omega), (by omega)⟩ ?_
          show T x 30 [(0, vR 200), (1, vI 103), (2, vI a9), (3, vI b9), (4, vI (c1 * 1)), (5, vI (i + 1))] [] _ _ _
          refine st_goto (tgt := 6) C dX11_keeps_30 (by decide) ?_
          exact ih_6 (c1 * 1) (i + 1) (by omega) (by omega) (by first | exact allB_t g3 (by first | exact brk_w | assumption) | exact allB_f g1 (by assumption)) (by omega)
        · refine st_callV (st := [vI c1]) C dX11_keeps_21 [vI 103, vI a9, vI b9, vI i] (k_fitsg_f (mw := mw) (a9 := a9) (b9 := b9) (p9 := i) hm h202 ha hb hwv (by omega) (Classical.byContradiction b_21)) hm w_X11_98 rfl (by decide) (by decide) (by omega) (by omega) (Nat.le_of_ble_eq_true rfl) (ko_rt ?_)
          show T x 24 [(0, vR 200), (1, vI 103), (2, vI a9), (3, vI b9), (4, vI c1), (5, vI i)] [vI 0, vI c1] _ _ _
          refine st_iandB C dX11_keeps_24 (by omega) (by omega) ?_
          rw [Int.mul_zero]
          refine st_istore C dX11_keeps_25 (by decide) rfl ?_
          show T x 27 [(0, vR 200), (1, vI 103), (2, vI a9), (3, vI b9), (4, vI 0), (5, vI i)] [] _ _ _
          refine st_iinc C dX11_keeps_27 rfl (by decide) rfl ⟨(by omega), (by omega)⟩ ?_
          show T x 30 [(0, vR 200), (1, vI 103), (2, vI a9), (3, vI b9), (4, vI 0), (5, vI (i + 1))] [] _ _ _
          refine st_goto (tgt := 6) C dX11_keeps_30 (by decide) ?_
          exact ih_6 0 (i + 1) (by omega) (by omega) (by first | exact allB_t g3 (by first | exact brk_w | assumption) | exact allB_f g1 (by assumption)) (by omega)
  exact loop_6 _ 1 0 (by omega) (by omega) (allB_0) (Nat.lt_succ_self _)
set_option maxRecDepth 20000 in
set_option maxHeartbeats 4000000 in
theorem k_keepsm_t {g : Gx} {h : HP} {mv mrc mmc mmk mdv mwl mwa mwp mth : Int} {mw : Int → Int} {a9 b9 : Int} (hm : mO h mv mrc mmc mmk mdv mwl mwa mwp mth) (h202 : h 202 = some (oI 304 mw)) (ha : 0 ≤ a9 ∧ a9 ≤ 2) (hb : 0 ≤ b9 ∧ b9 ≤ 2) (hwv : RowV mw) (hP : RuleHolds 109 a9 b9 mw) : Ct g yX11_keeps (.code yX11_keeps cX11_keeps 6 (some .boolean)) 6 0 0 [vR 200, vI 109, vI a9, vI b9] h (Rt (some (vI 1)) h) := by
  refine Ct.of (by decide) (Nat.le_of_ble_eq_true rfl) (fun x hg C F => ?_)
  subst hg
  show T x 0 [(0, vR 200), (1, vI 109), (2, vI a9), (3, vI b9)] [] h 0 0
  refine st_iconst C dX11_keeps_0 (by decide) ?_
  refine st_istore C dX11_keeps_1 (by decide) rfl ?_
  show T x 3 [(0, vR 200), (1, vI 109), (2, vI a9), (3, vI b9), (4, vI 1)] [] _ _ _
  refine st_iconst C dX11_keeps_3 (by decide) ?_
  refine st_istore C dX11_keeps_4 (by decide) rfl ?_
  show T x 6 [(0, vR 200), (1, vI 109), (2, vI a9), (3, vI b9), (4, vI 1), (5, vI 0)] [] _ _ _
  have loop_6 : ∀ (n_6 : Nat) (c1 : Int) (i : Int), (0 ≤ i) → (i ≤ 64) → (AllB (fun p => ¬ BrkAt 109 a9 b9 mw p) i c1) → (64 - i).toNat < n_6 → T x 6 [(0, vR 200), (1, vI 109), (2, vI a9), (3, vI b9), (4, vI c1), (5, vI i)] [] h 0 0 := by
    intro n_6
    induction n_6 with
    | zero => intro c1 i g1 g2 g3 hm_6; exact absurd hm_6 (Nat.not_lt_zero _)
    | succ n_6 ih_6 =>
      intro c1 i g1 g2 g3 hm_6
      have fc := allB_b g3
      refine st_iload C dX11_keeps_6 rfl ?_
      refine st_bipush C dX11_keeps_8 (by decide) (by decide) ?_
      refine st_icmp_ge (tgt := 33) C dX11_keeps_10 (by decide) (fun c_10 => ?_) (fun c_10 => ?_)
      · refine st_iconst C dX11_keeps_33 (by decide) ?_
        refine st_istore C dX11_keeps_34 (by decide) rfl ?_
        show T x 36 [(0, vR 200), (1, vI 109), (2, vI a9), (3, vI b9), (4, vI c1), (5, vI 1)] [] _ _ _
        have loop_36 : ∀ (n_36 : Nat) (c2 : Int) (k : Int), (1 ≤ k) → (k ≤ 10) → (KI 109 a9 b9 mw k c2) → (10 - k).toNat < n_36 → T x 36 [(0, vR 200), (1, vI 109), (2, vI a9), (3, vI b9), (4, vI c2), (5, vI k)] [] h 0 0 := by
          intro n_36
          induction n_36 with
          | zero => intro c2 k g4 g5 g6 hm_36; exact absurd hm_36 (Nat.not_lt_zero _)
          | succ n_36 ih_36 =>
            intro c2 k g4 g5 g6 hm_36
            have fd := KI_b g6
            refine st_iload C dX11_keeps_36 rfl ?_
            refine st_bipush C dX11_keeps_38 (by decide) (by decide) ?_
            refine st_icmp_gt (tgt := 75) C dX11_keeps_40 (by decide) (fun c_40 => ?_) (fun c_40 => ?_)
            · refine st_iload C dX11_keeps_75 rfl ?_
              exact st_zreturn C F dX11_keeps_77 rfl (by omega) (rt_i (KI_1 g6 (by omega) hP) rfl) (by omega) (by omega)
            · refine st_iload C dX11_keeps_43 rfl ?_
              refine st_iload_n C 1 dX11_keeps_45 rfl rfl ?_
              refine st_bipush C dX11_keeps_46 (by decide) (by decide) ?_
              refine st_icmp_ne (tgt := 61) C dX11_keeps_48 (by decide) (fun c_48 => ?_) (fun c_48 => by omega)
              refine st_iconst C dX11_keeps_61 (by decide) ?_
              refine st_goto (tgt := 66) C dX11_keeps_62 (by decide) ?_
              refine st_iandB C dX11_keeps_66 (by omega) (by omega) ?_
              refine st_istore C dX11_keeps_67 (by decide) rfl ?_
              show T x 69 [(0, vR 200), (1, vI 109), (2, vI a9), (3, vI b9), (4, vI (c2 * 1)), (5, vI k)] [] _ _ _
              refine st_iinc C dX11_keeps_69 rfl (by decide) rfl ⟨(by omega), (by omega)⟩ ?_
              show T x 72 [(0, vR 200), (1, vI 109), (2, vI a9), (3, vI b9), (4, vI (c2 * 1)), (5, vI (k + 1))] [] _ _ _
              refine st_goto (tgt := 36) C dX11_keeps_72 (by decide) ?_
              exact ih_36 (c2 * 1) (k + 1) (by omega) (by omega) (by exact KI_t g6 (fun z => by omega)) (by omega)
        exact loop_36 _ c1 1 (by omega) (by omega) (KI_0 g3 (by omega)) (Nat.lt_succ_self _)
      · refine st_iload C dX11_keeps_13 rfl ?_
        refine st_aload_n C 0 dX11_keeps_15 rfl rfl ?_
        refine st_iload_n C 1 dX11_keeps_16 rfl rfl ?_
        refine st_iload_n C 2 dX11_keeps_17 rfl rfl ?_
        refine st_iload_n C 3 dX11_keeps_18 rfl rfl ?_
        refine st_iload C dX11_keeps_19 rfl ?_
        by_cases b_21 : ¬ BrkAt 109 a9 b9 mw i
        · refine st_callV (st := [vI c1]) C dX11_keeps_21 [vI 109, vI a9, vI b9, vI i] (k_fitsm_t (mw := mw) (a9 := a9) (b9 := b9) (p9 := i) hm h202 ha hb hwv (by omega) b_21) hm w_X11_98 rfl (by decide) (by decide) (by omega) (by omega) (Nat.le_of_ble_eq_true rfl) (ko_rt ?_)
          show T x 24 [(0, vR 200), (1, vI 109), (2, vI a9), (3, vI b9), (4, vI c1), (5, vI i)] [vI 1, vI c1] _ _ _
          refine st_iandB C dX11_keeps_24 (by omega) (by omega) ?_
          refine st_istore C dX11_keeps_25 (by decide) rfl ?_
          show T x 27 [(0, vR 200), (1, vI 109), (2, vI a9), (3, vI b9), (4, vI (c1 * 1)), (5, vI i)] [] _ _ _
          refine st_iinc C dX11_keeps_27 rfl (by decide) rfl ⟨(by omega), (by omega)⟩ ?_
          show T x 30 [(0, vR 200), (1, vI 109), (2, vI a9), (3, vI b9), (4, vI (c1 * 1)), (5, vI (i + 1))] [] _ _ _
          refine st_goto (tgt := 6) C dX11_keeps_30 (by decide) ?_
          exact ih_6 (c1 * 1) (i + 1) (by omega) (by omega) (by first | exact allB_t g3 (by first | exact brk_w | assumption) | exact allB_f g1 (by assumption)) (by omega)
        · refine st_callV (st := [vI c1]) C dX11_keeps_21 [vI 109, vI a9, vI b9, vI i] (k_fitsm_f (mw := mw) (a9 := a9) (b9 := b9) (p9 := i) hm h202 ha hb hwv (by omega) (Classical.byContradiction b_21)) hm w_X11_98 rfl (by decide) (by decide) (by omega) (by omega) (Nat.le_of_ble_eq_true rfl) (ko_rt ?_)
          show T x 24 [(0, vR 200), (1, vI 109), (2, vI a9), (3, vI b9), (4, vI c1), (5, vI i)] [vI 0, vI c1] _ _ _
          refine st_iandB C dX11_keeps_24 (by omega) (by omega) ?_
          rw [Int.mul_zero]
          refine st_istore C dX11_keeps_25 (by decide) rfl ?_
          show T x 27 [(0, vR 200), (1, vI 109), (2, vI a9), (3, vI b9), (4, vI 0), (5, vI i)] [] _ _ _
          refine st_iinc C dX11_keeps_27 rfl (by decide) rfl ⟨(by omega), (by omega)⟩ ?_
          show T x 30 [(0, vR 200), (1, vI 109), (2, vI a9), (3, vI b9), (4, vI 0), (5, vI (i + 1))] [] _ _ _
          refine st_goto (tgt := 6) C dX11_keeps_30 (by decide) ?_
          exact ih_6 0 (i + 1) (by omega) (by omega) (by first | exact allB_t g3 (by first | exact brk_w | assumption) | exact allB_f g1 (by assumption)) (by omega)
  exact loop_6 _ 1 0 (by omega) (by omega) (allB_0) (Nat.lt_succ_self _)
set_option maxRecDepth 20000 in
set_option maxHeartbeats 4000000 in
theorem k_keepsm_f {g : Gx} {h : HP} {mv mrc mmc mmk mdv mwl mwa mwp mth : Int} {mw : Int → Int} {a9 b9 : Int} (hm : mO h mv mrc mmc mmk mdv mwl mwa mwp mth) (h202 : h 202 = some (oI 304 mw)) (ha : 0 ≤ a9 ∧ a9 ≤ 2) (hb : 0 ≤ b9 ∧ b9 ≤ 2) (hwv : RowV mw) (hP : ¬ RuleHolds 109 a9 b9 mw) : Ct g yX11_keeps (.code yX11_keeps cX11_keeps 6 (some .boolean)) 6 0 0 [vR 200, vI 109, vI a9, vI b9] h (Rt (some (vI 0)) h) := by
  refine Ct.of (by decide) (Nat.le_of_ble_eq_true rfl) (fun x hg C F => ?_)
  subst hg
  show T x 0 [(0, vR 200), (1, vI 109), (2, vI a9), (3, vI b9)] [] h 0 0
  refine st_iconst C dX11_keeps_0 (by decide) ?_
  refine st_istore C dX11_keeps_1 (by decide) rfl ?_
  show T x 3 [(0, vR 200), (1, vI 109), (2, vI a9), (3, vI b9), (4, vI 1)] [] _ _ _
  refine st_iconst C dX11_keeps_3 (by decide) ?_
  refine st_istore C dX11_keeps_4 (by decide) rfl ?_
  show T x 6 [(0, vR 200), (1, vI 109), (2, vI a9), (3, vI b9), (4, vI 1), (5, vI 0)] [] _ _ _
  have loop_6 : ∀ (n_6 : Nat) (c1 : Int) (i : Int), (0 ≤ i) → (i ≤ 64) → (AllB (fun p => ¬ BrkAt 109 a9 b9 mw p) i c1) → (64 - i).toNat < n_6 → T x 6 [(0, vR 200), (1, vI 109), (2, vI a9), (3, vI b9), (4, vI c1), (5, vI i)] [] h 0 0 := by
    intro n_6
    induction n_6 with
    | zero => intro c1 i g1 g2 g3 hm_6; exact absurd hm_6 (Nat.not_lt_zero _)
    | succ n_6 ih_6 =>
      intro c1 i g1 g2 g3 hm_6
      have fc := allB_b g3
      refine st_iload C dX11_keeps_6 rfl ?_
      refine st_bipush C dX11_keeps_8 (by decide) (by decide) ?_
      refine st_icmp_ge (tgt := 33) C dX11_keeps_10 (by decide) (fun c_10 => ?_) (fun c_10 => ?_)
      · refine st_iconst C dX11_keeps_33 (by decide) ?_
        refine st_istore C dX11_keeps_34 (by decide) rfl ?_
        show T x 36 [(0, vR 200), (1, vI 109), (2, vI a9), (3, vI b9), (4, vI c1), (5, vI 1)] [] _ _ _
        have loop_36 : ∀ (n_36 : Nat) (c2 : Int) (k : Int), (1 ≤ k) → (k ≤ 10) → (KI 109 a9 b9 mw k c2) → (10 - k).toNat < n_36 → T x 36 [(0, vR 200), (1, vI 109), (2, vI a9), (3, vI b9), (4, vI c2), (5, vI k)] [] h 0 0 := by
          intro n_36
          induction n_36 with
          | zero => intro c2 k g4 g5 g6 hm_36; exact absurd hm_36 (Nat.not_lt_zero _)
          | succ n_36 ih_36 =>
            intro c2 k g4 g5 g6 hm_36
            have fd := KI_b g6
            refine st_iload C dX11_keeps_36 rfl ?_
            refine st_bipush C dX11_keeps_38 (by decide) (by decide) ?_
            refine st_icmp_gt (tgt := 75) C dX11_keeps_40 (by decide) (fun c_40 => ?_) (fun c_40 => ?_)
            · refine st_iload C dX11_keeps_75 rfl ?_
              exact st_zreturn C F dX11_keeps_77 rfl (by omega) (rt_i (KI_2 g6 (by omega) hP) rfl) (by omega) (by omega)
            · refine st_iload C dX11_keeps_43 rfl ?_
              refine st_iload_n C 1 dX11_keeps_45 rfl rfl ?_
              refine st_bipush C dX11_keeps_46 (by decide) (by decide) ?_
              refine st_icmp_ne (tgt := 61) C dX11_keeps_48 (by decide) (fun c_48 => ?_) (fun c_48 => by omega)
              refine st_iconst C dX11_keeps_61 (by decide) ?_
              refine st_goto (tgt := 66) C dX11_keeps_62 (by decide) ?_
              refine st_iandB C dX11_keeps_66 (by omega) (by omega) ?_
              refine st_istore C dX11_keeps_67 (by decide) rfl ?_
              show T x 69 [(0, vR 200), (1, vI 109), (2, vI a9), (3, vI b9), (4, vI (c2 * 1)), (5, vI k)] [] _ _ _
              refine st_iinc C dX11_keeps_69 rfl (by decide) rfl ⟨(by omega), (by omega)⟩ ?_
              show T x 72 [(0, vR 200), (1, vI 109), (2, vI a9), (3, vI b9), (4, vI (c2 * 1)), (5, vI (k + 1))] [] _ _ _
              refine st_goto (tgt := 36) C dX11_keeps_72 (by decide) ?_
              exact ih_36 (c2 * 1) (k + 1) (by omega) (by omega) (by exact KI_t g6 (fun z => by omega)) (by omega)
        exact loop_36 _ c1 1 (by omega) (by omega) (KI_0 g3 (by omega)) (Nat.lt_succ_self _)
      · refine st_iload C dX11_keeps_13 rfl ?_
        refine st_aload_n C 0 dX11_keeps_15 rfl rfl ?_
        refine st_iload_n C 1 dX11_keeps_16 rfl rfl ?_
        refine st_iload_n C 2 dX11_keeps_17 rfl rfl ?_
        refine st_iload_n C 3 dX11_keeps_18 rfl rfl ?_
        refine st_iload C dX11_keeps_19 rfl ?_
        by_cases b_21 : ¬ BrkAt 109 a9 b9 mw i
        · refine st_callV (st := [vI c1]) C dX11_keeps_21 [vI 109, vI a9, vI b9, vI i] (k_fitsm_t (mw := mw) (a9 := a9) (b9 := b9) (p9 := i) hm h202 ha hb hwv (by omega) b_21) hm w_X11_98 rfl (by decide) (by decide) (by omega) (by omega) (Nat.le_of_ble_eq_true rfl) (ko_rt ?_)
          show T x 24 [(0, vR 200), (1, vI 109), (2, vI a9), (3, vI b9), (4, vI c1), (5, vI i)] [vI 1, vI c1] _ _ _
          refine st_iandB C dX11_keeps_24 (by omega) (by omega) ?_
          refine st_istore C dX11_keeps_25 (by decide) rfl ?_
          show T x 27 [(0, vR 200), (1, vI 109), (2, vI a9), (3, vI b9), (4, vI (c1 * 1)), (5, vI i)] [] _ _ _
          refine st_iinc C dX11_keeps_27 rfl (by decide) rfl ⟨(by omega), (by omega)⟩ ?_
          show T x 30 [(0, vR 200), (1, vI 109), (2, vI a9), (3, vI b9), (4, vI (c1 * 1)), (5, vI (i + 1))] [] _ _ _
          refine st_goto (tgt := 6) C dX11_keeps_30 (by decide) ?_
          exact ih_6 (c1 * 1) (i + 1) (by omega) (by omega) (by first | exact allB_t g3 (by first | exact brk_w | assumption) | exact allB_f g1 (by assumption)) (by omega)
        · refine st_callV (st := [vI c1]) C dX11_keeps_21 [vI 109, vI a9, vI b9, vI i] (k_fitsm_f (mw := mw) (a9 := a9) (b9 := b9) (p9 := i) hm h202 ha hb hwv (by omega) (Classical.byContradiction b_21)) hm w_X11_98 rfl (by decide) (by decide) (by omega) (by omega) (Nat.le_of_ble_eq_true rfl) (ko_rt ?_)
          show T x 24 [(0, vR 200), (1, vI 109), (2, vI a9), (3, vI b9), (4, vI c1), (5, vI i)] [vI 0, vI c1] _ _ _
          refine st_iandB C dX11_keeps_24 (by omega) (by omega) ?_
          rw [Int.mul_zero]
          refine st_istore C dX11_keeps_25 (by decide) rfl ?_
          show T x 27 [(0, vR 200), (1, vI 109), (2, vI a9), (3, vI b9), (4, vI 0), (5, vI i)] [] _ _ _
          refine st_iinc C dX11_keeps_27 rfl (by decide) rfl ⟨(by omega), (by omega)⟩ ?_
          show T x 30 [(0, vR 200), (1, vI 109), (2, vI a9), (3, vI b9), (4, vI 0), (5, vI (i + 1))] [] _ _ _
          refine st_goto (tgt := 6) C dX11_keeps_30 (by decide) ?_
          exact ih_6 0 (i + 1) (by omega) (by omega) (by first | exact allB_t g3 (by first | exact brk_w | assumption) | exact allB_f g1 (by assumption)) (by omega)
  exact loop_6 _ 1 0 (by omega) (by omega) (allB_0) (Nat.lt_succ_self _)
set_option maxRecDepth 20000 in
set_option maxHeartbeats 4000000 in
theorem k_keepsw_t {g : Gx} {h : HP} {mv mrc mmc mmk mdv mwl mwa mwp mth : Int} {mw : Int → Int} {a9 b9 : Int} {f0 : Int → Int} (hm : mO h mv mrc mmc mmk mdv mwl mwa mwp mth) (h202 : h 202 = some (oI 304 mw)) (ha : 0 ≤ a9 ∧ a9 ≤ 2) (hb : 0 ≤ b9 ∧ b9 ≤ 2) (hwv : RowV mw) (h216 : h 216 = some (oZ 64 f0)) (hP : RuleHolds 119 a9 b9 mw) : Ct g yX11_keeps (.code yX11_keeps cX11_keeps 6 (some .boolean)) 6 0 0 [vR 200, vI 119, vI a9, vI b9] h (RtZ (some (vI 1)) h (fun _ => True)) := by
  refine Ct.of (by decide) (Nat.le_of_ble_eq_true rfl) (fun x hg C F => ?_)
  subst hg
  show T x 0 [(0, vR 200), (1, vI 119), (2, vI a9), (3, vI b9)] [] h 0 0
  refine st_iconst C dX11_keeps_0 (by decide) ?_
  refine st_istore C dX11_keeps_1 (by decide) rfl ?_
  show T x 3 [(0, vR 200), (1, vI 119), (2, vI a9), (3, vI b9), (4, vI 1)] [] _ _ _
  refine st_iconst C dX11_keeps_3 (by decide) ?_
  refine st_istore C dX11_keeps_4 (by decide) rfl ?_
  show T x 6 [(0, vR 200), (1, vI 119), (2, vI a9), (3, vI b9), (4, vI 1), (5, vI 0)] [] _ _ _
  have loop_6 : ∀ (n_6 : Nat) (c1 : Int) (i : Int), (0 ≤ i) → (i ≤ 64) → (AllB (fun p => ¬ BrkAt 119 a9 b9 mw p) i c1) → (64 - i).toNat < n_6 → T x 6 [(0, vR 200), (1, vI 119), (2, vI a9), (3, vI b9), (4, vI c1), (5, vI i)] [] h 0 0 := by
    intro n_6
    induction n_6 with
    | zero => intro c1 i g1 g2 g3 hm_6; exact absurd hm_6 (Nat.not_lt_zero _)
    | succ n_6 ih_6 =>
      intro c1 i g1 g2 g3 hm_6
      have fc := allB_b g3
      refine st_iload C dX11_keeps_6 rfl ?_
      refine st_bipush C dX11_keeps_8 (by decide) (by decide) ?_
      refine st_icmp_ge (tgt := 33) C dX11_keeps_10 (by decide) (fun c_10 => ?_) (fun c_10 => ?_)
      · refine st_iconst C dX11_keeps_33 (by decide) ?_
        refine st_istore C dX11_keeps_34 (by decide) rfl ?_
        show T x 36 [(0, vR 200), (1, vI 119), (2, vI a9), (3, vI b9), (4, vI c1), (5, vI 1)] [] _ _ _
        have loop_36 : ∀ (n_36 : Nat) (c2 : Int) (k : Int) (f1 : Int → Int) (h1 : HP), (1 ≤ k) → (k ≤ 10) → (KI 119 a9 b9 mw k c2) → (h1 = hput h 216 (oZ 64 f1)) → (10 - k).toNat < n_36 → T x 36 [(0, vR 200), (1, vI 119), (2, vI a9), (3, vI b9), (4, vI c2), (5, vI k)] [] h1 0 0 := by
          intro n_36
          induction n_36 with
          | zero => intro c2 k f1 h1 g4 g5 g6 hh hm_36; exact absurd hm_36 (Nat.not_lt_zero _)
          | succ n_36 ih_36 =>
            intro c2 k f1 h1 g4 g5 g6 hh hm_36
            have fd := KI_b g6
            refine st_iload C dX11_keeps_36 rfl ?_
            refine st_bipush C dX11_keeps_38 (by decide) (by decide) ?_
            refine st_icmp_gt (tgt := 75) C dX11_keeps_40 (by decide) (fun c_40 => ?_) (fun c_40 => ?_)
            · refine st_iload C dX11_keeps_75 rfl ?_
              exact st_zreturn C F dX11_keeps_77 rfl (by omega) (rz_i (KI_1 g6 (by omega) hP) hh trivial) (by omega) (by omega)
            · refine st_iload C dX11_keeps_43 rfl ?_
              refine st_iload_n C 1 dX11_keeps_45 rfl rfl ?_
              refine st_bipush C dX11_keeps_46 (by decide) (by decide) ?_
              refine st_icmp_ne (tgt := 61) C dX11_keeps_48 (by decide) (fun c_48 => by omega) (fun c_48 => ?_)
              refine st_aload_n C 0 dX11_keeps_51 rfl rfl ?_
              refine st_iload_n C 2 dX11_keeps_52 rfl rfl ?_
              refine st_iload C dX11_keeps_53 rfl ?_
              by_cases b_55 : HangA mw a9 k
              · refine st_callV (st := [vI c2]) C dX11_keeps_55 [vI a9, vI k] (k_hangs_t (f0 := f1) (mw := mw) (l := a9) (A := k) (by rw [hh]; exact hput_o (by decide) hm) (by rw [hh]; exact hput_o (by decide) h202) (by rw [hh]; exact hput_s) ha b_55) (by rw [hh]; exact hput_o (by decide) hm) w_X11_102 rfl (by decide) (by decide) (by omega) (by omega) (Nat.le_of_ble_eq_true rfl) (ko_rz (fun f4 _ => ?_))
                show T x 58 [(0, vR 200), (1, vI 119), (2, vI a9), (3, vI b9), (4, vI c2), (5, vI k)] [vI 1, vI c2] _ _ _
                refine st_if_eq (tgt := 65) C dX11_keeps_58 (by decide) (fun c_58 => by omega) (fun c_58 => ?_)
                refine st_iconst C dX11_keeps_61 (by decide) ?_
                refine st_goto (tgt := 66) C dX11_keeps_62 (by decide) ?_
                refine st_iandB C dX11_keeps_66 (by omega) (by omega) ?_
                refine st_istore C dX11_keeps_67 (by decide) rfl ?_
                show T x 69 [(0, vR 200), (1, vI 119), (2, vI a9), (3, vI b9), (4, vI (c2 * 1)), (5, vI k)] [] _ _ _
                refine st_iinc C dX11_keeps_69 rfl (by decide) rfl ⟨(by omega), (by omega)⟩ ?_
                show T x 72 [(0, vR 200), (1, vI 119), (2, vI a9), (3, vI b9), (4, vI (c2 * 1)), (5, vI (k + 1))] [] _ _ _
                refine st_goto (tgt := 36) C dX11_keeps_72 (by decide) ?_
                exact ih_36 (c2 * 1) (k + 1) f4 (hput h1 216 (oZ 64 f4)) (by omega) (by omega) (by first | exact KI_t g6 (fun _ => by assumption) | exact KI_f rfl g4 (by omega) (by assumption)) (by rw [hh, hput_hput]) (by omega)
              · refine st_callV (st := [vI c2]) C dX11_keeps_55 [vI a9, vI k] (k_hangs_f (f0 := f1) (mw := mw) (l := a9) (A := k) (by rw [hh]; exact hput_o (by decide) hm) (by rw [hh]; exact hput_o (by decide) h202) (by rw [hh]; exact hput_s) ha b_55) (by rw [hh]; exact hput_o (by decide) hm) w_X11_102 rfl (by decide) (by decide) (by omega) (by omega) (Nat.le_of_ble_eq_true rfl) (ko_rz (fun f4 _ => ?_))
                show T x 58 [(0, vR 200), (1, vI 119), (2, vI a9), (3, vI b9), (4, vI c2), (5, vI k)] [vI 0, vI c2] _ _ _
                refine st_if_eq (tgt := 65) C dX11_keeps_58 (by decide) (fun c_58 => ?_) (fun c_58 => by omega)
                refine st_iconst C dX11_keeps_65 (by decide) ?_
                refine st_iandB C dX11_keeps_66 (by omega) (by omega) ?_
                rw [Int.mul_zero]
                refine st_istore C dX11_keeps_67 (by decide) rfl ?_
                show T x 69 [(0, vR 200), (1, vI 119), (2, vI a9), (3, vI b9), (4, vI 0), (5, vI k)] [] _ _ _
                refine st_iinc C dX11_keeps_69 rfl (by decide) rfl ⟨(by omega), (by omega)⟩ ?_
                show T x 72 [(0, vR 200), (1, vI 119), (2, vI a9), (3, vI b9), (4, vI 0), (5, vI (k + 1))] [] _ _ _
                refine st_goto (tgt := 36) C dX11_keeps_72 (by decide) ?_
                exact ih_36 0 (k + 1) f4 (hput h1 216 (oZ 64 f4)) (by omega) (by omega) (by first | exact KI_t g6 (fun _ => by assumption) | exact KI_f rfl g4 (by omega) (by assumption)) (by rw [hh, hput_hput]) (by omega)
        exact loop_36 _ c1 1 f0 h (by omega) (by omega) (KI_0 g3 (by omega)) ((hput_self h216).symm) (Nat.lt_succ_self _)
      · refine st_iload C dX11_keeps_13 rfl ?_
        refine st_aload_n C 0 dX11_keeps_15 rfl rfl ?_
        refine st_iload_n C 1 dX11_keeps_16 rfl rfl ?_
        refine st_iload_n C 2 dX11_keeps_17 rfl rfl ?_
        refine st_iload_n C 3 dX11_keeps_18 rfl rfl ?_
        refine st_iload C dX11_keeps_19 rfl ?_
        refine st_callV (st := [vI c1]) C dX11_keeps_21 [vI 119, vI a9, vI b9, vI i] (k_fitsw_t (mw := mw) (a9 := a9) (b9 := b9) (p9 := i) hm h202 ha hb hwv (by omega)) hm w_X11_98 rfl (by decide) (by decide) (by omega) (by omega) (Nat.le_of_ble_eq_true rfl) (ko_rt ?_)
        show T x 24 [(0, vR 200), (1, vI 119), (2, vI a9), (3, vI b9), (4, vI c1), (5, vI i)] [vI 1, vI c1] _ _ _
        refine st_iandB C dX11_keeps_24 (by omega) (by omega) ?_
        refine st_istore C dX11_keeps_25 (by decide) rfl ?_
        show T x 27 [(0, vR 200), (1, vI 119), (2, vI a9), (3, vI b9), (4, vI (c1 * 1)), (5, vI i)] [] _ _ _
        refine st_iinc C dX11_keeps_27 rfl (by decide) rfl ⟨(by omega), (by omega)⟩ ?_
        show T x 30 [(0, vR 200), (1, vI 119), (2, vI a9), (3, vI b9), (4, vI (c1 * 1)), (5, vI (i + 1))] [] _ _ _
        refine st_goto (tgt := 6) C dX11_keeps_30 (by decide) ?_
        exact ih_6 (c1 * 1) (i + 1) (by omega) (by omega) (by first | exact allB_t g3 (by first | exact brk_w | assumption) | exact allB_f g1 (by assumption)) (by omega)
  exact loop_6 _ 1 0 (by omega) (by omega) (allB_0) (Nat.lt_succ_self _)
set_option maxRecDepth 20000 in
set_option maxHeartbeats 4000000 in
theorem k_keepsw_f {g : Gx} {h : HP} {mv mrc mmc mmk mdv mwl mwa mwp mth : Int} {mw : Int → Int} {a9 b9 : Int} {f0 : Int → Int} (hm : mO h mv mrc mmc mmk mdv mwl mwa mwp mth) (h202 : h 202 = some (oI 304 mw)) (ha : 0 ≤ a9 ∧ a9 ≤ 2) (hb : 0 ≤ b9 ∧ b9 ≤ 2) (hwv : RowV mw) (h216 : h 216 = some (oZ 64 f0)) (hP : ¬ RuleHolds 119 a9 b9 mw) : Ct g yX11_keeps (.code yX11_keeps cX11_keeps 6 (some .boolean)) 6 0 0 [vR 200, vI 119, vI a9, vI b9] h (RtZ (some (vI 0)) h (fun _ => True)) := by
  refine Ct.of (by decide) (Nat.le_of_ble_eq_true rfl) (fun x hg C F => ?_)
  subst hg
  show T x 0 [(0, vR 200), (1, vI 119), (2, vI a9), (3, vI b9)] [] h 0 0
  refine st_iconst C dX11_keeps_0 (by decide) ?_
  refine st_istore C dX11_keeps_1 (by decide) rfl ?_
  show T x 3 [(0, vR 200), (1, vI 119), (2, vI a9), (3, vI b9), (4, vI 1)] [] _ _ _
  refine st_iconst C dX11_keeps_3 (by decide) ?_
  refine st_istore C dX11_keeps_4 (by decide) rfl ?_
  show T x 6 [(0, vR 200), (1, vI 119), (2, vI a9), (3, vI b9), (4, vI 1), (5, vI 0)] [] _ _ _
  have loop_6 : ∀ (n_6 : Nat) (c1 : Int) (i : Int), (0 ≤ i) → (i ≤ 64) → (AllB (fun p => ¬ BrkAt 119 a9 b9 mw p) i c1) → (64 - i).toNat < n_6 → T x 6 [(0, vR 200), (1, vI 119), (2, vI a9), (3, vI b9), (4, vI c1), (5, vI i)] [] h 0 0 := by
    intro n_6
    induction n_6 with
    | zero => intro c1 i g1 g2 g3 hm_6; exact absurd hm_6 (Nat.not_lt_zero _)
    | succ n_6 ih_6 =>
      intro c1 i g1 g2 g3 hm_6
      have fc := allB_b g3
      refine st_iload C dX11_keeps_6 rfl ?_
      refine st_bipush C dX11_keeps_8 (by decide) (by decide) ?_
      refine st_icmp_ge (tgt := 33) C dX11_keeps_10 (by decide) (fun c_10 => ?_) (fun c_10 => ?_)
      · refine st_iconst C dX11_keeps_33 (by decide) ?_
        refine st_istore C dX11_keeps_34 (by decide) rfl ?_
        show T x 36 [(0, vR 200), (1, vI 119), (2, vI a9), (3, vI b9), (4, vI c1), (5, vI 1)] [] _ _ _
        have loop_36 : ∀ (n_36 : Nat) (c2 : Int) (k : Int) (f1 : Int → Int) (h1 : HP), (1 ≤ k) → (k ≤ 10) → (KI 119 a9 b9 mw k c2) → (h1 = hput h 216 (oZ 64 f1)) → (10 - k).toNat < n_36 → T x 36 [(0, vR 200), (1, vI 119), (2, vI a9), (3, vI b9), (4, vI c2), (5, vI k)] [] h1 0 0 := by
          intro n_36
          induction n_36 with
          | zero => intro c2 k f1 h1 g4 g5 g6 hh hm_36; exact absurd hm_36 (Nat.not_lt_zero _)
          | succ n_36 ih_36 =>
            intro c2 k f1 h1 g4 g5 g6 hh hm_36
            have fd := KI_b g6
            refine st_iload C dX11_keeps_36 rfl ?_
            refine st_bipush C dX11_keeps_38 (by decide) (by decide) ?_
            refine st_icmp_gt (tgt := 75) C dX11_keeps_40 (by decide) (fun c_40 => ?_) (fun c_40 => ?_)
            · refine st_iload C dX11_keeps_75 rfl ?_
              exact st_zreturn C F dX11_keeps_77 rfl (by omega) (rz_i (KI_2 g6 (by omega) hP) hh trivial) (by omega) (by omega)
            · refine st_iload C dX11_keeps_43 rfl ?_
              refine st_iload_n C 1 dX11_keeps_45 rfl rfl ?_
              refine st_bipush C dX11_keeps_46 (by decide) (by decide) ?_
              refine st_icmp_ne (tgt := 61) C dX11_keeps_48 (by decide) (fun c_48 => by omega) (fun c_48 => ?_)
              refine st_aload_n C 0 dX11_keeps_51 rfl rfl ?_
              refine st_iload_n C 2 dX11_keeps_52 rfl rfl ?_
              refine st_iload C dX11_keeps_53 rfl ?_
              by_cases b_55 : HangA mw a9 k
              · refine st_callV (st := [vI c2]) C dX11_keeps_55 [vI a9, vI k] (k_hangs_t (f0 := f1) (mw := mw) (l := a9) (A := k) (by rw [hh]; exact hput_o (by decide) hm) (by rw [hh]; exact hput_o (by decide) h202) (by rw [hh]; exact hput_s) ha b_55) (by rw [hh]; exact hput_o (by decide) hm) w_X11_102 rfl (by decide) (by decide) (by omega) (by omega) (Nat.le_of_ble_eq_true rfl) (ko_rz (fun f4 _ => ?_))
                show T x 58 [(0, vR 200), (1, vI 119), (2, vI a9), (3, vI b9), (4, vI c2), (5, vI k)] [vI 1, vI c2] _ _ _
                refine st_if_eq (tgt := 65) C dX11_keeps_58 (by decide) (fun c_58 => by omega) (fun c_58 => ?_)
                refine st_iconst C dX11_keeps_61 (by decide) ?_
                refine st_goto (tgt := 66) C dX11_keeps_62 (by decide) ?_
                refine st_iandB C dX11_keeps_66 (by omega) (by omega) ?_
                refine st_istore C dX11_keeps_67 (by decide) rfl ?_
                show T x 69 [(0, vR 200), (1, vI 119), (2, vI a9), (3, vI b9), (4, vI (c2 * 1)), (5, vI k)] [] _ _ _
                refine st_iinc C dX11_keeps_69 rfl (by decide) rfl ⟨(by omega), (by omega)⟩ ?_
                show T x 72 [(0, vR 200), (1, vI 119), (2, vI a9), (3, vI b9), (4, vI (c2 * 1)), (5, vI (k + 1))] [] _ _ _
                refine st_goto (tgt := 36) C dX11_keeps_72 (by decide) ?_
                exact ih_36 (c2 * 1) (k + 1) f4 (hput h1 216 (oZ 64 f4)) (by omega) (by omega) (by first | exact KI_t g6 (fun _ => by assumption) | exact KI_f rfl g4 (by omega) (by assumption)) (by rw [hh, hput_hput]) (by omega)
              · refine st_callV (st := [vI c2]) C dX11_keeps_55 [vI a9, vI k] (k_hangs_f (f0 := f1) (mw := mw) (l := a9) (A := k) (by rw [hh]; exact hput_o (by decide) hm) (by rw [hh]; exact hput_o (by decide) h202) (by rw [hh]; exact hput_s) ha b_55) (by rw [hh]; exact hput_o (by decide) hm) w_X11_102 rfl (by decide) (by decide) (by omega) (by omega) (Nat.le_of_ble_eq_true rfl) (ko_rz (fun f4 _ => ?_))
                show T x 58 [(0, vR 200), (1, vI 119), (2, vI a9), (3, vI b9), (4, vI c2), (5, vI k)] [vI 0, vI c2] _ _ _
                refine st_if_eq (tgt := 65) C dX11_keeps_58 (by decide) (fun c_58 => ?_) (fun c_58 => by omega)
                refine st_iconst C dX11_keeps_65 (by decide) ?_
                refine st_iandB C dX11_keeps_66 (by omega) (by omega) ?_
                rw [Int.mul_zero]
                refine st_istore C dX11_keeps_67 (by decide) rfl ?_
                show T x 69 [(0, vR 200), (1, vI 119), (2, vI a9), (3, vI b9), (4, vI 0), (5, vI k)] [] _ _ _
                refine st_iinc C dX11_keeps_69 rfl (by decide) rfl ⟨(by omega), (by omega)⟩ ?_
                show T x 72 [(0, vR 200), (1, vI 119), (2, vI a9), (3, vI b9), (4, vI 0), (5, vI (k + 1))] [] _ _ _
                refine st_goto (tgt := 36) C dX11_keeps_72 (by decide) ?_
                exact ih_36 0 (k + 1) f4 (hput h1 216 (oZ 64 f4)) (by omega) (by omega) (by first | exact KI_t g6 (fun _ => by assumption) | exact KI_f rfl g4 (by omega) (by assumption)) (by rw [hh, hput_hput]) (by omega)
        exact loop_36 _ c1 1 f0 h (by omega) (by omega) (KI_0 g3 (by omega)) ((hput_self h216).symm) (Nat.lt_succ_self _)
      · refine st_iload C dX11_keeps_13 rfl ?_
        refine st_aload_n C 0 dX11_keeps_15 rfl rfl ?_
        refine st_iload_n C 1 dX11_keeps_16 rfl rfl ?_
        refine st_iload_n C 2 dX11_keeps_17 rfl rfl ?_
        refine st_iload_n C 3 dX11_keeps_18 rfl rfl ?_
        refine st_iload C dX11_keeps_19 rfl ?_
        refine st_callV (st := [vI c1]) C dX11_keeps_21 [vI 119, vI a9, vI b9, vI i] (k_fitsw_t (mw := mw) (a9 := a9) (b9 := b9) (p9 := i) hm h202 ha hb hwv (by omega)) hm w_X11_98 rfl (by decide) (by decide) (by omega) (by omega) (Nat.le_of_ble_eq_true rfl) (ko_rt ?_)
        show T x 24 [(0, vR 200), (1, vI 119), (2, vI a9), (3, vI b9), (4, vI c1), (5, vI i)] [vI 1, vI c1] _ _ _
        refine st_iandB C dX11_keeps_24 (by omega) (by omega) ?_
        refine st_istore C dX11_keeps_25 (by decide) rfl ?_
        show T x 27 [(0, vR 200), (1, vI 119), (2, vI a9), (3, vI b9), (4, vI (c1 * 1)), (5, vI i)] [] _ _ _
        refine st_iinc C dX11_keeps_27 rfl (by decide) rfl ⟨(by omega), (by omega)⟩ ?_
        show T x 30 [(0, vR 200), (1, vI 119), (2, vI a9), (3, vI b9), (4, vI (c1 * 1)), (5, vI (i + 1))] [] _ _ _
        refine st_goto (tgt := 6) C dX11_keeps_30 (by decide) ?_
        exact ih_6 (c1 * 1) (i + 1) (by omega) (by omega) (by first | exact allB_t g3 (by first | exact brk_w | assumption) | exact allB_f g1 (by assumption)) (by omega)
  exact loop_6 _ 1 0 (by omega) (by omega) (allB_0) (Nat.lt_succ_self _)
theorem k_keeps_t {g : Gx} {h : HP} {mv mrc mmc mmk mdv mwl mwa mwp mth : Int} {mw : Int → Int} {a9 b9 : Int} {f0 : Int → Int} {k9 : Int} (hm : mO h mv mrc mmc mmk mdv mwl mwa mwp mth) (h202 : h 202 = some (oI 304 mw)) (ha : 0 ≤ a9 ∧ a9 ≤ 2) (hb : 0 ≤ b9 ∧ b9 ≤ 2) (hwv : RowV mw) (h216 : h 216 = some (oZ 64 f0)) (hk : k9 = 99 ∨ k9 = 120 ∨ k9 = 103 ∨ k9 = 119 ∨ k9 = 109) (hP : RuleHolds k9 a9 b9 mw) : Ct g yX11_keeps (.code yX11_keeps cX11_keeps 6 (some .boolean)) 6 0 0 [vR 200, vI k9, vI a9, vI b9] h (RtZ (some (vI 1)) h (fun _ => True)) := by
  have hh : ∀ (r1 : PR) (h1 : HP), Rt (some (vI 1)) h r1 h1 → RtZ (some (vI 1)) h (fun _ => True) r1 h1 := by
    rintro r1 h1 ⟨e1, e2⟩
    exact ⟨f0, e1, e2.trans (hput_self h216).symm, trivial⟩
  rcases hk with e | e | e | e | e <;> subst e
  · exact Ct.imp hh (k_keepsc_t hm h202 ha hb hwv hP)
  · exact Ct.imp hh (k_keepsx_t hm h202 ha hb hwv hP)
  · exact Ct.imp hh (k_keepsg_t hm h202 ha hb hwv hP)
  · exact k_keepsw_t hm h202 ha hb hwv h216 hP
  · exact Ct.imp hh (k_keepsm_t hm h202 ha hb hwv hP)
theorem k_keeps_f {g : Gx} {h : HP} {mv mrc mmc mmk mdv mwl mwa mwp mth : Int} {mw : Int → Int} {a9 b9 : Int} {f0 : Int → Int} {k9 : Int} (hm : mO h mv mrc mmc mmk mdv mwl mwa mwp mth) (h202 : h 202 = some (oI 304 mw)) (ha : 0 ≤ a9 ∧ a9 ≤ 2) (hb : 0 ≤ b9 ∧ b9 ≤ 2) (hwv : RowV mw) (h216 : h 216 = some (oZ 64 f0)) (hk : k9 = 99 ∨ k9 = 120 ∨ k9 = 103 ∨ k9 = 119 ∨ k9 = 109) (hP : ¬ RuleHolds k9 a9 b9 mw) : Ct g yX11_keeps (.code yX11_keeps cX11_keeps 6 (some .boolean)) 6 0 0 [vR 200, vI k9, vI a9, vI b9] h (RtZ (some (vI 0)) h (fun _ => True)) := by
  have hh : ∀ (r1 : PR) (h1 : HP), Rt (some (vI 0)) h r1 h1 → RtZ (some (vI 0)) h (fun _ => True) r1 h1 := by
    rintro r1 h1 ⟨e1, e2⟩
    exact ⟨f0, e1, e2.trans (hput_self h216).symm, trivial⟩
  rcases hk with e | e | e | e | e <;> subst e
  · exact Ct.imp hh (k_keepsc_f hm h202 ha hb hwv hP)
  · exact Ct.imp hh (k_keepsx_f hm h202 ha hb hwv hP)
  · exact Ct.imp hh (k_keepsg_f hm h202 ha hb hwv hP)
  · exact k_keepsw_f hm h202 ha hb hwv h216 hP
  · exact Ct.imp hh (k_keepsm_f hm h202 ha hb hwv hP)
/-- a look at the rules from the last to the first -/
def BKI (P : Int → Prop) (n k c : Int) : Prop := (c = -1 ∧ ∀ j, k < j → j < n → ¬ P j) ∨ (k < c ∧ c < n ∧ P c ∧ ∀ j, k < j → j < c → ¬ P j)
theorem BKI_0 {P : Int → Prop} {n : Int} : BKI P n (n - 1) (-1) := Or.inl ⟨rfl, fun j h1 h2 => absurd h2 (by omega)⟩
theorem BKI_t {P : Int → Prop} {n k c : Int} (h : BKI P n k c) (hk : k < n) (hp : P k) : BKI P n (k + -1) k := by
  refine Or.inr ⟨by omega, hk, hp, fun j h1 h2 => absurd h2 (by omega)⟩
theorem BKI_f {P : Int → Prop} {n k c : Int} (h : BKI P n k c) (hp : ¬ P k) : BKI P n (k + -1) c := by
  rcases h with ⟨h1, h2⟩ | ⟨h1, h2, h3, h4⟩
  · refine Or.inl ⟨h1, fun j j1 j2 => ?_⟩
    by_cases e : j = k
    · rw [e]; exact hp
    · exact h2 j (by omega) j2
  · refine Or.inr ⟨by omega, h2, h3, fun j j1 j2 => ?_⟩
    by_cases e : j = k
    · rw [e]; exact hp
    · exact h4 j (by omega) j2
theorem BKI_e {P : Int → Prop} {n k c r : Int} (h : BKI P n k c) (hk : k = -1) (hr : IsFirst P n r) : c = r := by
  subst hk
  rcases h with ⟨h1, h2⟩ | ⟨h1, h2, h3, h4⟩ <;> rcases hr with ⟨g1, g2, g3, g4⟩ | ⟨g1, g2⟩
  · exact absurd g3 (h2 r (by omega) g2)
  · omega
  · rcases Int.lt_trichotomy c r with q | q | q
    · exact absurd h3 (g4 c (by omega) q)
    · exact q
    · exact absurd g3 (h4 r (by omega) q)
  · exact absurd h3 (g2 c (by omega) h2)
theorem BKI_b {P : Int → Prop} {n k c : Int} (h : BKI P n k c) : -1 ≤ c ∨ k < c := by rcases h with ⟨h1, -⟩ | ⟨h1, -⟩ <;> omega
set_option maxRecDepth 20000 in
set_option maxHeartbeats 4000000 in
theorem k_mbroken {g : Gx} {h : HP} {mv mrc mmc mmk mdv mwl mwa mwp mth : Int} {mw f0 kk ka kb : Int → Int} {r9 : Int} (hm : mO h mv mrc mmc mmk mdv mwl mwa mwp mth) (h202 : h 202 = some (oI 304 mw)) (h216 : h 216 = some (oZ 64 f0)) (h203 : h 203 = some (oI 6 kk)) (h204 : h 204 = some (oI 6 ka)) (h205 : h 205 = some (oI 6 kb)) (hrc : 0 ≤ mrc ∧ mrc ≤ 6) (hwv : RowV mw) (hru : ∀ i, 0 ≤ i → i < mrc → (0 ≤ ka i ∧ ka i ≤ 2) ∧ (0 ≤ kb i ∧ kb i ≤ 2) ∧ (kk i = 99 ∨ kk i = 120 ∨ kk i = 103 ∨ kk i = 119 ∨ kk i = 109)) (hF : IsFirst (fun i => ¬ RuleHolds (kk i) (ka i) (kb i) mw) mrc r9) : Ct g yX11_broken (.code yX11_broken cX11_broken 3 (some .int)) 7 0 0 [vR 200] h (RtZ (some (vI r9)) h (fun _ => True)) := by
  refine Ct.of (by decide) (Nat.le_of_ble_eq_true rfl) (fun x hg C F => ?_)
  subst hg
  show T x 0 [(0, vR 200)] [] h 0 0
  refine st_iconst C dX11_broken_0 (by decide) ?_
  refine st_istore_n C 1 dX11_broken_1 rfl (by decide) rfl ?_
  show T x 2 [(0, vR 200), (1, vI (-1))] [] _ _ _
  refine st_aload_n C 0 dX11_broken_2 rfl rfl ?_
  refine st_getf C dX11_broken_3 fl_X11_122 hm rfl ?_
  refine st_iconst C dX11_broken_6 (by decide) ?_
  refine st_isub C dX11_broken_7 ⟨(by omega), (by omega)⟩ ?_
  refine st_istore_n C 2 dX11_broken_8 rfl (by decide) rfl ?_
  show T x 9 [(0, vR 200), (1, vI (-1)), (2, vI (mrc - 1))] [] _ _ _
  have loop_9 : ∀ (n_9 : Nat) (c1 : Int) (k1 : Int) (f1 : Int → Int) (h1 : HP), (-1 ≤ k1) → (k1 < mrc) → (BKI (fun i => ¬ RuleHolds (kk i) (ka i) (kb i) mw) mrc k1 c1) → (h1 = hput h 216 (oZ 64 f1)) → (k1 + 1).toNat < n_9 → T x 9 [(0, vR 200), (1, vI c1), (2, vI k1)] [] h1 0 0 := by
    intro n_9
    induction n_9 with
    | zero => intro c1 k1 f1 h1 g1 g2 g3 hh hm_9; exact absurd hm_9 (Nat.not_lt_zero _)
    | succ n_9 ih_9 =>
      intro c1 k1 f1 h1 g1 g2 g3 hh hm_9
      refine st_iload_n C 2 dX11_broken_9 rfl rfl ?_
      refine st_if_lt (tgt := 50) C dX11_broken_10 (by decide) (fun c_10 => ?_) (fun c_10 => ?_)
      · refine st_iload_n C 1 dX11_broken_50 rfl rfl ?_
        exact st_ireturn C F dX11_broken_51 rfl (rz_i (BKI_e g3 (by omega) hF) hh trivial) (by omega) (by omega)
      · refine st_aload_n C 0 dX11_broken_13 rfl rfl ?_
        refine st_aload_n C 0 dX11_broken_14 rfl rfl ?_
        refine st_getf C dX11_broken_15 fl_X11_16 (by rw [hh]; exact hput_o (by decide) hm) rfl ?_
        refine st_iload_n C 2 dX11_broken_18 rfl rfl ?_
        refine st_iald C dX11_broken_19 (by rw [hh]; exact hput_o (by decide) h203) (by omega) (by omega) ?_
        refine st_aload_n C 0 dX11_broken_20 rfl rfl ?_
        refine st_getf C dX11_broken_21 fl_X11_19 (by rw [hh]; exact hput_o (by decide) hm) rfl ?_
        refine st_iload_n C 2 dX11_broken_24 rfl rfl ?_
        refine st_iald C dX11_broken_25 (by rw [hh]; exact hput_o (by decide) h204) (by omega) (by omega) ?_
        refine st_aload_n C 0 dX11_broken_26 rfl rfl ?_
        refine st_getf C dX11_broken_27 fl_X11_22 (by rw [hh]; exact hput_o (by decide) hm) rfl ?_
        refine st_iload_n C 2 dX11_broken_30 rfl rfl ?_
        refine st_iald C dX11_broken_31 (by rw [hh]; exact hput_o (by decide) h205) (by omega) (by omega) ?_
        by_cases b_32 : RuleHolds (kk k1) (ka k1) (kb k1) mw
        · refine st_callV (st := []) C dX11_broken_32 [vI (kk k1), vI (ka k1), vI (kb k1)] (k_keeps_t (f0 := f1) (mw := mw) (a9 := (ka k1)) (b9 := (kb k1)) (k9 := (kk k1)) (by rw [hh]; exact hput_o (by decide) hm) (by rw [hh]; exact hput_o (by decide) h202) (hru k1 (by omega) (by omega)).1 (hru k1 (by omega) (by omega)).2.1 hwv (by rw [hh]; exact hput_s) (hru k1 (by omega) (by omega)).2.2 b_32) (by rw [hh]; exact hput_o (by decide) hm) w_X11_119 rfl (by decide) (by decide) (by omega) (by omega) (Nat.le_of_ble_eq_true rfl) (ko_rz (fun f4 _ => ?_))
          show T x 35 [(0, vR 200), (1, vI c1), (2, vI k1)] [vI 1] _ _ _
          refine st_if_eq (tgt := 42) C dX11_broken_35 (by decide) (fun c_35 => by omega) (fun c_35 => ?_)
          refine st_iload_n C 1 dX11_broken_38 rfl rfl ?_
          refine st_goto (tgt := 43) C dX11_broken_39 (by decide) ?_
          refine st_istore_n C 1 dX11_broken_43 rfl (by decide) rfl ?_
          show T x 44 [(0, vR 200), (1, vI c1), (2, vI k1)] [] _ _ _
          refine st_iinc C dX11_broken_44 rfl (by decide) rfl ⟨(by omega), (by omega)⟩ ?_
          show T x 47 [(0, vR 200), (1, vI c1), (2, vI (k1 + (-1)))] [] _ _ _
          refine st_goto (tgt := 9) C dX11_broken_47 (by decide) ?_
          exact ih_9 c1 (k1 + (-1)) f4 (hput h1 216 (oZ 64 f4)) (by omega) (by omega) (by first | exact BKI_f g3 (fun z => z (by assumption)) | exact BKI_t g3 (by omega) (by assumption)) (by rw [hh, hput_hput]) (by omega)
        · refine st_callV (st := []) C dX11_broken_32 [vI (kk k1), vI (ka k1), vI (kb k1)] (k_keeps_f (f0 := f1) (mw := mw) (a9 := (ka k1)) (b9 := (kb k1)) (k9 := (kk k1)) (by rw [hh]; exact hput_o (by decide) hm) (by rw [hh]; exact hput_o (by decide) h202) (hru k1 (by omega) (by omega)).1 (hru k1 (by omega) (by omega)).2.1 hwv (by rw [hh]; exact hput_s) (hru k1 (by omega) (by omega)).2.2 b_32) (by rw [hh]; exact hput_o (by decide) hm) w_X11_119 rfl (by decide) (by decide) (by omega) (by omega) (Nat.le_of_ble_eq_true rfl) (ko_rz (fun f4 _ => ?_))
          show T x 35 [(0, vR 200), (1, vI c1), (2, vI k1)] [vI 0] _ _ _
          refine st_if_eq (tgt := 42) C dX11_broken_35 (by decide) (fun c_35 => ?_) (fun c_35 => by omega)
          refine st_iload_n C 2 dX11_broken_42 rfl rfl ?_
          refine st_istore_n C 1 dX11_broken_43 rfl (by decide) rfl ?_
          show T x 44 [(0, vR 200), (1, vI k1), (2, vI k1)] [] _ _ _
          refine st_iinc C dX11_broken_44 rfl (by decide) rfl ⟨(by omega), (by omega)⟩ ?_
          show T x 47 [(0, vR 200), (1, vI k1), (2, vI (k1 + (-1)))] [] _ _ _
          refine st_goto (tgt := 9) C dX11_broken_47 (by decide) ?_
          exact ih_9 k1 (k1 + (-1)) f4 (hput h1 216 (oZ 64 f4)) (by omega) (by omega) (by first | exact BKI_f g3 (fun z => z (by assumption)) | exact BKI_t g3 (by omega) (by assumption)) (by rw [hh, hput_hput]) (by omega)
  exact loop_9 _ (-1) (mrc - 1) f0 h (by omega) (by omega) (BKI_0) ((hput_self h216).symm) (Nat.lt_succ_self _)
