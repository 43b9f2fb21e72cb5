/-! the reference's look at what hangs together -/
theorem mb_bes {p w : Int} (hw : 0 ≤ w ∧ w ≤ 3) : ∃ d, 0 ≤ d ∧ d ≤ 3 ∧ besid p d = mbes p w := by
  have hw4 : w = 0 ∨ w = 1 ∨ w = 2 ∨ w = 3 := by omega
  rcases hw4 with e | e | e | e <;> subst e
  · exact ⟨0, by omega, by omega, by unfold besid mbes; simp⟩
  · exact ⟨2, by omega, by omega, by unfold besid mbes; simp⟩
  · exact ⟨1, by omega, by omega, by unfold besid mbes; simp⟩
  · exact ⟨3, by omega, by omega, by unfold besid mbes; simp⟩
theorem bes_mb {p d : Int} (hd : 0 ≤ d ∧ d ≤ 3) : ∃ w, 0 ≤ w ∧ w ≤ 3 ∧ mbes p w = besid p d := by
  have hd4 : d = 0 ∨ d = 1 ∨ d = 2 ∨ d = 3 := by omega
  rcases hd4 with e | e | e | e <;> subst e
  · exact ⟨0, by omega, by omega, by unfold besid mbes; simp⟩
  · exact ⟨2, by omega, by omega, by unfold besid mbes; simp⟩
  · exact ⟨1, by omega, by omega, by unfold besid mbes; simp⟩
  · exact ⟨3, by omega, by omega, by unfold besid mbes; simp⟩
def MStp (mw : Int → Int) (l A p n : Int) : Prop := ∃ w, 0 ≤ w ∧ w ≤ 3 ∧ mbes p w = n ∧ 0 ≤ n ∧ mw (64 * l + n) = A
/-- what is seen out of what was seen at first: all that must be, at most -/
def SI (f0 mw : Int → Int) (l A : Int) (f : Int → Int) : Prop := (∀ p, 0 ≤ p → p ≤ 63 → f p = 0 ∨ f p = 1) ∧ (∀ p, 0 ≤ p → p ≤ 63 → f0 p = 1 → f p = 1) ∧
  ∀ R : Int → Prop, (∀ p, 0 ≤ p → p ≤ 63 → f0 p = 1 → R p) → (∀ p n, 0 ≤ p → p ≤ 63 → R p → MStp mw l A p n → R n) → ∀ p, 0 ≤ p → p ≤ 63 → f p = 1 → R p
def SIcl (f mw : Int → Int) (l A k : Int) : Prop := ∀ j, 0 ≤ j → j < k → f (j / 4) = 1 → 0 ≤ mbes (j / 4) (j % 4) → mw (64 * l + mbes (j / 4) (j % 4)) = A → f (mbes (j / 4) (j % 4)) = 1
theorem SI_0 {f0 mw : Int → Int} {l A : Int} (h : ∀ p, 0 ≤ p → p ≤ 63 → f0 p = 0 ∨ f0 p = 1) : SI f0 mw l A f0 := ⟨h, fun _ _ _ z => z, fun _ h1 _ => h1⟩
theorem SI_add {f0 mw f : Int → Int} {l A p w : Int} (h : SI f0 mw l A f) (hp : 0 ≤ p ∧ p ≤ 63) (hw : 0 ≤ w ∧ w ≤ 3) (c1 : f p = 1) (c2 : 0 ≤ mbes p w) (c3 : mw (64 * l + mbes p w) = A) : SI f0 mw l A (fput f (mbes p w) 1) := by
  refine ⟨fun q q1 q2 => ?_, fun q q1 q2 q3 => ?_, fun R h1 h2 q q1 q2 q3 => ?_⟩
  · unfold fput; split
    · exact Or.inr rfl
    · exact h.1 q q1 q2
  · unfold fput; split
    · rfl
    · exact h.2.1 q q1 q2 q3
  · unfold fput at q3
    by_cases e : q = mbes p w
    · rw [e]; exact h2 p _ hp.1 hp.2 (h.2.2 R h1 h2 p hp.1 hp.2 c1) ⟨w, hw.1, hw.2, rfl, c2, c3⟩
    · rw [if_neg e] at q3; exact h.2.2 R h1 h2 q q1 q2 q3
theorem cnt_z {f : Int → Int} {n : Int} (h1 : 0 ≤ n) (h2 : n ≤ 63) (h3 : f n = 0) : cnt (fun p => fput f n 1 p = 0) 64 < cnt (fun p => f p = 0) 64 := by
  by_cases q : cnt (fun p => fput f n 1 p = 0) 64 < cnt (fun p => f p = 0) 64
  · exact q
  · have := cnt_eqs (P := fun p => f p = 0) (Q := fun p => fput f n 1 p = 0) (n := 64) (fun i i1 i2 hi => by
      have hi2 : fput f n 1 i = 0 := hi
      unfold fput at hi2
      by_cases e : i = n
      · rw [if_pos e] at hi2; omega
      · rw [if_neg e] at hi2; exact hi2) (by omega) n h1 (by omega) h3
    have h4 : fput f n 1 n = 0 := this
    rw [fput_s] at h4; omega
/-- in one round: nothing was added so far, or something -/
def InS (fr f mw : Int → Int) (l A m k : Int) : Prop := (m = 0 ∧ f = fr ∧ SIcl f mw l A k) ∨ (m = 1 ∧ cnt (fun p => f p = 0) 64 < cnt (fun p => fr p = 0) 64)
theorem InS_0 {fr mw : Int → Int} {l A : Int} : InS fr fr mw l A 0 0 := Or.inl ⟨rfl, rfl, fun j h1 h2 => absurd h2 (by omega)⟩
theorem InS_t {fr f mw : Int → Int} {l A m k n k' : Int} (h : InS fr f mw l A m k) (h1 : 0 ≤ n) (h2 : n ≤ 63) (h3 : f n = 0) : InS fr (fput f n 1) mw l A 1 k' := by
  have h4 := cnt_z h1 h2 h3
  rcases h with ⟨-, e, -⟩ | ⟨-, h5⟩
  · subst e; exact Or.inr ⟨rfl, h4⟩
  · exact Or.inr ⟨rfl, Int.lt_trans h4 h5⟩
theorem InS_f {fr f mw : Int → Int} {l A m k : Int} (h : InS fr f mw l A m k) (hk : f (k / 4) = 1 → 0 ≤ mbes (k / 4) (k % 4) → mw (64 * l + mbes (k / 4) (k % 4)) = A → f (mbes (k / 4) (k % 4)) = 1) : InS fr f mw l A m (k + 1) := by
  rcases h with ⟨e1, e2, h5⟩ | h5
  · refine Or.inl ⟨e1, e2, fun j h1 h2 => ?_⟩
    by_cases e : j = k
    · rw [e]; exact hk
    · exact h5 j h1 (by omega)
  · exact Or.inr h5
theorem InS_m {fr f mw : Int → Int} {l A m k : Int} (h : InS fr f mw l A m k) : cnt (fun p => f p = 0) 64 + m ≤ cnt (fun p => fr p = 0) 64 ∧ 0 ≤ m ∧ m ≤ 1 := by
  rcases h with ⟨e1, e2, h5⟩ | ⟨e1, h5⟩
  · subst e2; omega
  · omega
theorem InS_e {fr f mw : Int → Int} {l A m k : Int} (h : InS fr f mw l A m k) (hk : k = 256) : m = 1 ∨ (m = 0 ∧ SIcl f mw l A 256) := by
  subst hk
  rcases h with ⟨e1, e2, h5⟩ | ⟨e1, h5⟩
  · exact Or.inr ⟨e1, h5⟩
  · exact Or.inl e1
/-- the answer; the row of what is seen anyhow, but for what P says of it -/
def RtZ (v : Option PV) (h : HP) (P : (Int → Int) → Prop) : PR → HP → Prop := fun r h' => ∃ f : Int → Int, r = .inl v ∧ h' = hput h 216 (oZ 64 f) ∧ P f
section KOZ
variable {x : Cx} {pc : Nat} {ls : List (Nat × PV)} {st : List PV} {h h0 : HP} {cl sl : Nat}
theorem ko_rz {v : PV} {P : (Int → Int) → Prop} (k : ∀ f : Int → Int, P f → T x (pc + 3) ls (v :: st) (hput h0 216 (oZ 64 f)) cl sl) : ∀ r h', RtZ (some v) h0 P r h' → Ko x pc ls st cl sl r h' := by
  rintro r h' ⟨f, rfl, rfl, hp⟩
  exact k f hp
theorem ko_rzn {P : (Int → Int) → Prop} (k : ∀ f : Int → Int, P f → T x (pc + 3) ls st (hput h0 216 (oZ 64 f)) cl sl) : ∀ r h', RtZ none h0 P r h' → Ko x pc ls st cl sl r h' := by
  rintro r h' ⟨f, rfl, rfl, hp⟩
  exact k f hp
end KOZ
theorem rz_i {h h0 : HP} {a b : Int} {P : (Int → Int) → Prop} {f : Int → Int} (e : a = b) (eh : h = hput h0 216 (oZ 64 f)) (hp : P f) : RtZ (some (vI b)) h0 P (.inl (some (vI a))) h := by
  subst e; exact ⟨f, rfl, eh, hp⟩
theorem SIcl_stp {f mw : Int → Int} {l A p n : Int} (h : SIcl f mw l A 256) (hp : 0 ≤ p ∧ p ≤ 63) (c : f p = 1) (hs : MStp mw l A p n) : f n = 1 := by
  obtain ⟨w, w1, w2, w3, w4, w5⟩ := hs
  have e1 : (4 * p + w) / 4 = p := by omega
  have e2 : (4 * p + w) % 4 = w := by omega
  have := h (4 * p + w) (by omega) (by omega)
  rw [e1, e2, w3] at this
  exact this c w4 w5
/-- the parts found so far -/
def HI (mw : Int → Int) (l A : Int) (f : Int → Int) (c i : Int) : Prop := (∀ p, 0 ≤ p → p ≤ 63 → f p = 0 ∨ f p = 1) ∧ SIcl f mw l A 256 ∧ (∀ j, 0 ≤ j → j < i → mw (64 * l + j) = A → f j = 1) ∧ (0 ≤ c ∧ c ≤ i) ∧
  ((c = 0 ∧ ∀ p, 0 ≤ p → p ≤ 63 → f p = 0) ∨ (c = 1 ∧ ∃ s, 0 ≤ s ∧ s ≤ 63 ∧ f s = 1 ∧ mw (64 * l + s) = A ∧ ∀ p, 0 ≤ p → p ≤ 63 → f p = 1 → Reach (LikeJ mw l) s p) ∨ (2 ≤ c ∧ ¬ HangA mw l A))
theorem HI_0 {mw f : Int → Int} {l A : Int} (h : ∀ p, 0 ≤ p → p ≤ 63 → f p = 0) : HI mw l A f 0 0 := by
  refine ⟨fun p p1 p2 => Or.inl (h p p1 p2), fun j h1 h2 h3 => ?_, fun j h1 h2 => absurd h2 (by omega), by omega, Or.inl ⟨rfl, h⟩⟩
  have := h (j / 4) (by omega) (by omega); omega
theorem HI_f {mw f : Int → Int} {l A c i : Int} (h : HI mw l A f c i) (hi : mw (64 * l + i) = A → f i = 1) : HI mw l A f c (i + 1) := by
  obtain ⟨h1, h2, h3, h4, h5⟩ := h
  refine ⟨h1, h2, fun j j1 j2 => ?_, by omega, h5⟩
  by_cases e : j = i
  · rw [e]; exact hi
  · exact h3 j j1 (by omega)
theorem HI_t {mw f f' : Int → Int} {l A c i : Int} (hi : 0 ≤ i ∧ i ≤ 63) (h : HI mw l A f c i) (c1 : f i = 0) (c2 : mw (64 * l + i) = A) (hs : SI (fput f i 1) mw l A f') (hc : SIcl f' mw l A 256) : HI mw l A f' (c + 1) (i + 1) := by
  obtain ⟨h1, h2, h3, h4, h5⟩ := h
  have fi : f' i = 1 := hs.2.1 i hi.1 hi.2 fput_s
  have fo : ∀ p, 0 ≤ p → p ≤ 63 → f p = 1 → f' p = 1 := fun p p1 p2 p3 => hs.2.1 p p1 p2 (by unfold fput; split; rfl; exact p3)
  refine ⟨hs.1, hc, fun j j1 j2 j3 => ?_, by omega, ?_⟩
  · by_cases e : j = i
    · rw [e]; exact fi
    · exact fo j j1 (by omega) (h3 j j1 (by omega) j3)
  · rcases h5 with ⟨g1, g2⟩ | ⟨g1, s, s1, s2, s3, s4, s5⟩ | ⟨g1, g2⟩
    · refine Or.inr (Or.inl ⟨by omega, i, hi.1, hi.2, fi, c2, hs.2.2 (fun p => Reach (LikeJ mw l) i p) (fun p p1 p2 p3 => ?_) (fun p n p1 p2 p3 p4 => ?_)⟩)
      · by_cases e : p = i
        · rw [e]; exact reach_refl
        · rw [fput_o e] at p3; have := g2 p p1 p2; omega
      · obtain ⟨w, w1, w2, w3, w4, w5⟩ := p4
        obtain ⟨d, d1, d2, d3⟩ := mb_bes (p := p) ⟨w1, w2⟩
        refine reach_trans p3 (reach_adj ⟨d, d1, d2, d3.trans w3, by omega, ?_⟩)
        show mw (64 * l + p) = mw (64 * l + n)
        rw [w5, like_reach hi p p3, c2]
    · refine Or.inr (Or.inr ⟨by omega, fun hH => ?_⟩)
      have hr := hH s i s1 s2 hi.1 hi.2 s4 c2
      have := reach_ind (J := LikeJ mw l) (R := fun q => f q = 1 ∧ mw (64 * l + q) = A) ⟨s1, s2⟩ ⟨s3, s4⟩ (fun p q hp hR hA => by
        obtain ⟨d, d1, d2, d3, d4, d5⟩ := hA
        have d6 : mw (64 * l + p) = mw (64 * l + q) := d5
        obtain ⟨w, w1, w2, w3⟩ := bes_mb (p := p) ⟨d1, d2⟩
        have hq : 0 ≤ q := by have := besid_in (d := d) hp; omega
        have hA2 : mw (64 * l + q) = A := d6.symm.trans hR.2
        exact ⟨SIcl_stp h2 hp hR.1 ⟨w, w1, w2, w3.trans d3, hq, hA2⟩, hA2⟩) i hr
      have := this.1; omega
    · exact Or.inr (Or.inr ⟨by omega, g2⟩)
theorem HI_e {mw f : Int → Int} {l A c i : Int} (h : HI mw l A f c i) (hi : i = 64) : c ≤ 1 ↔ HangA mw l A := by
  subst hi
  obtain ⟨h1, h2, h3, h4, h5⟩ := h
  rcases h5 with ⟨g1, g2⟩ | ⟨g1, s, s1, s2, s3, s4, s5⟩ | ⟨g1, g2⟩
  · refine ⟨fun _ p q p1 p2 q1 q2 hp hq => ?_, fun _ => by omega⟩
    have a1 := g2 p p1 p2
    have a2 := h3 p p1 (by omega) hp
    omega
  · refine ⟨fun _ p q p1 p2 q1 q2 hp hq => ?_, fun _ => by omega⟩
    exact reach_trans (reach_symm (fun a b z => Eq.symm z) ⟨s1, s2⟩ (s5 p p1 p2 (h3 p p1 (by omega) hp))) (s5 q q1 q2 (h3 q q1 (by omega) hq))
  · exact ⟨fun z => absurd z (by omega), fun z => absurd z g2⟩

set_option maxRecDepth 20000 in
set_option maxHeartbeats 4000000 in
theorem k_see {g : Gx} {h : HP} {mv mrc mmc mmk mdv mwl mwa mwp mth : Int} {mw f0 : Int → Int} {l A : Int} (hm : mO h mv mrc mmc mmk mdv mwl mwa mwp mth) (h202 : h 202 = some (oI 304 mw)) (h216 : h 216 = some (oZ 64 f0)) (hl : 0 ≤ l ∧ l ≤ 2) (hf0 : ∀ p, 0 ≤ p → p ≤ 63 → f0 p = 0 ∨ f0 p = 1) : Ct g yX11_see (.code yX11_see cX11_see 6 none) 3 0 0 [vR 200, vI l, vI A] h (RtZ none h (fun f => SI f0 mw l A f ∧ SIcl f mw l A 256)) := by
  refine Ct.of (by decide) (Nat.le_of_ble_eq_true rfl) (fun x hg C F => ?_)
  subst hg
  show T x 0 [(0, vR 200), (1, vI l), (2, vI A)] [] h 0 0
  refine st_iconst C dX11_see_0 (by decide) ?_
  refine st_istore_n C 3 dX11_see_1 rfl (by decide) rfl ?_
  show T x 2 [(0, vR 200), (1, vI l), (2, vI A), (3, vI 1)] [] _ _ _
  have loop_2 : ∀ (n_2 : Nat) (m1 : Int) (f1 : Int → Int) (h1 : HP), (SI f0 mw l A f1) → (m1 = 1 ∨ (m1 = 0 ∧ SIcl f1 mw l A 256)) → (h1 = hput h 216 (oZ 64 f1)) → (cnt (fun p => f1 p = 0) 64 + m1).toNat < n_2 → T x 2 [(0, vR 200), (1, vI l), (2, vI A), (3, vI m1)] [] h1 0 0 := by
    intro n_2
    induction n_2 with
    | zero => intro m1 f1 h1 g1 g2 hh hm_2; exact absurd hm_2 (Nat.not_lt_zero _)
    | succ n_2 ih_2 =>
      intro m1 f1 h1 g1 g2 hh hm_2
      have g3 : m1 ≠ 0 → m1 = 1 := by rcases g2 with z | z <;> omega
      have z8 := cnt_in (fun p => f1 p = 0) (i := 64) (by omega)
      refine st_iload_n C 3 dX11_see_2 rfl rfl ?_
      refine st_if_eq (tgt := 98) C dX11_see_3 (by decide) (fun c_3 => ?_) (fun c_3 => ?_)
      · exact st_return C F dX11_see_98 rfl ⟨f1, rfl, hh, g1, by rcases g2 with z | z; exact absurd z (by omega); exact z.2⟩ (by omega) (by omega)
      · refine st_iconst C dX11_see_6 (by decide) ?_
        refine st_istore_n C 3 dX11_see_7 rfl (by decide) rfl ?_
        show T x 8 [(0, vR 200), (1, vI l), (2, vI A), (3, vI 0)] [] _ _ _
        refine st_iconst C dX11_see_8 (by decide) ?_
        refine st_istore C dX11_see_9 (by decide) rfl ?_
        show T x 11 [(0, vR 200), (1, vI l), (2, vI A), (3, vI 0), (4, vI 0)] [] _ _ _
        have loop_11 : ∀ (n_11 : Nat) (m2 : Int) (i : Int) (f2 : Int → Int) (h2 : HP), (0 ≤ i) → (i ≤ 256) → (SI f0 mw l A f2) → (InS f1 f2 mw l A m2 i) → (h2 = hput h 216 (oZ 64 f2)) → (256 - i).toNat < n_11 → T x 11 [(0, vR 200), (1, vI l), (2, vI A), (3, vI m2), (4, vI i)] [] h2 0 0 := by
          intro n_11
          induction n_11 with
          | zero => intro m2 i f2 h2 g4 g5 g6 g7 hh2 hm_11; exact absurd hm_11 (Nat.not_lt_zero _)
          | succ n_11 ih_11 =>
            intro m2 i f2 h2 g4 g5 g6 g7 hh2 hm_11
            have fb := fun z9 : i < 256 => mbes_in (p := i / 4) (w := i % 4) (by omega)
            have z0 := g6.1
            have z1 : i < 256 → 0 ≤ mbes (i / 4) (i % 4) → f2 (mbes (i / 4) (i % 4)) = 0 ∨ f2 (mbes (i / 4) (i % 4)) = 1 := fun z9 z => z0 _ z (by have := fb z9; omega)
            have z2 : i < 256 → f2 (i / 4) = 0 ∨ f2 (i / 4) = 1 := fun z9 => z0 _ (by omega) (by omega)
            refine st_iload C dX11_see_11 rfl ?_
            refine st_sipush C dX11_see_13 (by decide) (by decide) ?_
            refine st_icmp_ge (tgt := 95) C dX11_see_16 (by decide) (fun c_16 => ?_) (fun c_16 => ?_)
            · refine st_goto (tgt := 2) C dX11_see_95 (by decide) ?_
              refine st_sub [0, 1, 2, 3] rfl ?_
              exact ih_2 m2 f2 h2 (g6) (InS_e g7 (by omega)) (hh2) (by have z1 := InS_m g7; have z2 := cnt_in (fun p => f2 p = 0) (i := 64) (by omega); have z3 := g3 (by assumption); omega)
            · refine st_aload_n C 0 dX11_see_19 rfl rfl ?_
              refine st_getf C dX11_see_20 fl_X11_56 (by rw [hh2]; exact hput_o (by decide) hm) rfl ?_
              refine st_iload C dX11_see_23 rfl ?_
              refine st_iconst C dX11_see_25 (by decide) ?_
              refine st_idiv C dX11_see_26 (by omega) (by omega) ?_
              refine st_zald C dX11_see_27 (by rw [hh2]; exact hput_s) (by omega) (by omega) ?_
              refine st_if_eq (tgt := 45) C dX11_see_28 (by decide) (fun c_28 => ?_) (fun c_28 => ?_)
              · refine st_iconst C dX11_see_45 (by decide) ?_
                refine st_istore C dX11_see_46 (by decide) rfl ?_
                show T x 48 [(0, vR 200), (1, vI l), (2, vI A), (3, vI m2), (4, vI i), (5, vI (-1))] [] _ _ _
                refine st_iload C dX11_see_48 rfl ?_
                refine st_if_lt (tgt := 89) C dX11_see_50 (by decide) (fun c_50 => ?_) (fun c_50 => by omega)
                refine st_iinc C dX11_see_89 rfl (by decide) rfl ⟨(by omega), (by omega)⟩ ?_
                show T x 92 [(0, vR 200), (1, vI l), (2, vI A), (3, vI m2), (4, vI (i + 1)), (5, vI (-1))] [] _ _ _
                refine st_goto (tgt := 11) C dX11_see_92 (by decide) ?_
                refine st_sub [0, 1, 2, 3, 4] rfl ?_
                exact ih_11 m2 (i + 1) f2 h2 (by omega) (by omega) (by first | exact g6 | exact SI_add g6 (by omega) (by omega) (by omega) (by omega) (by assumption)) (by first | exact InS_f g7 (fun z4 z5 z6 => by omega) | exact InS_t g7 (by omega) (by omega) (by omega)) (by first | exact hh2 | rw [hh2, hput_hput]) (by omega)
              · refine st_iload C dX11_see_31 rfl ?_
                refine st_iconst C dX11_see_33 (by decide) ?_
                refine st_idiv C dX11_see_34 (by omega) (by omega) ?_
                refine st_iload C dX11_see_35 rfl ?_
                refine st_iconst C dX11_see_37 (by decide) ?_
                refine st_irem C dX11_see_38 (by omega) (by omega) ?_
                refine st_callS (st := []) C dX11_see_39 [vI (i / 4), vI (i % 4)] (k_mbes (p := (i / 4)) (w := (i % 4)) (by omega) (by omega)) w_X11_79 rfl (by decide) (by decide) (by omega) (by omega) (Nat.le_of_ble_eq_true rfl) (ko_rt ?_)
                show T x 42 [(0, vR 200), (1, vI l), (2, vI A), (3, vI m2), (4, vI i)] [vI (mbes (i / 4) (i % 4))] _ _ _
                refine st_goto (tgt := 46) C dX11_see_42 (by decide) ?_
                refine st_istore C dX11_see_46 (by decide) rfl ?_
                show T x 48 [(0, vR 200), (1, vI l), (2, vI A), (3, vI m2), (4, vI i), (5, vI (mbes (i / 4) (i % 4)))] [] _ _ _
                refine st_iload C dX11_see_48 rfl ?_
                refine st_if_lt (tgt := 89) C dX11_see_50 (by decide) (fun c_50 => ?_) (fun c_50 => ?_)
                · refine st_iinc C dX11_see_89 rfl (by decide) rfl ⟨(by omega), (by omega)⟩ ?_
                  show T x 92 [(0, vR 200), (1, vI l), (2, vI A), (3, vI m2), (4, vI (i + 1)), (5, vI (mbes (i / 4) (i % 4)))] [] _ _ _
                  refine st_goto (tgt := 11) C dX11_see_92 (by decide) ?_
                  refine st_sub [0, 1, 2, 3, 4] rfl ?_
                  exact ih_11 m2 (i + 1) f2 h2 (by omega) (by omega) (by first | exact g6 | exact SI_add g6 (by omega) (by omega) (by omega) (by omega) (by assumption)) (by first | exact InS_f g7 (fun z4 z5 z6 => by omega) | exact InS_t g7 (by omega) (by omega) (by omega)) (by first | exact hh2 | rw [hh2, hput_hput]) (by omega)
                · refine st_aload_n C 0 dX11_see_53 rfl rfl ?_
                  refine st_getf C dX11_see_54 fl_X11_56 (by rw [hh2]; exact hput_o (by decide) hm) rfl ?_
                  refine st_iload C dX11_see_57 rfl ?_
                  refine st_zald C dX11_see_59 (by rw [hh2]; exact hput_s) (by omega) (by omega) ?_
                  refine st_if_ne (tgt := 89) C dX11_see_60 (by decide) (fun c_60 => ?_) (fun c_60 => ?_)
                  · refine st_iinc C dX11_see_89 rfl (by decide) rfl ⟨(by omega), (by omega)⟩ ?_
                    show T x 92 [(0, vR 200), (1, vI l), (2, vI A), (3, vI m2), (4, vI (i + 1)), (5, vI (mbes (i / 4) (i % 4)))] [] _ _ _
                    refine st_goto (tgt := 11) C dX11_see_92 (by decide) ?_
                    refine st_sub [0, 1, 2, 3, 4] rfl ?_
                    exact ih_11 m2 (i + 1) f2 h2 (by omega) (by omega) (by first | exact g6 | exact SI_add g6 (by omega) (by omega) (by omega) (by omega) (by assumption)) (by first | exact InS_f g7 (fun z4 z5 z6 => by omega) | exact InS_t g7 (by omega) (by omega) (by omega)) (by first | exact hh2 | rw [hh2, hput_hput]) (by omega)
                  · refine st_aload_n C 0 dX11_see_63 rfl rfl ?_
                    refine st_getf C dX11_see_64 fl_X11_13 (by rw [hh2]; exact hput_o (by decide) hm) rfl ?_
                    refine st_bipush C dX11_see_67 (by decide) (by decide) ?_
                    refine st_iload_n C 1 dX11_see_69 rfl rfl ?_
                    refine st_imul C dX11_see_70 ⟨(by omega), (by omega)⟩ ?_
                    refine st_iload C dX11_see_71 rfl ?_
                    refine st_iadd C dX11_see_73 ⟨(by omega), (by omega)⟩ ?_
                    refine st_iald C dX11_see_74 (by rw [hh2]; exact hput_o (by decide) h202) (by omega) (by omega) ?_
                    refine st_iload_n C 2 dX11_see_75 rfl rfl ?_
                    refine st_icmp_ne (tgt := 89) C dX11_see_76 (by decide) (fun c_76 => ?_) (fun c_76 => ?_)
                    · refine st_iinc C dX11_see_89 rfl (by decide) rfl ⟨(by omega), (by omega)⟩ ?_
                      show T x 92 [(0, vR 200), (1, vI l), (2, vI A), (3, vI m2), (4, vI (i + 1)), (5, vI (mbes (i / 4) (i % 4)))] [] _ _ _
                      refine st_goto (tgt := 11) C dX11_see_92 (by decide) ?_
                      refine st_sub [0, 1, 2, 3, 4] rfl ?_
                      exact ih_11 m2 (i + 1) f2 h2 (by omega) (by omega) (by first | exact g6 | exact SI_add g6 (by omega) (by omega) (by omega) (by omega) (by assumption)) (by first | exact InS_f g7 (fun z4 z5 z6 => by omega) | exact InS_t g7 (by omega) (by omega) (by omega)) (by first | exact hh2 | rw [hh2, hput_hput]) (by omega)
                    · refine st_aload_n C 0 dX11_see_79 rfl rfl ?_
                      refine st_getf C dX11_see_80 fl_X11_56 (by rw [hh2]; exact hput_o (by decide) hm) rfl ?_
                      refine st_iload C dX11_see_83 rfl ?_
                      refine st_iconst C dX11_see_85 (by decide) ?_
                      refine st_zast C dX11_see_86 (by omega) (by rw [hh2]; exact hput_s) (by omega) (by omega) ?_
                      refine st_iconst C dX11_see_87 (by decide) ?_
                      refine st_istore_n C 3 dX11_see_88 rfl (by decide) rfl ?_
                      show T x 89 [(0, vR 200), (1, vI l), (2, vI A), (3, vI 1), (4, vI i), (5, vI (mbes (i / 4) (i % 4)))] [] _ _ _
                      refine st_iinc C dX11_see_89 rfl (by decide) rfl ⟨(by omega), (by omega)⟩ ?_
                      show T x 92 [(0, vR 200), (1, vI l), (2, vI A), (3, vI 1), (4, vI (i + 1)), (5, vI (mbes (i / 4) (i % 4)))] [] _ _ _
                      refine st_goto (tgt := 11) C dX11_see_92 (by decide) ?_
                      refine st_sub [0, 1, 2, 3, 4] rfl ?_
                      exact ih_11 1 (i + 1) (fput f2 (mbes (i / 4) (i % 4)) 1) (hput h2 216 (oZ 64 (fput f2 (mbes (i / 4) (i % 4)) 1))) (by omega) (by omega) (by first | exact g6 | exact SI_add g6 (by omega) (by omega) (by omega) (by omega) (by assumption)) (by first | exact InS_f g7 (fun z4 z5 z6 => by omega) | exact InS_t g7 (by omega) (by omega) (by omega)) (by first | exact hh2 | rw [hh2, hput_hput]) (by omega)
        exact loop_11 _ 0 0 f1 h1 (by omega) (by omega) (g1) (InS_0) (hh) (Nat.lt_succ_self _)
  exact loop_2 _ 1 f0 h (SI_0 hf0) (Or.inl rfl) ((hput_self h216).symm) (Nat.lt_succ_self _)
set_option maxRecDepth 20000 in
set_option maxHeartbeats 4000000 in
theorem k_hangs_t {g : Gx} {h : HP} {mv mrc mmc mmk mdv mwl mwa mwp mth : Int} {mw f0 : Int → Int} {l A : Int} (hm : mO h mv mrc mmc mmk mdv mwl mwa mwp mth) (h202 : h 202 = some (oI 304 mw)) (h216 : h 216 = some (oZ 64 f0)) (hl : 0 ≤ l ∧ l ≤ 2) (hP : HangA mw l A) : Ct g yX11_hangs (.code yX11_hangs cX11_hangs 5 (some .boolean)) 4 0 0 [vR 200, vI l, vI A] h (RtZ (some (vI 1)) h (fun _ => True)) := by
  refine Ct.of (by decide) (Nat.le_of_ble_eq_true rfl) (fun x hg C F => ?_)
  subst hg
  show T x 0 [(0, vR 200), (1, vI l), (2, vI A)] [] h 0 0
  refine st_iconst C dX11_hangs_0 (by decide) ?_
  refine st_istore_n C 3 dX11_hangs_1 rfl (by decide) rfl ?_
  show T x 2 [(0, vR 200), (1, vI l), (2, vI A), (3, vI 0)] [] _ _ _
  have loop_2 : ∀ (n_2 : Nat) (i : Int) (h1 : HP), (0 ≤ i) → (i ≤ 64) → (h1 = hput h 216 (oZ 64 (fmix (fun _ => 0) f0 i))) → (64 - i).toNat < n_2 → T x 2 [(0, vR 200), (1, vI l), (2, vI A), (3, vI i)] [] h1 0 0 := by
    intro n_2
    induction n_2 with
    | zero => intro i h1 g1 g2 hh hm_2; exact absurd hm_2 (Nat.not_lt_zero _)
    | succ n_2 ih_2 =>
      intro i h1 g1 g2 hh hm_2
      refine st_iload_n C 3 dX11_hangs_2 rfl rfl ?_
      refine st_bipush C dX11_hangs_3 (by decide) (by decide) ?_
      refine st_icmp_ge (tgt := 21) C dX11_hangs_5 (by decide) (fun c_5 => ?_) (fun c_5 => ?_)
      · refine st_iconst C dX11_hangs_21 (by decide) ?_
        refine st_istore_n C 3 dX11_hangs_22 rfl (by decide) rfl ?_
        show T x 23 [(0, vR 200), (1, vI l), (2, vI A), (3, vI 0)] [] _ _ _
        refine st_iconst C dX11_hangs_23 (by decide) ?_
        refine st_istore C dX11_hangs_24 (by decide) rfl ?_
        show T x 26 [(0, vR 200), (1, vI l), (2, vI A), (3, vI 0), (4, vI 0)] [] _ _ _
        have loop_26 : ∀ (n_26 : Nat) (c1 : Int) (k : Int) (f1 : Int → Int) (h2 : HP), (0 ≤ k) → (k ≤ 64) → (0 ≤ c1 ∧ c1 ≤ k) → (HI mw l A f1 c1 k) → (h2 = hput h 216 (oZ 64 f1)) → (64 - k).toNat < n_26 → T x 26 [(0, vR 200), (1, vI l), (2, vI A), (3, vI c1), (4, vI k)] [] h2 0 0 := by
          intro n_26
          induction n_26 with
          | zero => intro c1 k f1 h2 g3 g4 g5 g6 hh2 hm_26; exact absurd hm_26 (Nat.not_lt_zero _)
          | succ n_26 ih_26 =>
            intro c1 k f1 h2 g3 g4 g5 g6 hh2 hm_26
            have z0 : k < 64 → f1 k = 0 ∨ f1 k = 1 := fun z => g6.1 k g3 (by omega)
            refine st_iload C dX11_hangs_26 rfl ?_
            refine st_bipush C dX11_hangs_28 (by decide) (by decide) ?_
            refine st_icmp_ge (tgt := 82) C dX11_hangs_30 (by decide) (fun c_30 => ?_) (fun c_30 => ?_)
            · refine st_iload_n C 3 dX11_hangs_82 rfl rfl ?_
              refine st_iconst C dX11_hangs_83 (by decide) ?_
              refine st_icmp_gt (tgt := 91) C dX11_hangs_84 (by decide) (fun c_84 => ?_) (fun c_84 => ?_)
              · refine st_iconst C dX11_hangs_91 (by decide) ?_
                exact st_zreturn C F dX11_hangs_92 rfl (by omega) (by have e9 := HI_e g6 (by omega); first | exact rz_i rfl hh2 trivial | exact absurd (e9.mp (by omega)) hP | exact absurd (e9.mpr hP) (by omega)) (by omega) (by omega)
              · refine st_iconst C dX11_hangs_87 (by decide) ?_
                refine st_goto (tgt := 92) C dX11_hangs_88 (by decide) ?_
                exact st_zreturn C F dX11_hangs_92 rfl (by omega) (by have e9 := HI_e g6 (by omega); first | exact rz_i rfl hh2 trivial | exact absurd (e9.mp (by omega)) hP | exact absurd (e9.mpr hP) (by omega)) (by omega) (by omega)
            · refine st_aload_n C 0 dX11_hangs_33 rfl rfl ?_
              refine st_getf C dX11_hangs_34 fl_X11_56 (by rw [hh2]; exact hput_o (by decide) hm) rfl ?_
              refine st_iload C dX11_hangs_37 rfl ?_
              refine st_zald C dX11_hangs_39 (by rw [hh2]; exact hput_s) (by omega) (by omega) ?_
              refine st_if_ne (tgt := 76) C dX11_hangs_40 (by decide) (fun c_40 => ?_) (fun c_40 => ?_)
              · refine st_iinc C dX11_hangs_76 rfl (by decide) rfl ⟨(by omega), (by omega)⟩ ?_
                show T x 79 [(0, vR 200), (1, vI l), (2, vI A), (3, vI c1), (4, vI (k + 1))] [] _ _ _
                refine st_goto (tgt := 26) C dX11_hangs_79 (by decide) ?_
                exact ih_26 c1 (k + 1) f1 h2 (by omega) (by omega) (by omega) (by first | exact HI_f g6 (fun z4 => by omega) | exact HI_t (by omega) g6 (by omega) (by assumption) hf3.1 hf3.2) (by first | exact hh2 | rw [hh2, hput_hput, hput_hput]) (by omega)
              · refine st_aload_n C 0 dX11_hangs_43 rfl rfl ?_
                refine st_getf C dX11_hangs_44 fl_X11_13 (by rw [hh2]; exact hput_o (by decide) hm) rfl ?_
                refine st_bipush C dX11_hangs_47 (by decide) (by decide) ?_
                refine st_iload_n C 1 dX11_hangs_49 rfl rfl ?_
                refine st_imul C dX11_hangs_50 ⟨(by omega), (by omega)⟩ ?_
                refine st_iload C dX11_hangs_51 rfl ?_
                refine st_iadd C dX11_hangs_53 ⟨(by omega), (by omega)⟩ ?_
                refine st_iald C dX11_hangs_54 (by rw [hh2]; exact hput_o (by decide) h202) (by omega) (by omega) ?_
                refine st_iload_n C 2 dX11_hangs_55 rfl rfl ?_
                refine st_icmp_ne (tgt := 76) C dX11_hangs_56 (by decide) (fun c_56 => ?_) (fun c_56 => ?_)
                · refine st_iinc C dX11_hangs_76 rfl (by decide) rfl ⟨(by omega), (by omega)⟩ ?_
                  show T x 79 [(0, vR 200), (1, vI l), (2, vI A), (3, vI c1), (4, vI (k + 1))] [] _ _ _
                  refine st_goto (tgt := 26) C dX11_hangs_79 (by decide) ?_
                  exact ih_26 c1 (k + 1) f1 h2 (by omega) (by omega) (by omega) (by first | exact HI_f g6 (fun z4 => by omega) | exact HI_t (by omega) g6 (by omega) (by assumption) hf3.1 hf3.2) (by first | exact hh2 | rw [hh2, hput_hput, hput_hput]) (by omega)
                · refine st_iinc C dX11_hangs_59 rfl (by decide) rfl ⟨(by omega), (by omega)⟩ ?_
                  show T x 62 [(0, vR 200), (1, vI l), (2, vI A), (3, vI (c1 + 1)), (4, vI k)] [] _ _ _
                  refine st_aload_n C 0 dX11_hangs_62 rfl rfl ?_
                  refine st_getf C dX11_hangs_63 fl_X11_56 (by rw [hh2]; exact hput_o (by decide) hm) rfl ?_
                  refine st_iload C dX11_hangs_66 rfl ?_
                  refine st_iconst C dX11_hangs_68 (by decide) ?_
                  refine st_zast C dX11_hangs_69 (by omega) (by rw [hh2]; exact hput_s) (by omega) (by omega) ?_
                  refine st_aload_n C 0 dX11_hangs_70 rfl rfl ?_
                  refine st_iload_n C 1 dX11_hangs_71 rfl rfl ?_
                  refine st_iload_n C 2 dX11_hangs_72 rfl rfl ?_
                  have hz3 : ∀ p, 0 ≤ p → p ≤ 63 → (fput f1 k 1) p = 0 ∨ (fput f1 k 1) p = 1 := fun p p1 p2 => by unfold fput; split; exact Or.inr rfl; exact g6.1 p p1 p2
                  refine st_callV (st := []) C dX11_hangs_73 [vI l, vI A] (k_see (f0 := (fput f1 k 1)) (mw := mw) (hput_o (by omega) (by rw [hh2]; exact hput_o (by decide) hm)) (hput_o (by omega) (by rw [hh2]; exact hput_o (by decide) h202)) hput_s hl hz3) (hput_o (by omega) (by rw [hh2]; exact hput_o (by decide) hm)) w_X11_86 rfl (by decide) (by decide) (by omega) (by omega) (Nat.le_of_ble_eq_true rfl) (ko_rzn (fun f3 hf3 => ?_))
                  show T x 76 [(0, vR 200), (1, vI l), (2, vI A), (3, vI (c1 + 1)), (4, vI k)] [] _ _ _
                  refine st_iinc C dX11_hangs_76 rfl (by decide) rfl ⟨(by omega), (by omega)⟩ ?_
                  show T x 79 [(0, vR 200), (1, vI l), (2, vI A), (3, vI (c1 + 1)), (4, vI (k + 1))] [] _ _ _
                  refine st_goto (tgt := 26) C dX11_hangs_79 (by decide) ?_
                  exact ih_26 (c1 + 1) (k + 1) f3 (hput (hput h2 216 (oZ 64 (fput f1 k 1))) 216 (oZ 64 f3)) (by omega) (by omega) (by omega) (by first | exact HI_f g6 (fun z4 => by omega) | exact HI_t (by omega) g6 (by omega) (by assumption) hf3.1 hf3.2) (by first | exact hh2 | rw [hh2, hput_hput, hput_hput]) (by omega)
        exact loop_26 _ 0 0 (fmix (fun _ => 0) f0 i) h1 (by omega) (by omega) (by omega) (HI_0 (fun p p1 p2 => fmix_in p1 (by omega))) (by rw [hh]) (Nat.lt_succ_self _)
      · refine st_aload_n C 0 dX11_hangs_8 rfl rfl ?_
        refine st_getf C dX11_hangs_9 fl_X11_56 (by rw [hh]; exact hput_o (by decide) hm) rfl ?_
        refine st_iload_n C 3 dX11_hangs_12 rfl rfl ?_
        refine st_iconst C dX11_hangs_13 (by decide) ?_
        refine st_zast C dX11_hangs_14 (by omega) (by rw [hh]; exact hput_s) (by omega) (by omega) ?_
        refine st_iinc C dX11_hangs_15 rfl (by decide) rfl ⟨(by omega), (by omega)⟩ ?_
        show T x 18 [(0, vR 200), (1, vI l), (2, vI A), (3, vI (i + 1))] [] _ _ _
        refine st_goto (tgt := 2) C dX11_hangs_18 (by decide) ?_
        exact ih_2 (i + 1) (hput h1 216 (oZ 64 (fput (fmix (fun _ => 0) f0 i) i 0))) (by omega) (by omega) (by rw [hh, hput_hput, fmix_s g1 rfl]) (by omega)
  exact loop_2 _ 0 h (by omega) (by omega) (by rw [fmix_0]; exact (hput_self h216).symm) (Nat.lt_succ_self _)
set_option maxRecDepth 20000 in
set_option maxHeartbeats 4000000 in
theorem k_hangs_f {g : Gx} {h : HP} {mv mrc mmc mmk mdv mwl mwa mwp mth : Int} {mw f0 : Int → Int} {l A : Int} (hm : mO h mv mrc mmc mmk mdv mwl mwa mwp mth) (h202 : h 202 = some (oI 304 mw)) (h216 : h 216 = some (oZ 64 f0)) (hl : 0 ≤ l ∧ l ≤ 2) (hP : ¬ HangA mw l A) : Ct g yX11_hangs (.code yX11_hangs cX11_hangs 5 (some .boolean)) 4 0 0 [vR 200, vI l, vI A] h (RtZ (some (vI 0)) h (fun _ => True)) := by
  refine Ct.of (by decide) (Nat.le_of_ble_eq_true rfl) (fun x hg C F => ?_)
  subst hg
  show T x 0 [(0, vR 200), (1, vI l), (2, vI A)] [] h 0 0
  refine st_iconst C dX11_hangs_0 (by decide) ?_
  refine st_istore_n C 3 dX11_hangs_1 rfl (by decide) rfl ?_
  show T x 2 [(0, vR 200), (1, vI l), (2, vI A), (3, vI 0)] [] _ _ _
  have loop_2 : ∀ (n_2 : Nat) (i : Int) (h1 : HP), (0 ≤ i) → (i ≤ 64) → (h1 = hput h 216 (oZ 64 (fmix (fun _ => 0) f0 i))) → (64 - i).toNat < n_2 → T x 2 [(0, vR 200), (1, vI l), (2, vI A), (3, vI i)] [] h1 0 0 := by
    intro n_2
    induction n_2 with
    | zero => intro i h1 g1 g2 hh hm_2; exact absurd hm_2 (Nat.not_lt_zero _)
    | succ n_2 ih_2 =>
      intro i h1 g1 g2 hh hm_2
      refine st_iload_n C 3 dX11_hangs_2 rfl rfl ?_
      refine st_bipush C dX11_hangs_3 (by decide) (by decide) ?_
      refine st_icmp_ge (tgt := 21) C dX11_hangs_5 (by decide) (fun c_5 => ?_) (fun c_5 => ?_)
      · refine st_iconst C dX11_hangs_21 (by decide) ?_
        refine st_istore_n C 3 dX11_hangs_22 rfl (by decide) rfl ?_
        show T x 23 [(0, vR 200), (1, vI l), (2, vI A), (3, vI 0)] [] _ _ _
        refine st_iconst C dX11_hangs_23 (by decide) ?_
        refine st_istore C dX11_hangs_24 (by decide) rfl ?_
        show T x 26 [(0, vR 200), (1, vI l), (2, vI A), (3, vI 0), (4, vI 0)] [] _ _ _
        have loop_26 : ∀ (n_26 : Nat) (c1 : Int) (k : Int) (f1 : Int → Int) (h2 : HP), (0 ≤ k) → (k ≤ 64) → (0 ≤ c1 ∧ c1 ≤ k) → (HI mw l A f1 c1 k) → (h2 = hput h 216 (oZ 64 f1)) → (64 - k).toNat < n_26 → T x 26 [(0, vR 200), (1, vI l), (2, vI A), (3, vI c1), (4, vI k)] [] h2 0 0 := by
          intro n_26
          induction n_26 with
          | zero => intro c1 k f1 h2 g3 g4 g5 g6 hh2 hm_26; exact absurd hm_26 (Nat.not_lt_zero _)
          | succ n_26 ih_26 =>
            intro c1 k f1 h2 g3 g4 g5 g6 hh2 hm_26
            have z0 : k < 64 → f1 k = 0 ∨ f1 k = 1 := fun z => g6.1 k g3 (by omega)
            refine st_iload C dX11_hangs_26 rfl ?_
            refine st_bipush C dX11_hangs_28 (by decide) (by decide) ?_
            refine st_icmp_ge (tgt := 82) C dX11_hangs_30 (by decide) (fun c_30 => ?_) (fun c_30 => ?_)
            · refine st_iload_n C 3 dX11_hangs_82 rfl rfl ?_
              refine st_iconst C dX11_hangs_83 (by decide) ?_
              refine st_icmp_gt (tgt := 91) C dX11_hangs_84 (by decide) (fun c_84 => ?_) (fun c_84 => ?_)
              · refine st_iconst C dX11_hangs_91 (by decide) ?_
                exact st_zreturn C F dX11_hangs_92 rfl (by omega) (by have e9 := HI_e g6 (by omega); first | exact rz_i rfl hh2 trivial | exact absurd (e9.mp (by omega)) hP | exact absurd (e9.mpr hP) (by omega)) (by omega) (by omega)
              · refine st_iconst C dX11_hangs_87 (by decide) ?_
                refine st_goto (tgt := 92) C dX11_hangs_88 (by decide) ?_
                exact st_zreturn C F dX11_hangs_92 rfl (by omega) (by have e9 := HI_e g6 (by omega); first | exact rz_i rfl hh2 trivial | exact absurd (e9.mp (by omega)) hP | exact absurd (e9.mpr hP) (by omega)) (by omega) (by omega)
            · refine st_aload_n C 0 dX11_hangs_33 rfl rfl ?_
              refine st_getf C dX11_hangs_34 fl_X11_56 (by rw [hh2]; exact hput_o (by decide) hm) rfl ?_
              refine st_iload C dX11_hangs_37 rfl ?_
              refine st_zald C dX11_hangs_39 (by rw [hh2]; exact hput_s) (by omega) (by omega) ?_
              refine st_if_ne (tgt := 76) C dX11_hangs_40 (by decide) (fun c_40 => ?_) (fun c_40 => ?_)
              · refine st_iinc C dX11_hangs_76 rfl (by decide) rfl ⟨(by omega), (by omega)⟩ ?_
                show T x 79 [(0, vR 200), (1, vI l), (2, vI A), (3, vI c1), (4, vI (k + 1))] [] _ _ _
                refine st_goto (tgt := 26) C dX11_hangs_79 (by decide) ?_
                exact ih_26 c1 (k + 1) f1 h2 (by omega) (by omega) (by omega) (by first | exact HI_f g6 (fun z4 => by omega) | exact HI_t (by omega) g6 (by omega) (by assumption) hf3.1 hf3.2) (by first | exact hh2 | rw [hh2, hput_hput, hput_hput]) (by omega)
              · refine st_aload_n C 0 dX11_hangs_43 rfl rfl ?_
                refine st_getf C dX11_hangs_44 fl_X11_13 (by rw [hh2]; exact hput_o (by decide) hm) rfl ?_
                refine st_bipush C dX11_hangs_47 (by decide) (by decide) ?_
                refine st_iload_n C 1 dX11_hangs_49 rfl rfl ?_
                refine st_imul C dX11_hangs_50 ⟨(by omega), (by omega)⟩ ?_
                refine st_iload C dX11_hangs_51 rfl ?_
                refine st_iadd C dX11_hangs_53 ⟨(by omega), (by omega)⟩ ?_
                refine st_iald C dX11_hangs_54 (by rw [hh2]; exact hput_o (by decide) h202) (by omega) (by omega) ?_
                refine st_iload_n C 2 dX11_hangs_55 rfl rfl ?_
                refine st_icmp_ne (tgt := 76) C dX11_hangs_56 (by decide) (fun c_56 => ?_) (fun c_56 => ?_)
                · refine st_iinc C dX11_hangs_76 rfl (by decide) rfl ⟨(by omega), (by omega)⟩ ?_
                  show T x 79 [(0, vR 200), (1, vI l), (2, vI A), (3, vI c1), (4, vI (k + 1))] [] _ _ _
                  refine st_goto (tgt := 26) C dX11_hangs_79 (by decide) ?_
                  exact ih_26 c1 (k + 1) f1 h2 (by omega) (by omega) (by omega) (by first | exact HI_f g6 (fun z4 => by omega) | exact HI_t (by omega) g6 (by omega) (by assumption) hf3.1 hf3.2) (by first | exact hh2 | rw [hh2, hput_hput, hput_hput]) (by omega)
                · refine st_iinc C dX11_hangs_59 rfl (by decide) rfl ⟨(by omega), (by omega)⟩ ?_
                  show T x 62 [(0, vR 200), (1, vI l), (2, vI A), (3, vI (c1 + 1)), (4, vI k)] [] _ _ _
                  refine st_aload_n C 0 dX11_hangs_62 rfl rfl ?_
                  refine st_getf C dX11_hangs_63 fl_X11_56 (by rw [hh2]; exact hput_o (by decide) hm) rfl ?_
                  refine st_iload C dX11_hangs_66 rfl ?_
                  refine st_iconst C dX11_hangs_68 (by decide) ?_
                  refine st_zast C dX11_hangs_69 (by omega) (by rw [hh2]; exact hput_s) (by omega) (by omega) ?_
                  refine st_aload_n C 0 dX11_hangs_70 rfl rfl ?_
                  refine st_iload_n C 1 dX11_hangs_71 rfl rfl ?_
                  refine st_iload_n C 2 dX11_hangs_72 rfl rfl ?_
                  have hz3 : ∀ p, 0 ≤ p → p ≤ 63 → (fput f1 k 1) p = 0 ∨ (fput f1 k 1) p = 1 := fun p p1 p2 => by unfold fput; split; exact Or.inr rfl; exact g6.1 p p1 p2
                  refine st_callV (st := []) C dX11_hangs_73 [vI l, vI A] (k_see (f0 := (fput f1 k 1)) (mw := mw) (hput_o (by omega) (by rw [hh2]; exact hput_o (by decide) hm)) (hput_o (by omega) (by rw [hh2]; exact hput_o (by decide) h202)) hput_s hl hz3) (hput_o (by omega) (by rw [hh2]; exact hput_o (by decide) hm)) w_X11_86 rfl (by decide) (by decide) (by omega) (by omega) (Nat.le_of_ble_eq_true rfl) (ko_rzn (fun f3 hf3 => ?_))
                  show T x 76 [(0, vR 200), (1, vI l), (2, vI A), (3, vI (c1 + 1)), (4, vI k)] [] _ _ _
                  refine st_iinc C dX11_hangs_76 rfl (by decide) rfl ⟨(by omega), (by omega)⟩ ?_
                  show T x 79 [(0, vR 200), (1, vI l), (2, vI A), (3, vI (c1 + 1)), (4, vI (k + 1))] [] _ _ _
                  refine st_goto (tgt := 26) C dX11_hangs_79 (by decide) ?_
                  exact ih_26 (c1 + 1) (k + 1) f3 (hput (hput h2 216 (oZ 64 (fput f1 k 1))) 216 (oZ 64 f3)) (by omega) (by omega) (by omega) (by first | exact HI_f g6 (fun z4 => by omega) | exact HI_t (by omega) g6 (by omega) (by assumption) hf3.1 hf3.2) (by first | exact hh2 | rw [hh2, hput_hput, hput_hput]) (by omega)
        exact loop_26 _ 0 0 (fmix (fun _ => 0) f0 i) h1 (by omega) (by omega) (by omega) (HI_0 (fun p p1 p2 => fmix_in p1 (by omega))) (by rw [hh]) (Nat.lt_succ_self _)
      · refine st_aload_n C 0 dX11_hangs_8 rfl rfl ?_
        refine st_getf C dX11_hangs_9 fl_X11_56 (by rw [hh]; exact hput_o (by decide) hm) rfl ?_
        refine st_iload_n C 3 dX11_hangs_12 rfl rfl ?_
        refine st_iconst C dX11_hangs_13 (by decide) ?_
        refine st_zast C dX11_hangs_14 (by omega) (by rw [hh]; exact hput_s) (by omega) (by omega) ?_
        refine st_iinc C dX11_hangs_15 rfl (by decide) rfl ⟨(by omega), (by omega)⟩ ?_
        show T x 18 [(0, vR 200), (1, vI l), (2, vI A), (3, vI (i + 1))] [] _ _ _
        refine st_goto (tgt := 2) C dX11_hangs_18 (by decide) ?_
        exact ih_2 (i + 1) (hput h1 216 (oZ 64 (fput (fmix (fun _ => 0) f0 i) i 0))) (by omega) (by omega) (by rw [hh, hput_hput, fmix_s g1 rfl]) (by omega)
  exact loop_2 _ 0 h (by omega) (by omega) (by rw [fmix_0]; exact (hput_self h216).symm) (Nat.lt_succ_self _)
