theorem Ct.imp {g : Gx} {z : MethodName} {cw : Cond} {d mc ms : Nat} {av : List PV} {h : HP} {Q Q' : PR → HP → Prop} (hq : ∀ r h', Q r h' → Q' r h') (hc : Ct g z cw d mc ms av h Q) : Ct g z cw d mc ms av h Q' := by
  obtain ⟨l, dC, dI, cA, H0⟩ := g
  intro hst ad p e ha hcc hk s m args below hf happ hP hK
  obtain ⟨n, o, h1, h2, h3, h4⟩ := hc hst ad p e ha hcc hk s m args below hf happ hP hK
  refine ⟨n, o, h1, h2, h3, ?_⟩
  rcases h4 with ⟨⟨r, h', ad', e1, e2, e3⟩, h5⟩ | ⟨q, e0, E, ce, L, ⟨h', ad', e1, e2⟩, h5⟩
  · exact Or.inl ⟨⟨r, h', ad', e1, hq _ _ e2, e3⟩, h5⟩
  · exact Or.inr ⟨q, e0, E, ce, L, ⟨h', ad', hq _ _ e1, e2⟩, h5⟩
theorem first_in {P : Int → Prop} {n r : Int} (h : IsFirst P n r) : -1 ≤ r ∧ (r < n ∨ r = -1) := by
  rcases h with ⟨h1, h2, -, -⟩ | ⟨h1, -⟩ <;> omega
theorem cntN_add {P : Int → Prop} (a : Nat) : ∀ b : Nat, cntN P (a + b) = cntN P a + cntN (fun q => P ((a : Int) + q)) b := by
  intro b
  induction b with
  | zero => unfold cntN; cases a <;> (try unfold cntN) <;> simp
  | succ b ih =>
    show cntN P (a + b) + @ite Int (P ((a + b : Nat) : Int)) (Classical.propDecidable _) 1 0 = cntN P a + (cntN (fun q => P ((a : Int) + q)) b + @ite Int (P ((a : Int) + (b : Int))) (Classical.propDecidable _) 1 0)
    rw [ih]
    have e : ((a + b : Nat) : Int) = (a : Int) + (b : Int) := by push_cast; rfl
    rw [e]
    omega
theorem cnt_add {P : Int → Prop} {a b : Int} (ha : 0 ≤ a) (hb : 0 ≤ b) : cnt P (a + b) = cnt P a + cnt (fun q => P (a + q)) b := by
  unfold cnt
  have h := cntN_add (P := P) a.toNat b.toNat
  rw [Int.toNat_of_nonneg ha] at h
  rw [show (a + b).toNat = a.toNat + b.toNat by omega]
  exact h
/-- a square of squares, counted row by row -/
theorem sum_cnt {P : Int → Prop} {w : Int} (hw : 0 ≤ w) : ∀ n : Nat, sumN (fun r => cnt (fun q => P (w * r + q)) w) n = cnt P (w * n) := by
  intro n
  induction n with
  | zero => unfold sumN; rw [show w * ((0 : Nat) : Int) = 0 by simp]; rfl
  | succ n ih =>
    unfold sumN
    have h1 : (0 : Int) ≤ w * n := Int.mul_nonneg hw (by omega)
    rw [ih, show w * ((n + 1 : Nat) : Int) = w * n + w by push_cast; rw [Int.mul_add, Int.mul_one], cnt_add h1 hw]
theorem pin_8 {f : Int → Int} {l a : Int} : pin f l a 8 0 0 = cnt (fun j => f (64 * l + j) = a) 64 := by
  have h := sum_cnt (P := fun j => f (64 * l + j) = a) (w := 8) (by omega) 8
  unfold pin sum
  have e : (fun r => cnt (fun q => f (64 * l + (8 * (0 * 8 + r) + 0 * 8 + q)) = a) 8) = (fun r => cnt (fun q => f (64 * l + (8 * r + q)) = a) 8) := by
    funext r
    congr 1
    funext q
    rw [show 64 * l + (8 * (0 * 8 + r) + 0 * 8 + q) = 64 * l + (8 * r + q) by omega]
  rw [e]
  exact h
theorem cntN_le {P Q : Int → Prop} : ∀ n : Nat, (∀ i : Int, 0 ≤ i → i < n → P i → Q i) → cntN P n ≤ cntN Q n := by
  intro n
  induction n with
  | zero => intro _; exact Int.le_refl _
  | succ n ih =>
    intro h
    have h1 := ih (fun i g1 g2 => h i g1 (by omega))
    unfold cntN
    by_cases hp : P (n : Int)
    · rw [if_pos hp, if_pos (h n (by omega) (by omega) hp)]; omega
    · rw [if_neg hp]
      have : (0 : Int) ≤ @ite Int (Q (n : Int)) (Classical.propDecidable _) 1 0 := by split <;> decide
      omega
theorem cnt_le {P Q : Int → Prop} {n : Int} (h : ∀ i, 0 ≤ i → i < n → P i → Q i) : cnt P n ≤ cnt Q n := cntN_le n.toNat (fun i g1 g2 => h i g1 (by omega))
theorem cntN_eqs {P Q : Int → Prop} : ∀ n : Nat, (∀ i : Int, 0 ≤ i → i < n → Q i → P i) → cntN P n ≤ cntN Q n → ∀ i : Int, 0 ≤ i → i < n → P i → Q i := by
  intro n
  induction n with
  | zero => intro _ _ i g1 g2; omega
  | succ n ih =>
    intro h hc i g1 g2 hp
    have h1 := cntN_le (P := Q) (Q := P) n (fun i g1 g2 => h i g1 (by omega))
    unfold cntN at hc
    by_cases hq : Q (n : Int)
    · rw [if_pos hq, if_pos (h n (by omega) (by omega) hq)] at hc
      by_cases e : i = n
      · rw [e]; exact hq
      · exact ih (fun i g1 g2 => h i g1 (by omega)) (by omega) i g1 (by omega) hp
    · rw [if_neg hq] at hc
      by_cases hp2 : P (n : Int)
      · rw [if_pos hp2] at hc; omega
      · rw [if_neg hp2] at hc
        by_cases e : i = n
        · rw [e] at hp; exact absurd hp hp2
        · exact ih (fun i g1 g2 => h i g1 (by omega)) (by omega) i g1 (by omega) hp
theorem cnt_eqs {P Q : Int → Prop} {n : Int} (h : ∀ i, 0 ≤ i → i < n → Q i → P i) (hc : cnt P n ≤ cnt Q n) : ∀ i, 0 ≤ i → i < n → P i → Q i := fun i g1 g2 => cntN_eqs n.toNat (fun i g1 g2 => h i g1 (by omega)) hc i g1 (by omega)
theorem cnt_pos {P : Int → Prop} {n i : Int} (h1 : 0 ≤ i) (h2 : i < n) (hp : P i) : 0 < cnt P n := by
  have h3 : cnt P (i + 1) ≤ cnt P n := cnt_mono (by omega) (by omega)
  rw [cnt_s h1, if_pos hp] at h3
  have := (cnt_in P h1).1
  omega
theorem cnt_none {P : Int → Prop} {n : Int} (h : ∀ i, 0 ≤ i → i < n → ¬ P i) : cnt P n = 0 := by
  have h1 : cnt P n = cnt (fun _ => False) n := cnt_congr (fun i g1 g2 => ⟨fun z => h i g1 g2 z, fun z => z.elim⟩)
  have h2 : ∀ k : Nat, cntN (fun _ => False) k = 0 := by
    intro k
    induction k with
    | zero => rfl
    | succ k ih => unfold cntN; rw [ih, if_neg (fun z => z)]; rfl
  rw [h1]
  exact h2 _
theorem cnt_ex {P : Int → Prop} {n : Int} (h : 0 < cnt P n) : ∃ i, 0 ≤ i ∧ i < n ∧ P i := by
  refine Classical.byContradiction fun z => ?_
  have := cnt_none (P := P) (n := n) (fun i g1 g2 g3 => z ⟨i, g1, g2, g3⟩)
  omega
/-! ways -/
theorem besid_back {p d : Int} (hp : 0 ≤ p ∧ p ≤ 63) (hd : 0 ≤ d ∧ d ≤ 3) (h : besid p d ≠ -1) : ∃ e, 0 ≤ e ∧ e ≤ 3 ∧ besid (besid p d) e = p := by
  have hb := besid_in (d := d) hp
  refine ⟨(d + 2) % 4, by omega, by omega, ?_⟩
  have hd4 : d = 0 ∨ d = 1 ∨ d = 2 ∨ d = 3 := by omega
  rcases hd4 with e | e | e | e <;> subst e
  · have h1 : p % 8 < 7 := by unfold besid at h; simp at h; omega
    have e1 : besid p 0 = p + 1 := by unfold besid; simp [h1]
    rw [e1]; unfold besid; simp; omega
  · have h1 : p / 8 < 7 := by unfold besid at h; simp at h; omega
    have e1 : besid p 1 = p + 8 := by unfold besid; simp [h1]
    rw [e1]; unfold besid; simp; omega
  · have h1 : 0 < p % 8 := by unfold besid at h; simp at h; omega
    have e1 : besid p 2 = p - 1 := by unfold besid; simp [h1]
    rw [e1]; unfold besid; simp; omega
  · have h1 : 0 < p / 8 := by unfold besid at h; simp at h; omega
    have e1 : besid p 3 = p - 8 := by unfold besid; simp [h1]
    rw [e1]; unfold besid; simp; omega
theorem adj_symm {J : Int → Int → Prop} (hJ : ∀ a b, J a b → J b a) {q p : Int} (hq : 0 ≤ q ∧ q ≤ 63) (h : Adj J q p) : Adj J p q := by
  obtain ⟨d, h1, h2, h3, h4, h5⟩ := h
  subst h3
  obtain ⟨e, e1, e2, e3⟩ := besid_back hq ⟨h1, h2⟩ h4
  exact ⟨e, e1, e2, e3, by omega, hJ _ _ h5⟩
theorem path_trans {J : Int → Int → Prop} {a b : Int} {n : Nat} (h1 : Path J a n b) : ∀ (m : Nat) (c : Int), Path J b m c → Path J a (n + m) c := by
  intro m
  induction m with
  | zero => intro c h; rw [show c = b from h]; exact h1
  | succ m ih =>
    intro c h
    obtain ⟨q, hq, hadj⟩ := h
    exact ⟨q, ih q hq, hadj⟩
theorem reach_trans {J : Int → Int → Prop} {a b c : Int} (h1 : Reach J a b) (h2 : Reach J b c) : Reach J a c := by
  obtain ⟨n, hn⟩ := h1
  obtain ⟨m, hm⟩ := h2
  exact ⟨_, path_trans hn m c hm⟩
theorem reach_refl {J : Int → Int → Prop} {a : Int} : Reach J a a := ⟨0, rfl⟩
theorem reach_adj {J : Int → Int → Prop} {a b : Int} (h : Adj J a b) : Reach J a b := ⟨1, a, rfl, h⟩
theorem reach_symm {J : Int → Int → Prop} (hJ : ∀ a b, J a b → J b a) {a b : Int} (ha : 0 ≤ a ∧ a ≤ 63) (h : Reach J a b) : Reach J b a := by
  obtain ⟨n, hn⟩ := h
  revert hn b
  induction n with
  | zero => intro b h; rw [show b = a from h]; exact reach_refl
  | succ n ih =>
    intro b h
    obtain ⟨q, hq, hadj⟩ := h
    exact reach_trans (reach_adj (adj_symm hJ (path_in ha n q hq) hadj)) (ih hq)
theorem reach_in {J : Int → Int → Prop} {a b : Int} (ha : 0 ≤ a ∧ a ≤ 63) (h : Reach J a b) : 0 ≤ b ∧ b ≤ 63 := by
  obtain ⟨n, hn⟩ := h
  exact path_in ha n b hn
/-- what is handed on along each step holds all along -/
theorem reach_ind {J : Int → Int → Prop} {R : Int → Prop} {a : Int} (ha : 0 ≤ a ∧ a ≤ 63) (h0 : R a) (hs : ∀ p q, 0 ≤ p ∧ p ≤ 63 → R p → Adj J p q → R q) : ∀ b, Reach J a b → R b := by
  intro b h
  obtain ⟨n, hn⟩ := h
  revert hn b
  induction n with
  | zero => intro b h; rw [show b = a from h]; exact h0
  | succ n ih =>
    intro b h
    obtain ⟨q, hq, hadj⟩ := h
    exact hs q b (path_in ha n q hq) (ih q hq) hadj
abbrev LikeJ (f : Int → Int) (l : Int) : Int → Int → Prop := fun a b => f (64 * l + a) = f (64 * l + b)
/-- the places of one area hang together -/
def HangA (f : Int → Int) (l A : Int) : Prop := ∀ p q, 0 ≤ p → p ≤ 63 → 0 ≤ q → q ≤ 63 → f (64 * l + p) = A → f (64 * l + q) = A → Reach (LikeJ f l) p q
def Hang (f : Int → Int) (l : Int) : Prop := ∀ A, 1 ≤ A → A ≤ 9 → HangA f l A
theorem like_reach {f : Int → Int} {l a : Int} (ha : 0 ≤ a ∧ a ≤ 63) : ∀ b, Reach (LikeJ f l) a b → f (64 * l + b) = f (64 * l + a) :=
  reach_ind (R := fun b => f (64 * l + b) = f (64 * l + a)) ha rfl (fun p q _ h1 h2 => by obtain ⟨d, -, -, -, -, h3⟩ := h2; exact Eq.trans (Eq.symm h3) h1)
theorem hangA_no {f : Int → Int} {l A r : Int} (h : IsFirst (fun j => f (64 * l + j) = A) 64 r) (hr : r = -1) : HangA f l A := by
  intro p q p1 p2 q1 q2 hp hq
  rcases h with ⟨g1, -⟩ | ⟨-, g2⟩
  · omega
  · exact absurd hp (g2 p p1 (by omega))
theorem hangA_iff {f : Int → Int} {l A r : Int} (h : IsFirst (fun j => f (64 * l + j) = A) 64 r) (hr : r ≠ -1) : HangA f l A ↔ ¬ cnt (Reach (LikeJ f l) r) 64 < pin f l A 8 0 0 := by
  rcases h with ⟨g1, g2, g3, -⟩ | ⟨g1, -⟩
  · have hrr : 0 ≤ r ∧ r ≤ 63 := by omega
    rw [pin_8]
    constructor
    · intro hh
      have := cnt_le (P := fun j => f (64 * l + j) = A) (Q := Reach (LikeJ f l) r) (n := 64) (fun i i1 i2 hi => hh r i g1 (by omega) i1 (by omega) g3 hi)
      omega
    · intro hh p q p1 p2 q1 q2 hp hq
      have key := cnt_eqs (P := fun j => f (64 * l + j) = A) (Q := Reach (LikeJ f l) r) (n := 64) (fun i i1 i2 hi => (like_reach hrr i hi).trans g3) (by omega)
      exact reach_trans (reach_symm (fun a b hab => Eq.symm hab) hrr (key p p1 (by omega) hp)) (key q q1 (by omega) hq)
  · exact absurd g1 hr
/-- the roads at a place -/
noncomputable def rdN (f : Int → Int) (p : Int) : Int := cnt (fun d => besid p d ≠ -1 ∧ RoadB f p (besid p d)) 4
abbrev EdgeP (p : Int) : Prop := p % 8 = 0 ∨ p % 8 = 7 ∨ p / 8 = 0 ∨ p / 8 = 7
/-- all beside it have an area -/
def Encl (f : Int → Int) (a p : Int) : Prop := ∀ d, 0 ≤ d → d < 4 → besid p d ≠ -1 → f (64 * a + besid p d) ≠ 0
/-- a rule that is not of w is broken at a place -/
def BrkAt (k a b : Int) (f : Int → Int) (p : Int) : Prop := (k = 109 ∧ ¬ EdgeP p ∧ rdN f p = 1) ∨ (k = 103 ∧ f (64 * a + p) = 0 ∧ Encl f a p) ∨ (k = 99 ∧ f (64 * a + p) ≠ 0 ∧ f (64 * b + p) = 0) ∨ (k = 120 ∧ f (64 * a + p) ≠ 0 ∧ f (64 * b + p) ≠ 0)
def RuleHolds (k a b : Int) (f : Int → Int) : Prop := (∀ p, 0 ≤ p → p ≤ 63 → ¬ BrkAt k a b f p) ∧ (k = 119 → Hang f a)
/-- a rule as it may be given -/
def RuleOk (k a b : Int) : Prop := ((k = 99 ∨ k = 120) ∧ 0 ≤ a ∧ a ≤ 2 ∧ 0 ≤ b ∧ b ≤ 2 ∧ a ≠ b) ∨ ((k = 103 ∨ k = 119) ∧ 0 ≤ a ∧ a ≤ 2) ∨ k = 109
theorem encl_t {f : Int → Int} {a p i : Int} (h : ∀ d, 0 ≤ d → d < i → besid p d ≠ -1 → f (64 * a + besid p d) ≠ 0) (hi : besid p i ≠ -1 → f (64 * a + besid p i) ≠ 0) : ∀ d, 0 ≤ d → d < i + 1 → besid p d ≠ -1 → f (64 * a + besid p d) ≠ 0 := fun d h1 h2 h3 => by
  by_cases e : d = i
  · subst e; exact hi h3
  · exact h d h1 (by omega) h3
theorem brk_m {a b : Int} {f : Int → Int} {p : Int} : BrkAt 109 a b f p ↔ (¬ (p % 8 = 0 ∨ p % 8 = 7 ∨ p / 8 = 0 ∨ p / 8 = 7) ∧ rdN f p = 1) := by
  constructor
  · rintro (h | h | h | h) <;> first | exact h.2 | exact absurd h.1 (by decide)
  · exact fun h => Or.inl ⟨rfl, h⟩
theorem brk_g {a b : Int} {f : Int → Int} {p : Int} : BrkAt 103 a b f p ↔ (f (64 * a + p) = 0 ∧ Encl f a p) := by
  constructor
  · rintro (h | h | h | h) <;> first | exact absurd h.1 (by decide) | exact h.2
  · exact fun h => Or.inr (Or.inl ⟨rfl, h⟩)
theorem brk_c {a b : Int} {f : Int → Int} {p : Int} : BrkAt 99 a b f p ↔ (f (64 * a + p) ≠ 0 ∧ f (64 * b + p) = 0) := by
  constructor
  · rintro (h | h | h | h) <;> first | exact absurd h.1 (by decide) | exact h.2
  · exact fun h => Or.inr (Or.inr (Or.inl ⟨rfl, h⟩))
theorem brk_x {a b : Int} {f : Int → Int} {p : Int} : BrkAt 120 a b f p ↔ (f (64 * a + p) ≠ 0 ∧ f (64 * b + p) ≠ 0) := by
  constructor
  · rintro (h | h | h | h) <;> first | exact absurd h.1 (by decide) | exact h.2
  · exact fun h => Or.inr (Or.inr (Or.inr ⟨rfl, h⟩))

set_option maxRecDepth 20000 in
set_option maxHeartbeats 4000000 in
theorem k_Rule {g : Gx} {h : HP} {k : Nat} {k9 a9 b9 : Int} (hk : h k = some (oO 4 [vI 0, vI 0, vI 0])) (hk9 : 0 ≤ k9 ∧ k9 ≤ 65535) : Ct g yX5_init (.code yX5_init cX5_init 4 none) 1 0 0 [vR k, vI k9, vI a9, vI b9] h (Rt none (hput h k (oO 4 [vI k9, vI a9, vI b9]))) := by
  refine Ct.of (by decide) (Nat.le_of_ble_eq_true rfl) (fun x hg C F => ?_)
  subst hg
  show T x 0 [(0, vR k), (1, vI k9), (2, vI a9), (3, vI b9)] [] h 0 0
  refine st_aload_n C 0 dX5_init_0 rfl rfl ?_
  refine st_objInit C dX5_init_1 oi_X5_3 oi_2 oi_3 (by decide) (Nat.le_of_ble_eq_true rfl) ?_
  refine st_aload_n C 0 dX5_init_4 rfl rfl ?_
  refine st_iload_n C 1 dX5_init_5 rfl rfl ?_
  refine st_putf C dX5_init_6 fp_X5_9 (fun _ => rfl) hk (Nat.le_of_ble_eq_true rfl) (fit_char (by omega) (by omega)) ?_
  show T x 9 [(0, vR k), (1, vI k9), (2, vI a9), (3, vI b9)] [] (hput h k (oO 4 [vI k9, vI 0, vI 0])) _ _
  refine st_aload_n C 0 dX5_init_9 rfl rfl ?_
  refine st_iload_n C 2 dX5_init_10 rfl rfl ?_
  refine st_putf C dX5_init_11 fp_X5_15 (fun _ => rfl) hput_s (Nat.le_of_ble_eq_true rfl) fit_int ?_
  show T x 14 [(0, vR k), (1, vI k9), (2, vI a9), (3, vI b9)] [] (hput (hput h k (oO 4 [vI k9, vI 0, vI 0])) k (oO 4 [vI k9, vI a9, vI 0])) _ _
  refine st_aload_n C 0 dX5_init_14 rfl rfl ?_
  refine st_iload_n C 3 dX5_init_15 rfl rfl ?_
  refine st_putf C dX5_init_16 fp_X5_19 (fun _ => rfl) hput_s (Nat.le_of_ble_eq_true rfl) fit_int ?_
  show T x 19 [(0, vR k), (1, vI k9), (2, vI a9), (3, vI b9)] [] (hput (hput (hput h k (oO 4 [vI k9, vI 0, vI 0])) k (oO 4 [vI k9, vI a9, vI 0])) k (oO 4 [vI k9, vI a9, vI b9])) _ _
  exact st_return C F dX5_init_19 rfl (rt_n (by rw [hput_hput, hput_hput])) (by omega) (by omega)
set_option maxRecDepth 20000 in
set_option maxHeartbeats 4000000 in
theorem k_isRule_t {g : Gx} {h : HP} {k9 a9 b9 : Int} (hP : RuleOk k9 a9 b9) : Ct g yX5_isRule (.code yX5_isRule cX5_isRule 3 (some .boolean)) 3 0 0 [vI k9, vI a9, vI b9] h (Rt (some (vI 1)) h) := by
  refine Ct.of (by decide) (Nat.le_of_ble_eq_true rfl) (fun x hg C F => ?_)
  subst hg
  show T x 0 [(0, vI k9), (1, vI a9), (2, vI b9)] [] h 0 0
  refine st_iload_n C 0 dX5_isRule_0 rfl rfl ?_
  refine st_bipush C dX5_isRule_1 (by decide) (by decide) ?_
  refine st_icmp_eq (tgt := 12) C dX5_isRule_3 (by decide) (fun c_3 => ?_) (fun c_3 => ?_)
  · refine st_iload_n C 1 dX5_isRule_12 rfl rfl ?_
    by_cases b_13 : 0 ≤ a9 ∧ a9 ≤ 2
    · refine st_callSN (st := []) C dX5_isRule_13 [vI a9] (k_isLayer_t (v9 := a9)  b_13) (fun _ _ q => by cases q.1) w_X5_22 rfl (by decide) (by decide) (by omega) (by omega) (Nat.le_of_ble_eq_true rfl) (ko_rt ?_)
      show T x 16 [(0, vI k9), (1, vI a9), (2, vI b9)] [vI 1] _ _ _
      refine st_if_eq (tgt := 35) C dX5_isRule_16 (by decide) (fun c_16 => by omega) (fun c_16 => ?_)
      refine st_iload_n C 2 dX5_isRule_19 rfl rfl ?_
      by_cases b_20 : 0 ≤ b9 ∧ b9 ≤ 2
      · refine st_callSN (st := []) C dX5_isRule_20 [vI b9] (k_isLayer_t (v9 := b9)  b_20) (fun _ _ q => by cases q.1) w_X5_22 rfl (by decide) (by decide) (by omega) (by omega) (Nat.le_of_ble_eq_true rfl) (ko_rt ?_)
        show T x 23 [(0, vI k9), (1, vI a9), (2, vI b9)] [vI 1] _ _ _
        refine st_if_eq (tgt := 35) C dX5_isRule_23 (by decide) (fun c_23 => by omega) (fun c_23 => ?_)
        refine st_iload_n C 1 dX5_isRule_26 rfl rfl ?_
        refine st_iload_n C 2 dX5_isRule_27 rfl rfl ?_
        refine st_icmp_eq (tgt := 35) C dX5_isRule_28 (by decide) (fun c_28 => ?_) (fun c_28 => ?_)
        · refine st_iconst C dX5_isRule_35 (by decide) ?_
          exact st_zreturn C F dX5_isRule_36 rfl (by omega) (rt_i (by unfold RuleOk at hP; omega) rfl) (by omega) (by omega)
        · refine st_iconst C dX5_isRule_31 (by decide) ?_
          refine st_goto (tgt := 36) C dX5_isRule_32 (by decide) ?_
          exact st_zreturn C F dX5_isRule_36 rfl (by omega) (rt_i (by unfold RuleOk at hP; omega) rfl) (by omega) (by omega)
      · refine st_callSN (st := []) C dX5_isRule_20 [vI b9] (k_isLayer_f (v9 := b9)  b_20) (fun _ _ q => by cases q.1) w_X5_22 rfl (by decide) (by decide) (by omega) (by omega) (Nat.le_of_ble_eq_true rfl) (ko_rt ?_)
        show T x 23 [(0, vI k9), (1, vI a9), (2, vI b9)] [vI 0] _ _ _
        refine st_if_eq (tgt := 35) C dX5_isRule_23 (by decide) (fun c_23 => ?_) (fun c_23 => by omega)
        refine st_iconst C dX5_isRule_35 (by decide) ?_
        exact st_zreturn C F dX5_isRule_36 rfl (by omega) (rt_i (by unfold RuleOk at hP; omega) rfl) (by omega) (by omega)
    · refine st_callSN (st := []) C dX5_isRule_13 [vI a9] (k_isLayer_f (v9 := a9)  b_13) (fun _ _ q => by cases q.1) w_X5_22 rfl (by decide) (by decide) (by omega) (by omega) (Nat.le_of_ble_eq_true rfl) (ko_rt ?_)
      show T x 16 [(0, vI k9), (1, vI a9), (2, vI b9)] [vI 0] _ _ _
      refine st_if_eq (tgt := 35) C dX5_isRule_16 (by decide) (fun c_16 => ?_) (fun c_16 => by omega)
      refine st_iconst C dX5_isRule_35 (by decide) ?_
      exact st_zreturn C F dX5_isRule_36 rfl (by omega) (rt_i (by unfold RuleOk at hP; omega) rfl) (by omega) (by omega)
  · refine st_iload_n C 0 dX5_isRule_6 rfl rfl ?_
    refine st_bipush C dX5_isRule_7 (by decide) (by decide) ?_
    refine st_icmp_ne (tgt := 37) C dX5_isRule_9 (by decide) (fun c_9 => ?_) (fun c_9 => ?_)
    · refine st_iload_n C 0 dX5_isRule_37 rfl rfl ?_
      refine st_bipush C dX5_isRule_38 (by decide) (by decide) ?_
      refine st_icmp_eq (tgt := 49) C dX5_isRule_40 (by decide) (fun c_40 => ?_) (fun c_40 => ?_)
      · refine st_iload_n C 1 dX5_isRule_49 rfl rfl ?_
        by_cases b_50 : 0 ≤ a9 ∧ a9 ≤ 2
        · refine st_callSN (st := []) C dX5_isRule_50 [vI a9] (k_isLayer_t (v9 := a9)  b_50) (fun _ _ q => by cases q.1) w_X5_22 rfl (by decide) (by decide) (by omega) (by omega) (Nat.le_of_ble_eq_true rfl) (ko_rt ?_)
          show T x 53 [(0, vI k9), (1, vI a9), (2, vI b9)] [vI 1] _ _ _
          exact st_zreturn C F dX5_isRule_53 rfl (by omega) (rt_i (by unfold RuleOk at hP; omega) rfl) (by omega) (by omega)
        · refine st_callSN (st := []) C dX5_isRule_50 [vI a9] (k_isLayer_f (v9 := a9)  b_50) (fun _ _ q => by cases q.1) w_X5_22 rfl (by decide) (by decide) (by omega) (by omega) (Nat.le_of_ble_eq_true rfl) (ko_rt ?_)
          show T x 53 [(0, vI k9), (1, vI a9), (2, vI b9)] [vI 0] _ _ _
          exact st_zreturn C F dX5_isRule_53 rfl (by omega) (rt_i (by unfold RuleOk at hP; omega) rfl) (by omega) (by omega)
      · refine st_iload_n C 0 dX5_isRule_43 rfl rfl ?_
        refine st_bipush C dX5_isRule_44 (by decide) (by decide) ?_
        refine st_icmp_ne (tgt := 54) C dX5_isRule_46 (by decide) (fun c_46 => ?_) (fun c_46 => ?_)
        · refine st_iload_n C 0 dX5_isRule_54 rfl rfl ?_
          refine st_bipush C dX5_isRule_55 (by decide) (by decide) ?_
          refine st_icmp_ne (tgt := 64) C dX5_isRule_57 (by decide) (fun c_57 => ?_) (fun c_57 => ?_)
          · refine st_iconst C dX5_isRule_64 (by decide) ?_
            exact st_zreturn C F dX5_isRule_65 rfl (by omega) (rt_i (by unfold RuleOk at hP; omega) rfl) (by omega) (by omega)
          · refine st_iconst C dX5_isRule_60 (by decide) ?_
            refine st_goto (tgt := 65) C dX5_isRule_61 (by decide) ?_
            exact st_zreturn C F dX5_isRule_65 rfl (by omega) (rt_i (by unfold RuleOk at hP; omega) rfl) (by omega) (by omega)
        · refine st_iload_n C 1 dX5_isRule_49 rfl rfl ?_
          by_cases b_50 : 0 ≤ a9 ∧ a9 ≤ 2
          · refine st_callSN (st := []) C dX5_isRule_50 [vI a9] (k_isLayer_t (v9 := a9)  b_50) (fun _ _ q => by cases q.1) w_X5_22 rfl (by decide) (by decide) (by omega) (by omega) (Nat.le_of_ble_eq_true rfl) (ko_rt ?_)
            show T x 53 [(0, vI k9), (1, vI a9), (2, vI b9)] [vI 1] _ _ _
            exact st_zreturn C F dX5_isRule_53 rfl (by omega) (rt_i (by unfold RuleOk at hP; omega) rfl) (by omega) (by omega)
          · refine st_callSN (st := []) C dX5_isRule_50 [vI a9] (k_isLayer_f (v9 := a9)  b_50) (fun _ _ q => by cases q.1) w_X5_22 rfl (by decide) (by decide) (by omega) (by omega) (Nat.le_of_ble_eq_true rfl) (ko_rt ?_)
            show T x 53 [(0, vI k9), (1, vI a9), (2, vI b9)] [vI 0] _ _ _
            exact st_zreturn C F dX5_isRule_53 rfl (by omega) (rt_i (by unfold RuleOk at hP; omega) rfl) (by omega) (by omega)
    · refine st_iload_n C 1 dX5_isRule_12 rfl rfl ?_
      by_cases b_13 : 0 ≤ a9 ∧ a9 ≤ 2
      · refine st_callSN (st := []) C dX5_isRule_13 [vI a9] (k_isLayer_t (v9 := a9)  b_13) (fun _ _ q => by cases q.1) w_X5_22 rfl (by decide) (by decide) (by omega) (by omega) (Nat.le_of_ble_eq_true rfl) (ko_rt ?_)
        show T x 16 [(0, vI k9), (1, vI a9), (2, vI b9)] [vI 1] _ _ _
        refine st_if_eq (tgt := 35) C dX5_isRule_16 (by decide) (fun c_16 => by omega) (fun c_16 => ?_)
        refine st_iload_n C 2 dX5_isRule_19 rfl rfl ?_
        by_cases b_20 : 0 ≤ b9 ∧ b9 ≤ 2
        · refine st_callSN (st := []) C dX5_isRule_20 [vI b9] (k_isLayer_t (v9 := b9)  b_20) (fun _ _ q => by cases q.1) w_X5_22 rfl (by decide) (by decide) (by omega) (by omega) (Nat.le_of_ble_eq_true rfl) (ko_rt ?_)
          show T x 23 [(0, vI k9), (1, vI a9), (2, vI b9)] [vI 1] _ _ _
          refine st_if_eq (tgt := 35) C dX5_isRule_23 (by decide) (fun c_23 => by omega) (fun c_23 => ?_)
          refine st_iload_n C 1 dX5_isRule_26 rfl rfl ?_
          refine st_iload_n C 2 dX5_isRule_27 rfl rfl ?_
          refine st_icmp_eq (tgt := 35) C dX5_isRule_28 (by decide) (fun c_28 => ?_) (fun c_28 => ?_)
          · refine st_iconst C dX5_isRule_35 (by decide) ?_
            exact st_zreturn C F dX5_isRule_36 rfl (by omega) (rt_i (by unfold RuleOk at hP; omega) rfl) (by omega) (by omega)
          · refine st_iconst C dX5_isRule_31 (by decide) ?_
            refine st_goto (tgt := 36) C dX5_isRule_32 (by decide) ?_
            exact st_zreturn C F dX5_isRule_36 rfl (by omega) (rt_i (by unfold RuleOk at hP; omega) rfl) (by omega) (by omega)
        · refine st_callSN (st := []) C dX5_isRule_20 [vI b9] (k_isLayer_f (v9 := b9)  b_20) (fun _ _ q => by cases q.1) w_X5_22 rfl (by decide) (by decide) (by omega) (by omega) (Nat.le_of_ble_eq_true rfl) (ko_rt ?_)
          show T x 23 [(0, vI k9), (1, vI a9), (2, vI b9)] [vI 0] _ _ _
          refine st_if_eq (tgt := 35) C dX5_isRule_23 (by decide) (fun c_23 => ?_) (fun c_23 => by omega)
          refine st_iconst C dX5_isRule_35 (by decide) ?_
          exact st_zreturn C F dX5_isRule_36 rfl (by omega) (rt_i (by unfold RuleOk at hP; omega) rfl) (by omega) (by omega)
      · refine st_callSN (st := []) C dX5_isRule_13 [vI a9] (k_isLayer_f (v9 := a9)  b_13) (fun _ _ q => by cases q.1) w_X5_22 rfl (by decide) (by decide) (by omega) (by omega) (Nat.le_of_ble_eq_true rfl) (ko_rt ?_)
        show T x 16 [(0, vI k9), (1, vI a9), (2, vI b9)] [vI 0] _ _ _
        refine st_if_eq (tgt := 35) C dX5_isRule_16 (by decide) (fun c_16 => ?_) (fun c_16 => by omega)
        refine st_iconst C dX5_isRule_35 (by decide) ?_
        exact st_zreturn C F dX5_isRule_36 rfl (by omega) (rt_i (by unfold RuleOk at hP; omega) rfl) (by omega) (by omega)
set_option maxRecDepth 20000 in
set_option maxHeartbeats 4000000 in
theorem k_isRule_f {g : Gx} {h : HP} {k9 a9 b9 : Int} (hP : ¬ RuleOk k9 a9 b9) : Ct g yX5_isRule (.code yX5_isRule cX5_isRule 3 (some .boolean)) 3 0 0 [vI k9, vI a9, vI b9] h (Rt (some (vI 0)) h) := by
  refine Ct.of (by decide) (Nat.le_of_ble_eq_true rfl) (fun x hg C F => ?_)
  subst hg
  show T x 0 [(0, vI k9), (1, vI a9), (2, vI b9)] [] h 0 0
  refine st_iload_n C 0 dX5_isRule_0 rfl rfl ?_
  refine st_bipush C dX5_isRule_1 (by decide) (by decide) ?_
  refine st_icmp_eq (tgt := 12) C dX5_isRule_3 (by decide) (fun c_3 => ?_) (fun c_3 => ?_)
  · refine st_iload_n C 1 dX5_isRule_12 rfl rfl ?_
    by_cases b_13 : 0 ≤ a9 ∧ a9 ≤ 2
    · refine st_callSN (st := []) C dX5_isRule_13 [vI a9] (k_isLayer_t (v9 := a9)  b_13) (fun _ _ q => by cases q.1) w_X5_22 rfl (by decide) (by decide) (by omega) (by omega) (Nat.le_of_ble_eq_true rfl) (ko_rt ?_)
      show T x 16 [(0, vI k9), (1, vI a9), (2, vI b9)] [vI 1] _ _ _
      refine st_if_eq (tgt := 35) C dX5_isRule_16 (by decide) (fun c_16 => by omega) (fun c_16 => ?_)
      refine st_iload_n C 2 dX5_isRule_19 rfl rfl ?_
      by_cases b_20 : 0 ≤ b9 ∧ b9 ≤ 2
      · refine st_callSN (st := []) C dX5_isRule_20 [vI b9] (k_isLayer_t (v9 := b9)  b_20) (fun _ _ q => by cases q.1) w_X5_22 rfl (by decide) (by decide) (by omega) (by omega) (Nat.le_of_ble_eq_true rfl) (ko_rt ?_)
        show T x 23 [(0, vI k9), (1, vI a9), (2, vI b9)] [vI 1] _ _ _
        refine st_if_eq (tgt := 35) C dX5_isRule_23 (by decide) (fun c_23 => by omega) (fun c_23 => ?_)
        refine st_iload_n C 1 dX5_isRule_26 rfl rfl ?_
        refine st_iload_n C 2 dX5_isRule_27 rfl rfl ?_
        refine st_icmp_eq (tgt := 35) C dX5_isRule_28 (by decide) (fun c_28 => ?_) (fun c_28 => ?_)
        · refine st_iconst C dX5_isRule_35 (by decide) ?_
          exact st_zreturn C F dX5_isRule_36 rfl (by omega) (rt_i (by unfold RuleOk at hP; omega) rfl) (by omega) (by omega)
        · refine st_iconst C dX5_isRule_31 (by decide) ?_
          refine st_goto (tgt := 36) C dX5_isRule_32 (by decide) ?_
          exact st_zreturn C F dX5_isRule_36 rfl (by omega) (rt_i (by unfold RuleOk at hP; omega) rfl) (by omega) (by omega)
      · refine st_callSN (st := []) C dX5_isRule_20 [vI b9] (k_isLayer_f (v9 := b9)  b_20) (fun _ _ q => by cases q.1) w_X5_22 rfl (by decide) (by decide) (by omega) (by omega) (Nat.le_of_ble_eq_true rfl) (ko_rt ?_)
        show T x 23 [(0, vI k9), (1, vI a9), (2, vI b9)] [vI 0] _ _ _
        refine st_if_eq (tgt := 35) C dX5_isRule_23 (by decide) (fun c_23 => ?_) (fun c_23 => by omega)
        refine st_iconst C dX5_isRule_35 (by decide) ?_
        exact st_zreturn C F dX5_isRule_36 rfl (by omega) (rt_i (by unfold RuleOk at hP; omega) rfl) (by omega) (by omega)
    · refine st_callSN (st := []) C dX5_isRule_13 [vI a9] (k_isLayer_f (v9 := a9)  b_13) (fun _ _ q => by cases q.1) w_X5_22 rfl (by decide) (by decide) (by omega) (by omega) (Nat.le_of_ble_eq_true rfl) (ko_rt ?_)
      show T x 16 [(0, vI k9), (1, vI a9), (2, vI b9)] [vI 0] _ _ _
      refine st_if_eq (tgt := 35) C dX5_isRule_16 (by decide) (fun c_16 => ?_) (fun c_16 => by omega)
      refine st_iconst C dX5_isRule_35 (by decide) ?_
      exact st_zreturn C F dX5_isRule_36 rfl (by omega) (rt_i (by unfold RuleOk at hP; omega) rfl) (by omega) (by omega)
  · refine st_iload_n C 0 dX5_isRule_6 rfl rfl ?_
    refine st_bipush C dX5_isRule_7 (by decide) (by decide) ?_
    refine st_icmp_ne (tgt := 37) C dX5_isRule_9 (by decide) (fun c_9 => ?_) (fun c_9 => ?_)
    · refine st_iload_n C 0 dX5_isRule_37 rfl rfl ?_
      refine st_bipush C dX5_isRule_38 (by decide) (by decide) ?_
      refine st_icmp_eq (tgt := 49) C dX5_isRule_40 (by decide) (fun c_40 => ?_) (fun c_40 => ?_)
      · refine st_iload_n C 1 dX5_isRule_49 rfl rfl ?_
        by_cases b_50 : 0 ≤ a9 ∧ a9 ≤ 2
        · refine st_callSN (st := []) C dX5_isRule_50 [vI a9] (k_isLayer_t (v9 := a9)  b_50) (fun _ _ q => by cases q.1) w_X5_22 rfl (by decide) (by decide) (by omega) (by omega) (Nat.le_of_ble_eq_true rfl) (ko_rt ?_)
          show T x 53 [(0, vI k9), (1, vI a9), (2, vI b9)] [vI 1] _ _ _
          exact st_zreturn C F dX5_isRule_53 rfl (by omega) (rt_i (by unfold RuleOk at hP; omega) rfl) (by omega) (by omega)
        · refine st_callSN (st := []) C dX5_isRule_50 [vI a9] (k_isLayer_f (v9 := a9)  b_50) (fun _ _ q => by cases q.1) w_X5_22 rfl (by decide) (by decide) (by omega) (by omega) (Nat.le_of_ble_eq_true rfl) (ko_rt ?_)
          show T x 53 [(0, vI k9), (1, vI a9), (2, vI b9)] [vI 0] _ _ _
          exact st_zreturn C F dX5_isRule_53 rfl (by omega) (rt_i (by unfold RuleOk at hP; omega) rfl) (by omega) (by omega)
      · refine st_iload_n C 0 dX5_isRule_43 rfl rfl ?_
        refine st_bipush C dX5_isRule_44 (by decide) (by decide) ?_
        refine st_icmp_ne (tgt := 54) C dX5_isRule_46 (by decide) (fun c_46 => ?_) (fun c_46 => ?_)
        · refine st_iload_n C 0 dX5_isRule_54 rfl rfl ?_
          refine st_bipush C dX5_isRule_55 (by decide) (by decide) ?_
          refine st_icmp_ne (tgt := 64) C dX5_isRule_57 (by decide) (fun c_57 => ?_) (fun c_57 => ?_)
          · refine st_iconst C dX5_isRule_64 (by decide) ?_
            exact st_zreturn C F dX5_isRule_65 rfl (by omega) (rt_i (by unfold RuleOk at hP; omega) rfl) (by omega) (by omega)
          · refine st_iconst C dX5_isRule_60 (by decide) ?_
            refine st_goto (tgt := 65) C dX5_isRule_61 (by decide) ?_
            exact st_zreturn C F dX5_isRule_65 rfl (by omega) (rt_i (by unfold RuleOk at hP; omega) rfl) (by omega) (by omega)
        · refine st_iload_n C 1 dX5_isRule_49 rfl rfl ?_
          by_cases b_50 : 0 ≤ a9 ∧ a9 ≤ 2
          · refine st_callSN (st := []) C dX5_isRule_50 [vI a9] (k_isLayer_t (v9 := a9)  b_50) (fun _ _ q => by cases q.1) w_X5_22 rfl (by decide) (by decide) (by omega) (by omega) (Nat.le_of_ble_eq_true rfl) (ko_rt ?_)
            show T x 53 [(0, vI k9), (1, vI a9), (2, vI b9)] [vI 1] _ _ _
            exact st_zreturn C F dX5_isRule_53 rfl (by omega) (rt_i (by unfold RuleOk at hP; omega) rfl) (by omega) (by omega)
          · refine st_callSN (st := []) C dX5_isRule_50 [vI a9] (k_isLayer_f (v9 := a9)  b_50) (fun _ _ q => by cases q.1) w_X5_22 rfl (by decide) (by decide) (by omega) (by omega) (Nat.le_of_ble_eq_true rfl) (ko_rt ?_)
            show T x 53 [(0, vI k9), (1, vI a9), (2, vI b9)] [vI 0] _ _ _
            exact st_zreturn C F dX5_isRule_53 rfl (by omega) (rt_i (by unfold RuleOk at hP; omega) rfl) (by omega) (by omega)
    · refine st_iload_n C 1 dX5_isRule_12 rfl rfl ?_
      by_cases b_13 : 0 ≤ a9 ∧ a9 ≤ 2
      · refine st_callSN (st := []) C dX5_isRule_13 [vI a9] (k_isLayer_t (v9 := a9)  b_13) (fun _ _ q => by cases q.1) w_X5_22 rfl (by decide) (by decide) (by omega) (by omega) (Nat.le_of_ble_eq_true rfl) (ko_rt ?_)
        show T x 16 [(0, vI k9), (1, vI a9), (2, vI b9)] [vI 1] _ _ _
        refine st_if_eq (tgt := 35) C dX5_isRule_16 (by decide) (fun c_16 => by omega) (fun c_16 => ?_)
        refine st_iload_n C 2 dX5_isRule_19 rfl rfl ?_
        by_cases b_20 : 0 ≤ b9 ∧ b9 ≤ 2
        · refine st_callSN (st := []) C dX5_isRule_20 [vI b9] (k_isLayer_t (v9 := b9)  b_20) (fun _ _ q => by cases q.1) w_X5_22 rfl (by decide) (by decide) (by omega) (by omega) (Nat.le_of_ble_eq_true rfl) (ko_rt ?_)
          show T x 23 [(0, vI k9), (1, vI a9), (2, vI b9)] [vI 1] _ _ _
          refine st_if_eq (tgt := 35) C dX5_isRule_23 (by decide) (fun c_23 => by omega) (fun c_23 => ?_)
          refine st_iload_n C 1 dX5_isRule_26 rfl rfl ?_
          refine st_iload_n C 2 dX5_isRule_27 rfl rfl ?_
          refine st_icmp_eq (tgt := 35) C dX5_isRule_28 (by decide) (fun c_28 => ?_) (fun c_28 => ?_)
          · refine st_iconst C dX5_isRule_35 (by decide) ?_
            exact st_zreturn C F dX5_isRule_36 rfl (by omega) (rt_i (by unfold RuleOk at hP; omega) rfl) (by omega) (by omega)
          · refine st_iconst C dX5_isRule_31 (by decide) ?_
            refine st_goto (tgt := 36) C dX5_isRule_32 (by decide) ?_
            exact st_zreturn C F dX5_isRule_36 rfl (by omega) (rt_i (by unfold RuleOk at hP; omega) rfl) (by omega) (by omega)
        · refine st_callSN (st := []) C dX5_isRule_20 [vI b9] (k_isLayer_f (v9 := b9)  b_20) (fun _ _ q => by cases q.1) w_X5_22 rfl (by decide) (by decide) (by omega) (by omega) (Nat.le_of_ble_eq_true rfl) (ko_rt ?_)
          show T x 23 [(0, vI k9), (1, vI a9), (2, vI b9)] [vI 0] _ _ _
          refine st_if_eq (tgt := 35) C dX5_isRule_23 (by decide) (fun c_23 => ?_) (fun c_23 => by omega)
          refine st_iconst C dX5_isRule_35 (by decide) ?_
          exact st_zreturn C F dX5_isRule_36 rfl (by omega) (rt_i (by unfold RuleOk at hP; omega) rfl) (by omega) (by omega)
      · refine st_callSN (st := []) C dX5_isRule_13 [vI a9] (k_isLayer_f (v9 := a9)  b_13) (fun _ _ q => by cases q.1) w_X5_22 rfl (by decide) (by decide) (by omega) (by omega) (Nat.le_of_ble_eq_true rfl) (ko_rt ?_)
        show T x 16 [(0, vI k9), (1, vI a9), (2, vI b9)] [vI 0] _ _ _
        refine st_if_eq (tgt := 35) C dX5_isRule_16 (by decide) (fun c_16 => ?_) (fun c_16 => by omega)
        refine st_iconst C dX5_isRule_35 (by decide) ?_
        exact st_zreturn C F dX5_isRule_36 rfl (by omega) (rt_i (by unfold RuleOk at hP; omega) rfl) (by omega) (by omega)
set_option maxRecDepth 20000 in
set_option maxHeartbeats 4000000 in
theorem k_roadsAt {g : Gx} {h : HP}  {r : Nat} {rf : Int → Int} {p9 : Int}  (hr : h r = some (oI 304 rf)) (hp : 0 ≤ p9 ∧ p9 ≤ 63) : Ct g yX5_roadsAt (.code yX5_roadsAt cX5_roadsAt 5 (some .int)) 3 0 0 [vR r, vI p9] h (Rt (some (vI (rdN rf p9))) h) := by
  refine Ct.of (by decide) (Nat.le_of_ble_eq_true rfl) (fun x hg C F => ?_)
  subst hg
  show T x 0 [(0, vR r), (1, vI p9)] [] h 0 0
  refine st_iconst C dX5_roadsAt_0 (by decide) ?_
  refine st_istore_n C 2 dX5_roadsAt_1 rfl (by decide) rfl ?_
  show T x 2 [(0, vR r), (1, vI p9), (2, vI 0)] [] _ _ _
  refine st_iconst C dX5_roadsAt_2 (by decide) ?_
  refine st_istore_n C 3 dX5_roadsAt_3 rfl (by decide) rfl ?_
  show T x 4 [(0, vR r), (1, vI p9), (2, vI 0), (3, vI 0)] [] _ _ _
  have loop_4 : ∀ (n_4 : Nat) (c1 : Int) (i : Int), (0 ≤ i) → (i ≤ 4) → (0 ≤ c1 ∧ c1 ≤ i) → (c1 = cnt (fun d => besid p9 d ≠ -1 ∧ RoadB rf p9 (besid p9 d)) i) → (4 - i).toNat < n_4 → T x 4 [(0, vR r), (1, vI p9), (2, vI c1), (3, vI i)] [] h 0 0 := by
    intro n_4
    induction n_4 with
    | zero => intro c1 i g1 g2 g3 g4 hm_4; exact absurd hm_4 (Nat.not_lt_zero _)
    | succ n_4 ih_4 =>
      intro c1 i g1 g2 g3 g4 hm_4
      have fb := besid_in (d := i) hp
      refine st_iload_n C 3 dX5_roadsAt_4 rfl rfl ?_
      refine st_iconst C dX5_roadsAt_5 (by decide) ?_
      refine st_icmp_ge (tgt := 41) C dX5_roadsAt_6 (by decide) (fun c_6 => ?_) (fun c_6 => ?_)
      · refine st_iload_n C 2 dX5_roadsAt_41 rfl rfl ?_
        exact st_ireturn C F dX5_roadsAt_42 rfl (rt_i (cntE g4 (by omega)) rfl) (by omega) (by omega)
      · refine st_iload_n C 1 dX5_roadsAt_9 rfl rfl ?_
        refine st_iload_n C 3 dX5_roadsAt_10 rfl rfl ?_
        refine st_callS (st := []) C dX5_roadsAt_11 [vI p9, vI i] (k_beside (p := p9) (d := i) (by omega) (by omega)) w_X5_50 rfl (by decide) (by decide) (by omega) (by omega) (Nat.le_of_ble_eq_true rfl) (ko_rt ?_)
        show T x 14 [(0, vR r), (1, vI p9), (2, vI c1), (3, vI i)] [vI (besid p9 i)] _ _ _
        refine st_istore C dX5_roadsAt_14 (by decide) rfl ?_
        show T x 16 [(0, vR r), (1, vI p9), (2, vI c1), (3, vI i), (4, vI (besid p9 i))] [] _ _ _
        refine st_iload C dX5_roadsAt_16 rfl ?_
        refine st_iconst C dX5_roadsAt_18 (by decide) ?_
        refine st_icmp_eq (tgt := 35) C dX5_roadsAt_19 (by decide) (fun c_19 => ?_) (fun c_19 => ?_)
        · refine st_iinc C dX5_roadsAt_35 rfl (by decide) rfl ⟨(by omega), (by omega)⟩ ?_
          show T x 38 [(0, vR r), (1, vI p9), (2, vI c1), (3, vI (i + 1)), (4, vI (besid p9 i))] [] _ _ _
          refine st_goto (tgt := 4) C dX5_roadsAt_38 (by decide) ?_
          refine st_sub [0, 1, 2, 3] rfl ?_
          exact ih_4 c1 (i + 1) (by omega) (by omega) (by omega) (by first | exact cnt_t g1 ⟨by assumption, by assumption⟩ g4 | exact cnt_f g1 (fun z9 => by first | exact z9.1 (by assumption) | exact absurd z9.2 (by assumption)) g4) (by omega)
        · refine st_aload_n C 0 dX5_roadsAt_22 rfl rfl ?_
          refine st_iload_n C 1 dX5_roadsAt_23 rfl rfl ?_
          refine st_iload C dX5_roadsAt_24 rfl ?_
          by_cases b_26 : RoadB rf p9 (besid p9 i)
          · refine st_callS (st := []) C dX5_roadsAt_26 [vR r, vI p9, vI (besid p9 i)] (k_isRoadBetween_t (f := rf) (p := p9) (q := (besid p9 i)) hr (by omega) (by omega) b_26) w_X5_54 rfl (by decide) (by decide) (by omega) (by omega) (Nat.le_of_ble_eq_true rfl) (ko_rt ?_)
            show T x 29 [(0, vR r), (1, vI p9), (2, vI c1), (3, vI i), (4, vI (besid p9 i))] [vI 1] _ _ _
            refine st_if_eq (tgt := 35) C dX5_roadsAt_29 (by decide) (fun c_29 => by omega) (fun c_29 => ?_)
            refine st_iinc C dX5_roadsAt_32 rfl (by decide) rfl ⟨(by omega), (by omega)⟩ ?_
            show T x 35 [(0, vR r), (1, vI p9), (2, vI (c1 + 1)), (3, vI i), (4, vI (besid p9 i))] [] _ _ _
            refine st_iinc C dX5_roadsAt_35 rfl (by decide) rfl ⟨(by omega), (by omega)⟩ ?_
            show T x 38 [(0, vR r), (1, vI p9), (2, vI (c1 + 1)), (3, vI (i + 1)), (4, vI (besid p9 i))] [] _ _ _
            refine st_goto (tgt := 4) C dX5_roadsAt_38 (by decide) ?_
            refine st_sub [0, 1, 2, 3] rfl ?_
            exact ih_4 (c1 + 1) (i + 1) (by omega) (by omega) (by omega) (by first | exact cnt_t g1 ⟨by assumption, by assumption⟩ g4 | exact cnt_f g1 (fun z9 => by first | exact z9.1 (by assumption) | exact absurd z9.2 (by assumption)) g4) (by omega)
          · refine st_callS (st := []) C dX5_roadsAt_26 [vR r, vI p9, vI (besid p9 i)] (k_isRoadBetween_f (f := rf) (p := p9) (q := (besid p9 i)) hr (by omega) (by omega) b_26) w_X5_54 rfl (by decide) (by decide) (by omega) (by omega) (Nat.le_of_ble_eq_true rfl) (ko_rt ?_)
            show T x 29 [(0, vR r), (1, vI p9), (2, vI c1), (3, vI i), (4, vI (besid p9 i))] [vI 0] _ _ _
            refine st_if_eq (tgt := 35) C dX5_roadsAt_29 (by decide) (fun c_29 => ?_) (fun c_29 => by omega)
            refine st_iinc C dX5_roadsAt_35 rfl (by decide) rfl ⟨(by omega), (by omega)⟩ ?_
            show T x 38 [(0, vR r), (1, vI p9), (2, vI c1), (3, vI (i + 1)), (4, vI (besid p9 i))] [] _ _ _
            refine st_goto (tgt := 4) C dX5_roadsAt_38 (by decide) ?_
            refine st_sub [0, 1, 2, 3] rfl ?_
            exact ih_4 c1 (i + 1) (by omega) (by omega) (by omega) (by first | exact cnt_t g1 ⟨by assumption, by assumption⟩ g4 | exact cnt_f g1 (fun z9 => by first | exact z9.1 (by assumption) | exact absurd z9.2 (by assumption)) g4) (by omega)
  exact loop_4 _ 0 0 (by omega) (by omega) (by omega) (cnt_0) (Nat.lt_succ_self _)
set_option maxRecDepth 20000 in
set_option maxHeartbeats 4000000 in
theorem k_isEnclosed_t {g : Gx} {h : HP} {k : Nat} {a9 b9 : Int} {r : Nat} {rf : Int → Int} {k9 p9 : Int} (hk : h k = some (oO 4 [vI k9, vI a9, vI b9])) (hr : h r = some (oI 304 rf)) (hp : 0 ≤ p9 ∧ p9 ≤ 63) (ha : 0 ≤ a9 ∧ a9 ≤ 2) (hP : Encl rf a9 p9) : Ct g yX5_isEnclosed (.code yX5_isEnclosed cX5_isEnclosed 5 (some .boolean)) 2 0 0 [vR k, vR r, vI p9] h (Rt (some (vI 1)) h) := by
  refine Ct.of (by decide) (Nat.le_of_ble_eq_true rfl) (fun x hg C F => ?_)
  subst hg
  show T x 0 [(0, vR k), (1, vR r), (2, vI p9)] [] h 0 0
  refine st_iconst C dX5_isEnclosed_0 (by decide) ?_
  refine st_istore_n C 3 dX5_isEnclosed_1 rfl (by decide) rfl ?_
  show T x 2 [(0, vR k), (1, vR r), (2, vI p9), (3, vI 0)] [] _ _ _
  have loop_2 : ∀ (n_2 : Nat) (i : Int), (0 ≤ i) → (i ≤ 4) → (∀ d, 0 ≤ d → d < i → besid p9 d ≠ -1 → rf (64 * a9 + besid p9 d) ≠ 0) → (4 - i).toNat < n_2 → T x 2 [(0, vR k), (1, vR r), (2, vI p9), (3, vI i)] [] h 0 0 := by
    intro n_2
    induction n_2 with
    | zero => intro i g1 g2 g3 hm_2; exact absurd hm_2 (Nat.not_lt_zero _)
    | succ n_2 ih_2 =>
      intro i g1 g2 g3 hm_2
      have fb := besid_in (d := i) hp
      refine st_iload_n C 3 dX5_isEnclosed_2 rfl rfl ?_
      refine st_iconst C dX5_isEnclosed_3 (by decide) ?_
      refine st_icmp_ge (tgt := 41) C dX5_isEnclosed_4 (by decide) (fun c_4 => ?_) (fun c_4 => ?_)
      · refine st_iconst C dX5_isEnclosed_41 (by decide) ?_
        exact st_zreturn C F dX5_isEnclosed_42 rfl (by omega) (rt_i (by first | rfl | exact absurd (by assumption) (hP i g1 (by omega) (by assumption))) rfl) (by omega) (by omega)
      · refine st_iload_n C 2 dX5_isEnclosed_7 rfl rfl ?_
        refine st_iload_n C 3 dX5_isEnclosed_8 rfl rfl ?_
        refine st_callS (st := []) C dX5_isEnclosed_9 [vI p9, vI i] (k_beside (p := p9) (d := i) (by omega) (by omega)) w_X5_50 rfl (by decide) (by decide) (by omega) (by omega) (Nat.le_of_ble_eq_true rfl) (ko_rt ?_)
        show T x 12 [(0, vR k), (1, vR r), (2, vI p9), (3, vI i)] [vI (besid p9 i)] _ _ _
        refine st_istore C dX5_isEnclosed_12 (by decide) rfl ?_
        show T x 14 [(0, vR k), (1, vR r), (2, vI p9), (3, vI i), (4, vI (besid p9 i))] [] _ _ _
        refine st_iload C dX5_isEnclosed_14 rfl ?_
        refine st_iconst C dX5_isEnclosed_16 (by decide) ?_
        refine st_icmp_eq (tgt := 35) C dX5_isEnclosed_17 (by decide) (fun c_17 => ?_) (fun c_17 => ?_)
        · refine st_iinc C dX5_isEnclosed_35 rfl (by decide) rfl ⟨(by omega), (by omega)⟩ ?_
          show T x 38 [(0, vR k), (1, vR r), (2, vI p9), (3, vI (i + 1)), (4, vI (besid p9 i))] [] _ _ _
          refine st_goto (tgt := 2) C dX5_isEnclosed_38 (by decide) ?_
          refine st_sub [0, 1, 2, 3] rfl ?_
          exact ih_2 (i + 1) (by omega) (by omega) (encl_t g3 (fun z9 => by first | assumption | exact absurd (by assumption) z9)) (by omega)
        · refine st_aload_n C 1 dX5_isEnclosed_20 rfl rfl ?_
          refine st_aload_n C 0 dX5_isEnclosed_21 rfl rfl ?_
          refine st_getf C dX5_isEnclosed_22 fl_X5_15 hk rfl ?_
          refine st_iload C dX5_isEnclosed_25 rfl ?_
          refine st_callS (st := []) C dX5_isEnclosed_27 [vR r, vI a9, vI (besid p9 i)] (k_areaAt (f := rf) (l := a9) (p := (besid p9 i)) hr (by omega) (by omega)) w_X5_43 rfl (by decide) (by decide) (by omega) (by omega) (Nat.le_of_ble_eq_true rfl) (ko_rt ?_)
          show T x 30 [(0, vR k), (1, vR r), (2, vI p9), (3, vI i), (4, vI (besid p9 i))] [vI (rf (64 * a9 + (besid p9 i)))] _ _ _
          refine st_if_ne (tgt := 35) C dX5_isEnclosed_30 (by decide) (fun c_30 => ?_) (fun c_30 => ?_)
          · refine st_iinc C dX5_isEnclosed_35 rfl (by decide) rfl ⟨(by omega), (by omega)⟩ ?_
            show T x 38 [(0, vR k), (1, vR r), (2, vI p9), (3, vI (i + 1)), (4, vI (besid p9 i))] [] _ _ _
            refine st_goto (tgt := 2) C dX5_isEnclosed_38 (by decide) ?_
            refine st_sub [0, 1, 2, 3] rfl ?_
            exact ih_2 (i + 1) (by omega) (by omega) (encl_t g3 (fun z9 => by first | assumption | exact absurd (by assumption) z9)) (by omega)
          · refine st_iconst C dX5_isEnclosed_33 (by decide) ?_
            exact st_zreturn C F dX5_isEnclosed_34 rfl (by omega) (rt_i (by first | rfl | exact absurd (by assumption) (hP i g1 (by omega) (by assumption))) rfl) (by omega) (by omega)
  exact loop_2 _ 0 (by omega) (by omega) (fun d q1 q2 => absurd q2 (by omega)) (Nat.lt_succ_self _)
set_option maxRecDepth 20000 in
set_option maxHeartbeats 4000000 in
theorem k_isEnclosed_f {g : Gx} {h : HP} {k : Nat} {a9 b9 : Int} {r : Nat} {rf : Int → Int} {k9 p9 : Int} (hk : h k = some (oO 4 [vI k9, vI a9, vI b9])) (hr : h r = some (oI 304 rf)) (hp : 0 ≤ p9 ∧ p9 ≤ 63) (ha : 0 ≤ a9 ∧ a9 ≤ 2) (hP : ¬ Encl rf a9 p9) : Ct g yX5_isEnclosed (.code yX5_isEnclosed cX5_isEnclosed 5 (some .boolean)) 2 0 0 [vR k, vR r, vI p9] h (Rt (some (vI 0)) h) := by
  refine Ct.of (by decide) (Nat.le_of_ble_eq_true rfl) (fun x hg C F => ?_)
  subst hg
  show T x 0 [(0, vR k), (1, vR r), (2, vI p9)] [] h 0 0
  refine st_iconst C dX5_isEnclosed_0 (by decide) ?_
  refine st_istore_n C 3 dX5_isEnclosed_1 rfl (by decide) rfl ?_
  show T x 2 [(0, vR k), (1, vR r), (2, vI p9), (3, vI 0)] [] _ _ _
  have loop_2 : ∀ (n_2 : Nat) (i : Int), (0 ≤ i) → (i ≤ 4) → (∀ d, 0 ≤ d → d < i → besid p9 d ≠ -1 → rf (64 * a9 + besid p9 d) ≠ 0) → (4 - i).toNat < n_2 → T x 2 [(0, vR k), (1, vR r), (2, vI p9), (3, vI i)] [] h 0 0 := by
    intro n_2
    induction n_2 with
    | zero => intro i g1 g2 g3 hm_2; exact absurd hm_2 (Nat.not_lt_zero _)
    | succ n_2 ih_2 =>
      intro i g1 g2 g3 hm_2
      have fb := besid_in (d := i) hp
      refine st_iload_n C 3 dX5_isEnclosed_2 rfl rfl ?_
      refine st_iconst C dX5_isEnclosed_3 (by decide) ?_
      refine st_icmp_ge (tgt := 41) C dX5_isEnclosed_4 (by decide) (fun c_4 => ?_) (fun c_4 => ?_)
      · refine st_iconst C dX5_isEnclosed_41 (by decide) ?_
        exact st_zreturn C F dX5_isEnclosed_42 rfl (by omega) (rt_i (by first | rfl | exact absurd (fun d q1 q2 => g3 d q1 (by omega)) hP) rfl) (by omega) (by omega)
      · refine st_iload_n C 2 dX5_isEnclosed_7 rfl rfl ?_
        refine st_iload_n C 3 dX5_isEnclosed_8 rfl rfl ?_
        refine st_callS (st := []) C dX5_isEnclosed_9 [vI p9, vI i] (k_beside (p := p9) (d := i) (by omega) (by omega)) w_X5_50 rfl (by decide) (by decide) (by omega) (by omega) (Nat.le_of_ble_eq_true rfl) (ko_rt ?_)
        show T x 12 [(0, vR k), (1, vR r), (2, vI p9), (3, vI i)] [vI (besid p9 i)] _ _ _
        refine st_istore C dX5_isEnclosed_12 (by decide) rfl ?_
        show T x 14 [(0, vR k), (1, vR r), (2, vI p9), (3, vI i), (4, vI (besid p9 i))] [] _ _ _
        refine st_iload C dX5_isEnclosed_14 rfl ?_
        refine st_iconst C dX5_isEnclosed_16 (by decide) ?_
        refine st_icmp_eq (tgt := 35) C dX5_isEnclosed_17 (by decide) (fun c_17 => ?_) (fun c_17 => ?_)
        · refine st_iinc C dX5_isEnclosed_35 rfl (by decide) rfl ⟨(by omega), (by omega)⟩ ?_
          show T x 38 [(0, vR k), (1, vR r), (2, vI p9), (3, vI (i + 1)), (4, vI (besid p9 i))] [] _ _ _
          refine st_goto (tgt := 2) C dX5_isEnclosed_38 (by decide) ?_
          refine st_sub [0, 1, 2, 3] rfl ?_
          exact ih_2 (i + 1) (by omega) (by omega) (encl_t g3 (fun z9 => by first | assumption | exact absurd (by assumption) z9)) (by omega)
        · refine st_aload_n C 1 dX5_isEnclosed_20 rfl rfl ?_
          refine st_aload_n C 0 dX5_isEnclosed_21 rfl rfl ?_
          refine st_getf C dX5_isEnclosed_22 fl_X5_15 hk rfl ?_
          refine st_iload C dX5_isEnclosed_25 rfl ?_
          refine st_callS (st := []) C dX5_isEnclosed_27 [vR r, vI a9, vI (besid p9 i)] (k_areaAt (f := rf) (l := a9) (p := (besid p9 i)) hr (by omega) (by omega)) w_X5_43 rfl (by decide) (by decide) (by omega) (by omega) (Nat.le_of_ble_eq_true rfl) (ko_rt ?_)
          show T x 30 [(0, vR k), (1, vR r), (2, vI p9), (3, vI i), (4, vI (besid p9 i))] [vI (rf (64 * a9 + (besid p9 i)))] _ _ _
          refine st_if_ne (tgt := 35) C dX5_isEnclosed_30 (by decide) (fun c_30 => ?_) (fun c_30 => ?_)
          · refine st_iinc C dX5_isEnclosed_35 rfl (by decide) rfl ⟨(by omega), (by omega)⟩ ?_
            show T x 38 [(0, vR k), (1, vR r), (2, vI p9), (3, vI (i + 1)), (4, vI (besid p9 i))] [] _ _ _
            refine st_goto (tgt := 2) C dX5_isEnclosed_38 (by decide) ?_
            refine st_sub [0, 1, 2, 3] rfl ?_
            exact ih_2 (i + 1) (by omega) (by omega) (encl_t g3 (fun z9 => by first | assumption | exact absurd (by assumption) z9)) (by omega)
          · refine st_iconst C dX5_isEnclosed_33 (by decide) ?_
            exact st_zreturn C F dX5_isEnclosed_34 rfl (by omega) (rt_i (by first | rfl | exact absurd (fun d q1 q2 => g3 d q1 (by omega)) hP) rfl) (by omega) (by omega)
  exact loop_2 _ 0 (by omega) (by omega) (fun d q1 q2 => absurd q2 (by omega)) (Nat.lt_succ_self _)
set_option maxRecDepth 20000 in
set_option maxHeartbeats 4000000 in
theorem k_rBrokenm_t {g : Gx} {h : HP} {k : Nat} {a9 b9 : Int} {r : Nat} {rf : Int → Int} {p9 : Int} (hk : h k = some (oO 4 [vI 109, vI a9, vI b9])) (hr : h r = some (oI 304 rf)) (hp : 0 ≤ p9 ∧ p9 ≤ 63) (hP : BrkAt 109 a9 b9 rf p9) : Ct g yX5_isBrokenAt (.code yX5_isBrokenAt cX5_isBrokenAt 5 (some .boolean)) 4 0 0 [vR k, vR r, vI p9] h (Rt (some (vI 1)) h) := by
  refine Ct.of (by decide) (Nat.le_of_ble_eq_true rfl) (fun x hg C F => ?_)
  subst hg
  rw [brk_m] at hP
  show T x 0 [(0, vR k), (1, vR r), (2, vI p9)] [] h 0 0
  refine st_aload_n C 0 dX5_isBrokenAt_0 rfl rfl ?_
  refine st_getf C dX5_isBrokenAt_1 fl_X5_9 hk rfl ?_
  refine st_bipush C dX5_isBrokenAt_4 (by decide) (by decide) ?_
  refine st_icmp_ne (tgt := 31) C dX5_isBrokenAt_6 (by decide) (fun c_6 => by omega) (fun c_6 => ?_)
  refine st_iload_n C 2 dX5_isBrokenAt_9 rfl rfl ?_
  by_cases b_10 : p9 % 8 = 0 ∨ p9 % 8 = 7 ∨ p9 / 8 = 0 ∨ p9 / 8 = 7
  · refine st_callS (st := []) C dX5_isBrokenAt_10 [vI p9] (k_isAtEdge_t (p := p9) (by omega) b_10) w_X5_34 rfl (by decide) (by decide) (by omega) (by omega) (Nat.le_of_ble_eq_true rfl) (ko_rt ?_)
    show T x 13 [(0, vR k), (1, vR r), (2, vI p9)] [vI 1] _ _ _
    refine st_if_ne (tgt := 29) C dX5_isBrokenAt_13 (by decide) (fun c_13 => ?_) (fun c_13 => by omega)
    refine st_iconst C dX5_isBrokenAt_29 (by decide) ?_
    exact st_zreturn C F dX5_isBrokenAt_30 rfl (by omega) (rt_i (by first | rfl | (exfalso; omega) | exact absurd hP.2 (by assumption) | exact absurd hP.1 (by assumption) | exact absurd ⟨by assumption, by assumption⟩ hP) rfl) (by omega) (by omega)
  · refine st_callS (st := []) C dX5_isBrokenAt_10 [vI p9] (k_isAtEdge_f (p := p9) (by omega) b_10) w_X5_34 rfl (by decide) (by decide) (by omega) (by omega) (Nat.le_of_ble_eq_true rfl) (ko_rt ?_)
    show T x 13 [(0, vR k), (1, vR r), (2, vI p9)] [vI 0] _ _ _
    refine st_if_ne (tgt := 29) C dX5_isBrokenAt_13 (by decide) (fun c_13 => by omega) (fun c_13 => ?_)
    refine st_aload_n C 1 dX5_isBrokenAt_16 rfl rfl ?_
    refine st_iload_n C 2 dX5_isBrokenAt_17 rfl rfl ?_
    refine st_callS (st := []) C dX5_isBrokenAt_18 [vR r, vI p9] (k_roadsAt (rf := rf) (p9 := p9) hr (by omega)) w_X5_39 rfl (by decide) (by decide) (by omega) (by omega) (Nat.le_of_ble_eq_true rfl) (ko_rt ?_)
    show T x 21 [(0, vR k), (1, vR r), (2, vI p9)] [vI (rdN rf p9)] _ _ _
    refine st_iconst C dX5_isBrokenAt_21 (by decide) ?_
    refine st_icmp_ne (tgt := 29) C dX5_isBrokenAt_22 (by decide) (fun c_22 => ?_) (fun c_22 => ?_)
    · refine st_iconst C dX5_isBrokenAt_29 (by decide) ?_
      exact st_zreturn C F dX5_isBrokenAt_30 rfl (by omega) (rt_i (by first | rfl | (exfalso; omega) | exact absurd hP.2 (by assumption) | exact absurd hP.1 (by assumption) | exact absurd ⟨by assumption, by assumption⟩ hP) rfl) (by omega) (by omega)
    · refine st_iconst C dX5_isBrokenAt_25 (by decide) ?_
      refine st_goto (tgt := 30) C dX5_isBrokenAt_26 (by decide) ?_
      exact st_zreturn C F dX5_isBrokenAt_30 rfl (by omega) (rt_i (by first | rfl | (exfalso; omega) | exact absurd hP.2 (by assumption) | exact absurd hP.1 (by assumption) | exact absurd ⟨by assumption, by assumption⟩ hP) rfl) (by omega) (by omega)
set_option maxRecDepth 20000 in
set_option maxHeartbeats 4000000 in
theorem k_rBrokenm_f {g : Gx} {h : HP} {k : Nat} {a9 b9 : Int} {r : Nat} {rf : Int → Int} {p9 : Int} (hk : h k = some (oO 4 [vI 109, vI a9, vI b9])) (hr : h r = some (oI 304 rf)) (hp : 0 ≤ p9 ∧ p9 ≤ 63) (hP : ¬ BrkAt 109 a9 b9 rf p9) : Ct g yX5_isBrokenAt (.code yX5_isBrokenAt cX5_isBrokenAt 5 (some .boolean)) 4 0 0 [vR k, vR r, vI p9] h (Rt (some (vI 0)) h) := by
  refine Ct.of (by decide) (Nat.le_of_ble_eq_true rfl) (fun x hg C F => ?_)
  subst hg
  rw [brk_m] at hP
  show T x 0 [(0, vR k), (1, vR r), (2, vI p9)] [] h 0 0
  refine st_aload_n C 0 dX5_isBrokenAt_0 rfl rfl ?_
  refine st_getf C dX5_isBrokenAt_1 fl_X5_9 hk rfl ?_
  refine st_bipush C dX5_isBrokenAt_4 (by decide) (by decide) ?_
  refine st_icmp_ne (tgt := 31) C dX5_isBrokenAt_6 (by decide) (fun c_6 => by omega) (fun c_6 => ?_)
  refine st_iload_n C 2 dX5_isBrokenAt_9 rfl rfl ?_
  by_cases b_10 : p9 % 8 = 0 ∨ p9 % 8 = 7 ∨ p9 / 8 = 0 ∨ p9 / 8 = 7
  · refine st_callS (st := []) C dX5_isBrokenAt_10 [vI p9] (k_isAtEdge_t (p := p9) (by omega) b_10) w_X5_34 rfl (by decide) (by decide) (by omega) (by omega) (Nat.le_of_ble_eq_true rfl) (ko_rt ?_)
    show T x 13 [(0, vR k), (1, vR r), (2, vI p9)] [vI 1] _ _ _
    refine st_if_ne (tgt := 29) C dX5_isBrokenAt_13 (by decide) (fun c_13 => ?_) (fun c_13 => by omega)
    refine st_iconst C dX5_isBrokenAt_29 (by decide) ?_
    exact st_zreturn C F dX5_isBrokenAt_30 rfl (by omega) (rt_i (by first | rfl | (exfalso; omega) | exact absurd hP.2 (by assumption) | exact absurd hP.1 (by assumption) | exact absurd ⟨by assumption, by assumption⟩ hP) rfl) (by omega) (by omega)
  · refine st_callS (st := []) C dX5_isBrokenAt_10 [vI p9] (k_isAtEdge_f (p := p9) (by omega) b_10) w_X5_34 rfl (by decide) (by decide) (by omega) (by omega) (Nat.le_of_ble_eq_true rfl) (ko_rt ?_)
    show T x 13 [(0, vR k), (1, vR r), (2, vI p9)] [vI 0] _ _ _
    refine st_if_ne (tgt := 29) C dX5_isBrokenAt_13 (by decide) (fun c_13 => by omega) (fun c_13 => ?_)
    refine st_aload_n C 1 dX5_isBrokenAt_16 rfl rfl ?_
    refine st_iload_n C 2 dX5_isBrokenAt_17 rfl rfl ?_
    refine st_callS (st := []) C dX5_isBrokenAt_18 [vR r, vI p9] (k_roadsAt (rf := rf) (p9 := p9) hr (by omega)) w_X5_39 rfl (by decide) (by decide) (by omega) (by omega) (Nat.le_of_ble_eq_true rfl) (ko_rt ?_)
    show T x 21 [(0, vR k), (1, vR r), (2, vI p9)] [vI (rdN rf p9)] _ _ _
    refine st_iconst C dX5_isBrokenAt_21 (by decide) ?_
    refine st_icmp_ne (tgt := 29) C dX5_isBrokenAt_22 (by decide) (fun c_22 => ?_) (fun c_22 => ?_)
    · refine st_iconst C dX5_isBrokenAt_29 (by decide) ?_
      exact st_zreturn C F dX5_isBrokenAt_30 rfl (by omega) (rt_i (by first | rfl | (exfalso; omega) | exact absurd hP.2 (by assumption) | exact absurd hP.1 (by assumption) | exact absurd ⟨by assumption, by assumption⟩ hP) rfl) (by omega) (by omega)
    · refine st_iconst C dX5_isBrokenAt_25 (by decide) ?_
      refine st_goto (tgt := 30) C dX5_isBrokenAt_26 (by decide) ?_
      exact st_zreturn C F dX5_isBrokenAt_30 rfl (by omega) (rt_i (by first | rfl | (exfalso; omega) | exact absurd hP.2 (by assumption) | exact absurd hP.1 (by assumption) | exact absurd ⟨by assumption, by assumption⟩ hP) rfl) (by omega) (by omega)
set_option maxRecDepth 20000 in
set_option maxHeartbeats 4000000 in
theorem k_holdsInm_t {g : Gx} {h : HP} {k : Nat} {a9 b9 : Int} {r : Nat} {rf : Int → Int} {s : Nat} (hk : h k = some (oO 4 [vI 109, vI a9, vI b9])) (hr : h r = some (oI 304 rf)) (hP : RuleHolds 109 a9 b9 rf) : Ct g yX5_holdsIn (.code yX5_holdsIn cX5_holdsIn 4 (some .boolean)) 5 0 0 [vR k, vR r, vR s] h (Rt (some (vI 1)) h) := by
  refine Ct.of (by decide) (Nat.le_of_ble_eq_true rfl) (fun x hg C F => ?_)
  subst hg
  show T x 0 [(0, vR k), (1, vR r), (2, vR s)] [] h 0 0
  refine st_aload_n C 0 dX5_holdsIn_0 rfl rfl ?_
  refine st_getf C dX5_holdsIn_1 fl_X5_9 hk rfl ?_
  refine st_bipush C dX5_holdsIn_4 (by decide) (by decide) ?_
  refine st_icmp_ne (tgt := 16) C dX5_holdsIn_6 (by decide) (fun c_6 => ?_) (fun c_6 => by omega)
  refine st_iconst C dX5_holdsIn_16 (by decide) ?_
  refine st_istore_n C 3 dX5_holdsIn_17 rfl (by decide) rfl ?_
  show T x 18 [(0, vR k), (1, vR r), (2, vR s), (3, vI 0)] [] _ _ _
  have loop_18 : ∀ (n_18 : Nat) (i : Int), (0 ≤ i) → (i ≤ 64) → (∀ p, 0 ≤ p → p < i → ¬ BrkAt 109 a9 b9 rf p) → (64 - i).toNat < n_18 → T x 18 [(0, vR k), (1, vR r), (2, vR s), (3, vI i)] [] h 0 0 := by
    intro n_18
    induction n_18 with
    | zero => intro i g1 g2 g3 hm_18; exact absurd hm_18 (Nat.not_lt_zero _)
    | succ n_18 ih_18 =>
      intro i g1 g2 g3 hm_18
      refine st_iload_n C 3 dX5_holdsIn_18 rfl rfl ?_
      refine st_bipush C dX5_holdsIn_19 (by decide) (by decide) ?_
      refine st_icmp_ge (tgt := 41) C dX5_holdsIn_21 (by decide) (fun c_21 => ?_) (fun c_21 => ?_)
      · refine st_iconst C dX5_holdsIn_41 (by decide) ?_
        exact st_zreturn C F dX5_holdsIn_42 rfl (by omega) (rt_i (by first | rfl | exact absurd (by assumption) (hP.1 i g1 (by omega))) rfl) (by omega) (by omega)
      · refine st_aload_n C 0 dX5_holdsIn_24 rfl rfl ?_
        refine st_aload_n C 1 dX5_holdsIn_25 rfl rfl ?_
        refine st_iload_n C 3 dX5_holdsIn_26 rfl rfl ?_
        by_cases b_27 : BrkAt 109 a9 b9 rf i
        · refine st_callV (st := []) C dX5_holdsIn_27 [vR r, vI i] (k_rBrokenm_t (a9 := a9) (b9 := b9) (rf := rf) (p9 := i) hk hr (by omega) b_27) hk w_X5_30 rfl (by decide) (by decide) (by omega) (by omega) (Nat.le_of_ble_eq_true rfl) (ko_rt ?_)
          show T x 30 [(0, vR k), (1, vR r), (2, vR s), (3, vI i)] [vI 1] _ _ _
          refine st_if_eq (tgt := 35) C dX5_holdsIn_30 (by decide) (fun c_30 => by omega) (fun c_30 => ?_)
          refine st_iconst C dX5_holdsIn_33 (by decide) ?_
          exact st_zreturn C F dX5_holdsIn_34 rfl (by omega) (rt_i (by first | rfl | exact absurd (by assumption) (hP.1 i g1 (by omega))) rfl) (by omega) (by omega)
        · refine st_callV (st := []) C dX5_holdsIn_27 [vR r, vI i] (k_rBrokenm_f (a9 := a9) (b9 := b9) (rf := rf) (p9 := i) hk hr (by omega) b_27) hk w_X5_30 rfl (by decide) (by decide) (by omega) (by omega) (Nat.le_of_ble_eq_true rfl) (ko_rt ?_)
          show T x 30 [(0, vR k), (1, vR r), (2, vR s), (3, vI i)] [vI 0] _ _ _
          refine st_if_eq (tgt := 35) C dX5_holdsIn_30 (by decide) (fun c_30 => ?_) (fun c_30 => by omega)
          refine st_iinc C dX5_holdsIn_35 rfl (by decide) rfl ⟨(by omega), (by omega)⟩ ?_
          show T x 38 [(0, vR k), (1, vR r), (2, vR s), (3, vI (i + 1))] [] _ _ _
          refine st_goto (tgt := 18) C dX5_holdsIn_38 (by decide) ?_
          exact ih_18 (i + 1) (by omega) (by omega) (no_s g3 (by assumption)) (by omega)
  exact loop_18 _ 0 (by omega) (by omega) (no_0) (Nat.lt_succ_self _)
set_option maxRecDepth 20000 in
set_option maxHeartbeats 4000000 in
theorem k_holdsInm_f {g : Gx} {h : HP} {k : Nat} {a9 b9 : Int} {r : Nat} {rf : Int → Int} {s : Nat} (hk : h k = some (oO 4 [vI 109, vI a9, vI b9])) (hr : h r = some (oI 304 rf)) (hP : ¬ RuleHolds 109 a9 b9 rf) : Ct g yX5_holdsIn (.code yX5_holdsIn cX5_holdsIn 4 (some .boolean)) 5 0 0 [vR k, vR r, vR s] h (Rt (some (vI 0)) h) := by
  refine Ct.of (by decide) (Nat.le_of_ble_eq_true rfl) (fun x hg C F => ?_)
  subst hg
  show T x 0 [(0, vR k), (1, vR r), (2, vR s)] [] h 0 0
  refine st_aload_n C 0 dX5_holdsIn_0 rfl rfl ?_
  refine st_getf C dX5_holdsIn_1 fl_X5_9 hk rfl ?_
  refine st_bipush C dX5_holdsIn_4 (by decide) (by decide) ?_
  refine st_icmp_ne (tgt := 16) C dX5_holdsIn_6 (by decide) (fun c_6 => ?_) (fun c_6 => by omega)
  refine st_iconst C dX5_holdsIn_16 (by decide) ?_
  refine st_istore_n C 3 dX5_holdsIn_17 rfl (by decide) rfl ?_
  show T x 18 [(0, vR k), (1, vR r), (2, vR s), (3, vI 0)] [] _ _ _
  have loop_18 : ∀ (n_18 : Nat) (i : Int), (0 ≤ i) → (i ≤ 64) → (∀ p, 0 ≤ p → p < i → ¬ BrkAt 109 a9 b9 rf p) → (64 - i).toNat < n_18 → T x 18 [(0, vR k), (1, vR r), (2, vR s), (3, vI i)] [] h 0 0 := by
    intro n_18
    induction n_18 with
    | zero => intro i g1 g2 g3 hm_18; exact absurd hm_18 (Nat.not_lt_zero _)
    | succ n_18 ih_18 =>
      intro i g1 g2 g3 hm_18
      refine st_iload_n C 3 dX5_holdsIn_18 rfl rfl ?_
      refine st_bipush C dX5_holdsIn_19 (by decide) (by decide) ?_
      refine st_icmp_ge (tgt := 41) C dX5_holdsIn_21 (by decide) (fun c_21 => ?_) (fun c_21 => ?_)
      · refine st_iconst C dX5_holdsIn_41 (by decide) ?_
        exact st_zreturn C F dX5_holdsIn_42 rfl (by omega) (rt_i (by first | rfl | exact absurd ⟨fun p q1 q2 => g3 p q1 (by omega), fun z9 => by omega⟩ hP) rfl) (by omega) (by omega)
      · refine st_aload_n C 0 dX5_holdsIn_24 rfl rfl ?_
        refine st_aload_n C 1 dX5_holdsIn_25 rfl rfl ?_
        refine st_iload_n C 3 dX5_holdsIn_26 rfl rfl ?_
        by_cases b_27 : BrkAt 109 a9 b9 rf i
        · refine st_callV (st := []) C dX5_holdsIn_27 [vR r, vI i] (k_rBrokenm_t (a9 := a9) (b9 := b9) (rf := rf) (p9 := i) hk hr (by omega) b_27) hk w_X5_30 rfl (by decide) (by decide) (by omega) (by omega) (Nat.le_of_ble_eq_true rfl) (ko_rt ?_)
          show T x 30 [(0, vR k), (1, vR r), (2, vR s), (3, vI i)] [vI 1] _ _ _
          refine st_if_eq (tgt := 35) C dX5_holdsIn_30 (by decide) (fun c_30 => by omega) (fun c_30 => ?_)
          refine st_iconst C dX5_holdsIn_33 (by decide) ?_
          exact st_zreturn C F dX5_holdsIn_34 rfl (by omega) (rt_i (by first | rfl | exact absurd ⟨fun p q1 q2 => g3 p q1 (by omega), fun z9 => by omega⟩ hP) rfl) (by omega) (by omega)
        · refine st_callV (st := []) C dX5_holdsIn_27 [vR r, vI i] (k_rBrokenm_f (a9 := a9) (b9 := b9) (rf := rf) (p9 := i) hk hr (by omega) b_27) hk w_X5_30 rfl (by decide) (by decide) (by omega) (by omega) (Nat.le_of_ble_eq_true rfl) (ko_rt ?_)
          show T x 30 [(0, vR k), (1, vR r), (2, vR s), (3, vI i)] [vI 0] _ _ _
          refine st_if_eq (tgt := 35) C dX5_holdsIn_30 (by decide) (fun c_30 => ?_) (fun c_30 => by omega)
          refine st_iinc C dX5_holdsIn_35 rfl (by decide) rfl ⟨(by omega), (by omega)⟩ ?_
          show T x 38 [(0, vR k), (1, vR r), (2, vR s), (3, vI (i + 1))] [] _ _ _
          refine st_goto (tgt := 18) C dX5_holdsIn_38 (by decide) ?_
          exact ih_18 (i + 1) (by omega) (by omega) (no_s g3 (by assumption)) (by omega)
  exact loop_18 _ 0 (by omega) (by omega) (no_0) (Nat.lt_succ_self _)
set_option maxRecDepth 20000 in
set_option maxHeartbeats 4000000 in
theorem k_rBrokeng_t {g : Gx} {h : HP} {k : Nat} {a9 b9 : Int} {r : Nat} {rf : Int → Int} {p9 : Int} (hk : h k = some (oO 4 [vI 103, vI a9, vI b9])) (hr : h r = some (oI 304 rf)) (hp : 0 ≤ p9 ∧ p9 ≤ 63) (ha : 0 ≤ a9 ∧ a9 ≤ 2) (hP : BrkAt 103 a9 b9 rf p9) : Ct g yX5_isBrokenAt (.code yX5_isBrokenAt cX5_isBrokenAt 5 (some .boolean)) 4 0 0 [vR k, vR r, vI p9] h (Rt (some (vI 1)) h) := by
  refine Ct.of (by decide) (Nat.le_of_ble_eq_true rfl) (fun x hg C F => ?_)
  subst hg
  rw [brk_g] at hP
  show T x 0 [(0, vR k), (1, vR r), (2, vI p9)] [] h 0 0
  refine st_aload_n C 0 dX5_isBrokenAt_0 rfl rfl ?_
  refine st_getf C dX5_isBrokenAt_1 fl_X5_9 hk rfl ?_
  refine st_bipush C dX5_isBrokenAt_4 (by decide) (by decide) ?_
  refine st_icmp_ne (tgt := 31) C dX5_isBrokenAt_6 (by decide) (fun c_6 => ?_) (fun c_6 => by omega)
  refine st_aload_n C 1 dX5_isBrokenAt_31 rfl rfl ?_
  refine st_aload_n C 0 dX5_isBrokenAt_32 rfl rfl ?_
  refine st_getf C dX5_isBrokenAt_33 fl_X5_15 hk rfl ?_
  refine st_iload_n C 2 dX5_isBrokenAt_36 rfl rfl ?_
  refine st_callS (st := []) C dX5_isBrokenAt_37 [vR r, vI a9, vI p9] (k_areaAt (f := rf) (l := a9) (p := p9) hr (by omega) (by omega)) w_X5_43 rfl (by decide) (by decide) (by omega) (by omega) (Nat.le_of_ble_eq_true rfl) (ko_rt ?_)
  show T x 40 [(0, vR k), (1, vR r), (2, vI p9)] [vI (rf (64 * a9 + p9))] _ _ _
  refine st_if_eq (tgt := 47) C dX5_isBrokenAt_40 (by decide) (fun c_40 => ?_) (fun c_40 => ?_)
  · refine st_iconst C dX5_isBrokenAt_47 (by decide) ?_
    refine st_istore_n C 3 dX5_isBrokenAt_48 rfl (by decide) rfl ?_
    show T x 49 [(0, vR k), (1, vR r), (2, vI p9), (3, vI 0)] [] _ _ _
    refine st_aload_n C 0 dX5_isBrokenAt_49 rfl rfl ?_
    refine st_getf C dX5_isBrokenAt_50 fl_X5_9 hk rfl ?_
    refine st_bipush C dX5_isBrokenAt_53 (by decide) (by decide) ?_
    refine st_icmp_ne (tgt := 77) C dX5_isBrokenAt_55 (by decide) (fun c_55 => by omega) (fun c_55 => ?_)
    refine st_iload_n C 3 dX5_isBrokenAt_58 rfl rfl ?_
    refine st_if_ne (tgt := 75) C dX5_isBrokenAt_59 (by decide) (fun c_59 => by omega) (fun c_59 => ?_)
    refine st_aload_n C 0 dX5_isBrokenAt_62 rfl rfl ?_
    refine st_aload_n C 1 dX5_isBrokenAt_63 rfl rfl ?_
    refine st_iload_n C 2 dX5_isBrokenAt_64 rfl rfl ?_
    by_cases b_65 : Encl rf a9 p9
    · refine st_callV (st := []) C dX5_isBrokenAt_65 [vR r, vI p9] (k_isEnclosed_t (k9 := 103) (a9 := a9) (b9 := b9) (rf := rf) (p9 := p9) hk hr (by omega) (by omega) b_65) hk w_X5_47 rfl (by decide) (by decide) (by omega) (by omega) (Nat.le_of_ble_eq_true rfl) (ko_rt ?_)
      show T x 68 [(0, vR k), (1, vR r), (2, vI p9), (3, vI 0)] [vI 1] _ _ _
      refine st_if_eq (tgt := 75) C dX5_isBrokenAt_68 (by decide) (fun c_68 => by omega) (fun c_68 => ?_)
      refine st_iconst C dX5_isBrokenAt_71 (by decide) ?_
      refine st_goto (tgt := 76) C dX5_isBrokenAt_72 (by decide) ?_
      exact st_zreturn C F dX5_isBrokenAt_76 rfl (by omega) (rt_i (by first | rfl | (exfalso; omega) | exact absurd hP.2 (by assumption) | exact absurd hP.1 (by assumption) | exact absurd ⟨by assumption, by assumption⟩ hP) rfl) (by omega) (by omega)
    · refine st_callV (st := []) C dX5_isBrokenAt_65 [vR r, vI p9] (k_isEnclosed_f (k9 := 103) (a9 := a9) (b9 := b9) (rf := rf) (p9 := p9) hk hr (by omega) (by omega) b_65) hk w_X5_47 rfl (by decide) (by decide) (by omega) (by omega) (Nat.le_of_ble_eq_true rfl) (ko_rt ?_)
      show T x 68 [(0, vR k), (1, vR r), (2, vI p9), (3, vI 0)] [vI 0] _ _ _
      refine st_if_eq (tgt := 75) C dX5_isBrokenAt_68 (by decide) (fun c_68 => ?_) (fun c_68 => by omega)
      refine st_iconst C dX5_isBrokenAt_75 (by decide) ?_
      exact st_zreturn C F dX5_isBrokenAt_76 rfl (by omega) (rt_i (by first | rfl | (exfalso; omega) | exact absurd hP.2 (by assumption) | exact absurd hP.1 (by assumption) | exact absurd ⟨by assumption, by assumption⟩ hP) rfl) (by omega) (by omega)
  · refine st_iconst C dX5_isBrokenAt_43 (by decide) ?_
    refine st_goto (tgt := 48) C dX5_isBrokenAt_44 (by decide) ?_
    refine st_istore_n C 3 dX5_isBrokenAt_48 rfl (by decide) rfl ?_
    show T x 49 [(0, vR k), (1, vR r), (2, vI p9), (3, vI 1)] [] _ _ _
    refine st_aload_n C 0 dX5_isBrokenAt_49 rfl rfl ?_
    refine st_getf C dX5_isBrokenAt_50 fl_X5_9 hk rfl ?_
    refine st_bipush C dX5_isBrokenAt_53 (by decide) (by decide) ?_
    refine st_icmp_ne (tgt := 77) C dX5_isBrokenAt_55 (by decide) (fun c_55 => by omega) (fun c_55 => ?_)
    refine st_iload_n C 3 dX5_isBrokenAt_58 rfl rfl ?_
    refine st_if_ne (tgt := 75) C dX5_isBrokenAt_59 (by decide) (fun c_59 => ?_) (fun c_59 => by omega)
    refine st_iconst C dX5_isBrokenAt_75 (by decide) ?_
    exact st_zreturn C F dX5_isBrokenAt_76 rfl (by omega) (rt_i (by first | rfl | (exfalso; omega) | exact absurd hP.2 (by assumption) | exact absurd hP.1 (by assumption) | exact absurd ⟨by assumption, by assumption⟩ hP) rfl) (by omega) (by omega)
set_option maxRecDepth 20000 in
set_option maxHeartbeats 4000000 in
theorem k_rBrokeng_f {g : Gx} {h : HP} {k : Nat} {a9 b9 : Int} {r : Nat} {rf : Int → Int} {p9 : Int} (hk : h k = some (oO 4 [vI 103, vI a9, vI b9])) (hr : h r = some (oI 304 rf)) (hp : 0 ≤ p9 ∧ p9 ≤ 63) (ha : 0 ≤ a9 ∧ a9 ≤ 2) (hP : ¬ BrkAt 103 a9 b9 rf p9) : Ct g yX5_isBrokenAt (.code yX5_isBrokenAt cX5_isBrokenAt 5 (some .boolean)) 4 0 0 [vR k, vR r, vI p9] h (Rt (some (vI 0)) h) := by
  refine Ct.of (by decide) (Nat.le_of_ble_eq_true rfl) (fun x hg C F => ?_)
  subst hg
  rw [brk_g] at hP
  show T x 0 [(0, vR k), (1, vR r), (2, vI p9)] [] h 0 0
  refine st_aload_n C 0 dX5_isBrokenAt_0 rfl rfl ?_
  refine st_getf C dX5_isBrokenAt_1 fl_X5_9 hk rfl ?_
  refine st_bipush C dX5_isBrokenAt_4 (by decide) (by decide) ?_
  refine st_icmp_ne (tgt := 31) C dX5_isBrokenAt_6 (by decide) (fun c_6 => ?_) (fun c_6 => by omega)
  refine st_aload_n C 1 dX5_isBrokenAt_31 rfl rfl ?_
  refine st_aload_n C 0 dX5_isBrokenAt_32 rfl rfl ?_
  refine st_getf C dX5_isBrokenAt_33 fl_X5_15 hk rfl ?_
  refine st_iload_n C 2 dX5_isBrokenAt_36 rfl rfl ?_
  refine st_callS (st := []) C dX5_isBrokenAt_37 [vR r, vI a9, vI p9] (k_areaAt (f := rf) (l := a9) (p := p9) hr (by omega) (by omega)) w_X5_43 rfl (by decide) (by decide) (by omega) (by omega) (Nat.le_of_ble_eq_true rfl) (ko_rt ?_)
  show T x 40 [(0, vR k), (1, vR r), (2, vI p9)] [vI (rf (64 * a9 + p9))] _ _ _
  refine st_if_eq (tgt := 47) C dX5_isBrokenAt_40 (by decide) (fun c_40 => ?_) (fun c_40 => ?_)
  · refine st_iconst C dX5_isBrokenAt_47 (by decide) ?_
    refine st_istore_n C 3 dX5_isBrokenAt_48 rfl (by decide) rfl ?_
    show T x 49 [(0, vR k), (1, vR r), (2, vI p9), (3, vI 0)] [] _ _ _
    refine st_aload_n C 0 dX5_isBrokenAt_49 rfl rfl ?_
    refine st_getf C dX5_isBrokenAt_50 fl_X5_9 hk rfl ?_
    refine st_bipush C dX5_isBrokenAt_53 (by decide) (by decide) ?_
    refine st_icmp_ne (tgt := 77) C dX5_isBrokenAt_55 (by decide) (fun c_55 => by omega) (fun c_55 => ?_)
    refine st_iload_n C 3 dX5_isBrokenAt_58 rfl rfl ?_
    refine st_if_ne (tgt := 75) C dX5_isBrokenAt_59 (by decide) (fun c_59 => by omega) (fun c_59 => ?_)
    refine st_aload_n C 0 dX5_isBrokenAt_62 rfl rfl ?_
    refine st_aload_n C 1 dX5_isBrokenAt_63 rfl rfl ?_
    refine st_iload_n C 2 dX5_isBrokenAt_64 rfl rfl ?_
    by_cases b_65 : Encl rf a9 p9
    · refine st_callV (st := []) C dX5_isBrokenAt_65 [vR r, vI p9] (k_isEnclosed_t (k9 := 103) (a9 := a9) (b9 := b9) (rf := rf) (p9 := p9) hk hr (by omega) (by omega) b_65) hk w_X5_47 rfl (by decide) (by decide) (by omega) (by omega) (Nat.le_of_ble_eq_true rfl) (ko_rt ?_)
      show T x 68 [(0, vR k), (1, vR r), (2, vI p9), (3, vI 0)] [vI 1] _ _ _
      refine st_if_eq (tgt := 75) C dX5_isBrokenAt_68 (by decide) (fun c_68 => by omega) (fun c_68 => ?_)
      refine st_iconst C dX5_isBrokenAt_71 (by decide) ?_
      refine st_goto (tgt := 76) C dX5_isBrokenAt_72 (by decide) ?_
      exact st_zreturn C F dX5_isBrokenAt_76 rfl (by omega) (rt_i (by first | rfl | (exfalso; omega) | exact absurd hP.2 (by assumption) | exact absurd hP.1 (by assumption) | exact absurd ⟨by assumption, by assumption⟩ hP) rfl) (by omega) (by omega)
    · refine st_callV (st := []) C dX5_isBrokenAt_65 [vR r, vI p9] (k_isEnclosed_f (k9 := 103) (a9 := a9) (b9 := b9) (rf := rf) (p9 := p9) hk hr (by omega) (by omega) b_65) hk w_X5_47 rfl (by decide) (by decide) (by omega) (by omega) (Nat.le_of_ble_eq_true rfl) (ko_rt ?_)
      show T x 68 [(0, vR k), (1, vR r), (2, vI p9), (3, vI 0)] [vI 0] _ _ _
      refine st_if_eq (tgt := 75) C dX5_isBrokenAt_68 (by decide) (fun c_68 => ?_) (fun c_68 => by omega)
      refine st_iconst C dX5_isBrokenAt_75 (by decide) ?_
      exact st_zreturn C F dX5_isBrokenAt_76 rfl (by omega) (rt_i (by first | rfl | (exfalso; omega) | exact absurd hP.2 (by assumption) | exact absurd hP.1 (by assumption) | exact absurd ⟨by assumption, by assumption⟩ hP) rfl) (by omega) (by omega)
  · refine st_iconst C dX5_isBrokenAt_43 (by decide) ?_
    refine st_goto (tgt := 48) C dX5_isBrokenAt_44 (by decide) ?_
    refine st_istore_n C 3 dX5_isBrokenAt_48 rfl (by decide) rfl ?_
    show T x 49 [(0, vR k), (1, vR r), (2, vI p9), (3, vI 1)] [] _ _ _
    refine st_aload_n C 0 dX5_isBrokenAt_49 rfl rfl ?_
    refine st_getf C dX5_isBrokenAt_50 fl_X5_9 hk rfl ?_
    refine st_bipush C dX5_isBrokenAt_53 (by decide) (by decide) ?_
    refine st_icmp_ne (tgt := 77) C dX5_isBrokenAt_55 (by decide) (fun c_55 => by omega) (fun c_55 => ?_)
    refine st_iload_n C 3 dX5_isBrokenAt_58 rfl rfl ?_
    refine st_if_ne (tgt := 75) C dX5_isBrokenAt_59 (by decide) (fun c_59 => ?_) (fun c_59 => by omega)
    refine st_iconst C dX5_isBrokenAt_75 (by decide) ?_
    exact st_zreturn C F dX5_isBrokenAt_76 rfl (by omega) (rt_i (by first | rfl | (exfalso; omega) | exact absurd hP.2 (by assumption) | exact absurd hP.1 (by assumption) | exact absurd ⟨by assumption, by assumption⟩ hP) rfl) (by omega) (by omega)
set_option maxRecDepth 20000 in
set_option maxHeartbeats 4000000 in
theorem k_holdsIng_t {g : Gx} {h : HP} {k : Nat} {a9 b9 : Int} {r : Nat} {rf : Int → Int} {s : Nat} (hk : h k = some (oO 4 [vI 103, vI a9, vI b9])) (hr : h r = some (oI 304 rf)) (ha : 0 ≤ a9 ∧ a9 ≤ 2) (hP : RuleHolds 103 a9 b9 rf) : Ct g yX5_holdsIn (.code yX5_holdsIn cX5_holdsIn 4 (some .boolean)) 5 0 0 [vR k, vR r, vR s] h (Rt (some (vI 1)) h) := by
  refine Ct.of (by decide) (Nat.le_of_ble_eq_true rfl) (fun x hg C F => ?_)
  subst hg
  show T x 0 [(0, vR k), (1, vR r), (2, vR s)] [] h 0 0
  refine st_aload_n C 0 dX5_holdsIn_0 rfl rfl ?_
  refine st_getf C dX5_holdsIn_1 fl_X5_9 hk rfl ?_
  refine st_bipush C dX5_holdsIn_4 (by decide) (by decide) ?_
  refine st_icmp_ne (tgt := 16) C dX5_holdsIn_6 (by decide) (fun c_6 => ?_) (fun c_6 => by omega)
  refine st_iconst C dX5_holdsIn_16 (by decide) ?_
  refine st_istore_n C 3 dX5_holdsIn_17 rfl (by decide) rfl ?_
  show T x 18 [(0, vR k), (1, vR r), (2, vR s), (3, vI 0)] [] _ _ _
  have loop_18 : ∀ (n_18 : Nat) (i : Int), (0 ≤ i) → (i ≤ 64) → (∀ p, 0 ≤ p → p < i → ¬ BrkAt 103 a9 b9 rf p) → (64 - i).toNat < n_18 → T x 18 [(0, vR k), (1, vR r), (2, vR s), (3, vI i)] [] h 0 0 := by
    intro n_18
    induction n_18 with
    | zero => intro i g1 g2 g3 hm_18; exact absurd hm_18 (Nat.not_lt_zero _)
    | succ n_18 ih_18 =>
      intro i g1 g2 g3 hm_18
      refine st_iload_n C 3 dX5_holdsIn_18 rfl rfl ?_
      refine st_bipush C dX5_holdsIn_19 (by decide) (by decide) ?_
      refine st_icmp_ge (tgt := 41) C dX5_holdsIn_21 (by decide) (fun c_21 => ?_) (fun c_21 => ?_)
      · refine st_iconst C dX5_holdsIn_41 (by decide) ?_
        exact st_zreturn C F dX5_holdsIn_42 rfl (by omega) (rt_i (by first | rfl | exact absurd (by assumption) (hP.1 i g1 (by omega))) rfl) (by omega) (by omega)
      · refine st_aload_n C 0 dX5_holdsIn_24 rfl rfl ?_
        refine st_aload_n C 1 dX5_holdsIn_25 rfl rfl ?_
        refine st_iload_n C 3 dX5_holdsIn_26 rfl rfl ?_
        by_cases b_27 : BrkAt 103 a9 b9 rf i
        · refine st_callV (st := []) C dX5_holdsIn_27 [vR r, vI i] (k_rBrokeng_t (a9 := a9) (b9 := b9) (rf := rf) (p9 := i) hk hr (by omega) (by omega) b_27) hk w_X5_30 rfl (by decide) (by decide) (by omega) (by omega) (Nat.le_of_ble_eq_true rfl) (ko_rt ?_)
          show T x 30 [(0, vR k), (1, vR r), (2, vR s), (3, vI i)] [vI 1] _ _ _
          refine st_if_eq (tgt := 35) C dX5_holdsIn_30 (by decide) (fun c_30 => by omega) (fun c_30 => ?_)
          refine st_iconst C dX5_holdsIn_33 (by decide) ?_
          exact st_zreturn C F dX5_holdsIn_34 rfl (by omega) (rt_i (by first | rfl | exact absurd (by assumption) (hP.1 i g1 (by omega))) rfl) (by omega) (by omega)
        · refine st_callV (st := []) C dX5_holdsIn_27 [vR r, vI i] (k_rBrokeng_f (a9 := a9) (b9 := b9) (rf := rf) (p9 := i) hk hr (by omega) (by omega) b_27) hk w_X5_30 rfl (by decide) (by decide) (by omega) (by omega) (Nat.le_of_ble_eq_true rfl) (ko_rt ?_)
          show T x 30 [(0, vR k), (1, vR r), (2, vR s), (3, vI i)] [vI 0] _ _ _
          refine st_if_eq (tgt := 35) C dX5_holdsIn_30 (by decide) (fun c_30 => ?_) (fun c_30 => by omega)
          refine st_iinc C dX5_holdsIn_35 rfl (by decide) rfl ⟨(by omega), (by omega)⟩ ?_
          show T x 38 [(0, vR k), (1, vR r), (2, vR s), (3, vI (i + 1))] [] _ _ _
          refine st_goto (tgt := 18) C dX5_holdsIn_38 (by decide) ?_
          exact ih_18 (i + 1) (by omega) (by omega) (no_s g3 (by assumption)) (by omega)
  exact loop_18 _ 0 (by omega) (by omega) (no_0) (Nat.lt_succ_self _)
set_option maxRecDepth 20000 in
set_option maxHeartbeats 4000000 in
theorem k_holdsIng_f {g : Gx} {h : HP} {k : Nat} {a9 b9 : Int} {r : Nat} {rf : Int → Int} {s : Nat} (hk : h k = some (oO 4 [vI 103, vI a9, vI b9])) (hr : h r = some (oI 304 rf)) (ha : 0 ≤ a9 ∧ a9 ≤ 2) (hP : ¬ RuleHolds 103 a9 b9 rf) : Ct g yX5_holdsIn (.code yX5_holdsIn cX5_holdsIn 4 (some .boolean)) 5 0 0 [vR k, vR r, vR s] h (Rt (some (vI 0)) h) := by
  refine Ct.of (by decide) (Nat.le_of_ble_eq_true rfl) (fun x hg C F => ?_)
  subst hg
  show T x 0 [(0, vR k), (1, vR r), (2, vR s)] [] h 0 0
  refine st_aload_n C 0 dX5_holdsIn_0 rfl rfl ?_
  refine st_getf C dX5_holdsIn_1 fl_X5_9 hk rfl ?_
  refine st_bipush C dX5_holdsIn_4 (by decide) (by decide) ?_
  refine st_icmp_ne (tgt := 16) C dX5_holdsIn_6 (by decide) (fun c_6 => ?_) (fun c_6 => by omega)
  refine st_iconst C dX5_holdsIn_16 (by decide) ?_
  refine st_istore_n C 3 dX5_holdsIn_17 rfl (by decide) rfl ?_
  show T x 18 [(0, vR k), (1, vR r), (2, vR s), (3, vI 0)] [] _ _ _
  have loop_18 : ∀ (n_18 : Nat) (i : Int), (0 ≤ i) → (i ≤ 64) → (∀ p, 0 ≤ p → p < i → ¬ BrkAt 103 a9 b9 rf p) → (64 - i).toNat < n_18 → T x 18 [(0, vR k), (1, vR r), (2, vR s), (3, vI i)] [] h 0 0 := by
    intro n_18
    induction n_18 with
    | zero => intro i g1 g2 g3 hm_18; exact absurd hm_18 (Nat.not_lt_zero _)
    | succ n_18 ih_18 =>
      intro i g1 g2 g3 hm_18
      refine st_iload_n C 3 dX5_holdsIn_18 rfl rfl ?_
      refine st_bipush C dX5_holdsIn_19 (by decide) (by decide) ?_
      refine st_icmp_ge (tgt := 41) C dX5_holdsIn_21 (by decide) (fun c_21 => ?_) (fun c_21 => ?_)
      · refine st_iconst C dX5_holdsIn_41 (by decide) ?_
        exact st_zreturn C F dX5_holdsIn_42 rfl (by omega) (rt_i (by first | rfl | exact absurd ⟨fun p q1 q2 => g3 p q1 (by omega), fun z9 => by omega⟩ hP) rfl) (by omega) (by omega)
      · refine st_aload_n C 0 dX5_holdsIn_24 rfl rfl ?_
        refine st_aload_n C 1 dX5_holdsIn_25 rfl rfl ?_
        refine st_iload_n C 3 dX5_holdsIn_26 rfl rfl ?_
        by_cases b_27 : BrkAt 103 a9 b9 rf i
        · refine st_callV (st := []) C dX5_holdsIn_27 [vR r, vI i] (k_rBrokeng_t (a9 := a9) (b9 := b9) (rf := rf) (p9 := i) hk hr (by omega) (by omega) b_27) hk w_X5_30 rfl (by decide) (by decide) (by omega) (by omega) (Nat.le_of_ble_eq_true rfl) (ko_rt ?_)
          show T x 30 [(0, vR k), (1, vR r), (2, vR s), (3, vI i)] [vI 1] _ _ _
          refine st_if_eq (tgt := 35) C dX5_holdsIn_30 (by decide) (fun c_30 => by omega) (fun c_30 => ?_)
          refine st_iconst C dX5_holdsIn_33 (by decide) ?_
          exact st_zreturn C F dX5_holdsIn_34 rfl (by omega) (rt_i (by first | rfl | exact absurd ⟨fun p q1 q2 => g3 p q1 (by omega), fun z9 => by omega⟩ hP) rfl) (by omega) (by omega)
        · refine st_callV (st := []) C dX5_holdsIn_27 [vR r, vI i] (k_rBrokeng_f (a9 := a9) (b9 := b9) (rf := rf) (p9 := i) hk hr (by omega) (by omega) b_27) hk w_X5_30 rfl (by decide) (by decide) (by omega) (by omega) (Nat.le_of_ble_eq_true rfl) (ko_rt ?_)
          show T x 30 [(0, vR k), (1, vR r), (2, vR s), (3, vI i)] [vI 0] _ _ _
          refine st_if_eq (tgt := 35) C dX5_holdsIn_30 (by decide) (fun c_30 => ?_) (fun c_30 => by omega)
          refine st_iinc C dX5_holdsIn_35 rfl (by decide) rfl ⟨(by omega), (by omega)⟩ ?_
          show T x 38 [(0, vR k), (1, vR r), (2, vR s), (3, vI (i + 1))] [] _ _ _
          refine st_goto (tgt := 18) C dX5_holdsIn_38 (by decide) ?_
          exact ih_18 (i + 1) (by omega) (by omega) (no_s g3 (by assumption)) (by omega)
  exact loop_18 _ 0 (by omega) (by omega) (no_0) (Nat.lt_succ_self _)
set_option maxRecDepth 20000 in
set_option maxHeartbeats 4000000 in
theorem k_rBrokenc_t {g : Gx} {h : HP} {k : Nat} {a9 b9 : Int} {r : Nat} {rf : Int → Int} {p9 : Int} (hk : h k = some (oO 4 [vI 99, vI a9, vI b9])) (hr : h r = some (oI 304 rf)) (hp : 0 ≤ p9 ∧ p9 ≤ 63) (ha : 0 ≤ a9 ∧ a9 ≤ 2) (hb9 : 0 ≤ b9 ∧ b9 ≤ 2) (hP : BrkAt 99 a9 b9 rf p9) : Ct g yX5_isBrokenAt (.code yX5_isBrokenAt cX5_isBrokenAt 5 (some .boolean)) 4 0 0 [vR k, vR r, vI p9] h (Rt (some (vI 1)) h) := by
  refine Ct.of (by decide) (Nat.le_of_ble_eq_true rfl) (fun x hg C F => ?_)
  subst hg
  rw [brk_c] at hP
  show T x 0 [(0, vR k), (1, vR r), (2, vI p9)] [] h 0 0
  refine st_aload_n C 0 dX5_isBrokenAt_0 rfl rfl ?_
  refine st_getf C dX5_isBrokenAt_1 fl_X5_9 hk rfl ?_
  refine st_bipush C dX5_isBrokenAt_4 (by decide) (by decide) ?_
  refine st_icmp_ne (tgt := 31) C dX5_isBrokenAt_6 (by decide) (fun c_6 => ?_) (fun c_6 => by omega)
  refine st_aload_n C 1 dX5_isBrokenAt_31 rfl rfl ?_
  refine st_aload_n C 0 dX5_isBrokenAt_32 rfl rfl ?_
  refine st_getf C dX5_isBrokenAt_33 fl_X5_15 hk rfl ?_
  refine st_iload_n C 2 dX5_isBrokenAt_36 rfl rfl ?_
  refine st_callS (st := []) C dX5_isBrokenAt_37 [vR r, vI a9, vI p9] (k_areaAt (f := rf) (l := a9) (p := p9) hr (by omega) (by omega)) w_X5_43 rfl (by decide) (by decide) (by omega) (by omega) (Nat.le_of_ble_eq_true rfl) (ko_rt ?_)
  show T x 40 [(0, vR k), (1, vR r), (2, vI p9)] [vI (rf (64 * a9 + p9))] _ _ _
  refine st_if_eq (tgt := 47) C dX5_isBrokenAt_40 (by decide) (fun c_40 => ?_) (fun c_40 => ?_)
  · refine st_iconst C dX5_isBrokenAt_47 (by decide) ?_
    refine st_istore_n C 3 dX5_isBrokenAt_48 rfl (by decide) rfl ?_
    show T x 49 [(0, vR k), (1, vR r), (2, vI p9), (3, vI 0)] [] _ _ _
    refine st_aload_n C 0 dX5_isBrokenAt_49 rfl rfl ?_
    refine st_getf C dX5_isBrokenAt_50 fl_X5_9 hk rfl ?_
    refine st_bipush C dX5_isBrokenAt_53 (by decide) (by decide) ?_
    refine st_icmp_ne (tgt := 77) C dX5_isBrokenAt_55 (by decide) (fun c_55 => ?_) (fun c_55 => by omega)
    refine st_aload_n C 1 dX5_isBrokenAt_77 rfl rfl ?_
    refine st_aload_n C 0 dX5_isBrokenAt_78 rfl rfl ?_
    refine st_getf C dX5_isBrokenAt_79 fl_X5_19 hk rfl ?_
    refine st_iload_n C 2 dX5_isBrokenAt_82 rfl rfl ?_
    refine st_callS (st := []) C dX5_isBrokenAt_83 [vR r, vI b9, vI p9] (k_areaAt (f := rf) (l := b9) (p := p9) hr (by omega) (by omega)) w_X5_43 rfl (by decide) (by decide) (by omega) (by omega) (Nat.le_of_ble_eq_true rfl) (ko_rt ?_)
    show T x 86 [(0, vR k), (1, vR r), (2, vI p9), (3, vI 0)] [vI (rf (64 * b9 + p9))] _ _ _
    refine st_if_eq (tgt := 93) C dX5_isBrokenAt_86 (by decide) (fun c_86 => ?_) (fun c_86 => ?_)
    · refine st_iconst C dX5_isBrokenAt_93 (by decide) ?_
      refine st_istore C dX5_isBrokenAt_94 (by decide) rfl ?_
      show T x 96 [(0, vR k), (1, vR r), (2, vI p9), (3, vI 0), (4, vI 0)] [] _ _ _
      refine st_iload_n C 3 dX5_isBrokenAt_96 rfl rfl ?_
      refine st_if_eq (tgt := 123) C dX5_isBrokenAt_97 (by decide) (fun c_97 => ?_) (fun c_97 => by omega)
      refine st_iconst C dX5_isBrokenAt_123 (by decide) ?_
      exact st_zreturn C F dX5_isBrokenAt_124 rfl (by omega) (rt_i (by first | rfl | (exfalso; omega) | exact absurd hP.2 (by assumption) | exact absurd hP.1 (by assumption) | exact absurd ⟨by assumption, by assumption⟩ hP) rfl) (by omega) (by omega)
    · refine st_iconst C dX5_isBrokenAt_89 (by decide) ?_
      refine st_goto (tgt := 94) C dX5_isBrokenAt_90 (by decide) ?_
      refine st_istore C dX5_isBrokenAt_94 (by decide) rfl ?_
      show T x 96 [(0, vR k), (1, vR r), (2, vI p9), (3, vI 0), (4, vI 1)] [] _ _ _
      refine st_iload_n C 3 dX5_isBrokenAt_96 rfl rfl ?_
      refine st_if_eq (tgt := 123) C dX5_isBrokenAt_97 (by decide) (fun c_97 => ?_) (fun c_97 => by omega)
      refine st_iconst C dX5_isBrokenAt_123 (by decide) ?_
      exact st_zreturn C F dX5_isBrokenAt_124 rfl (by omega) (rt_i (by first | rfl | (exfalso; omega) | exact absurd hP.2 (by assumption) | exact absurd hP.1 (by assumption) | exact absurd ⟨by assumption, by assumption⟩ hP) rfl) (by omega) (by omega)
  · refine st_iconst C dX5_isBrokenAt_43 (by decide) ?_
    refine st_goto (tgt := 48) C dX5_isBrokenAt_44 (by decide) ?_
    refine st_istore_n C 3 dX5_isBrokenAt_48 rfl (by decide) rfl ?_
    show T x 49 [(0, vR k), (1, vR r), (2, vI p9), (3, vI 1)] [] _ _ _
    refine st_aload_n C 0 dX5_isBrokenAt_49 rfl rfl ?_
    refine st_getf C dX5_isBrokenAt_50 fl_X5_9 hk rfl ?_
    refine st_bipush C dX5_isBrokenAt_53 (by decide) (by decide) ?_
    refine st_icmp_ne (tgt := 77) C dX5_isBrokenAt_55 (by decide) (fun c_55 => ?_) (fun c_55 => by omega)
    refine st_aload_n C 1 dX5_isBrokenAt_77 rfl rfl ?_
    refine st_aload_n C 0 dX5_isBrokenAt_78 rfl rfl ?_
    refine st_getf C dX5_isBrokenAt_79 fl_X5_19 hk rfl ?_
    refine st_iload_n C 2 dX5_isBrokenAt_82 rfl rfl ?_
    refine st_callS (st := []) C dX5_isBrokenAt_83 [vR r, vI b9, vI p9] (k_areaAt (f := rf) (l := b9) (p := p9) hr (by omega) (by omega)) w_X5_43 rfl (by decide) (by decide) (by omega) (by omega) (Nat.le_of_ble_eq_true rfl) (ko_rt ?_)
    show T x 86 [(0, vR k), (1, vR r), (2, vI p9), (3, vI 1)] [vI (rf (64 * b9 + p9))] _ _ _
    refine st_if_eq (tgt := 93) C dX5_isBrokenAt_86 (by decide) (fun c_86 => ?_) (fun c_86 => ?_)
    · refine st_iconst C dX5_isBrokenAt_93 (by decide) ?_
      refine st_istore C dX5_isBrokenAt_94 (by decide) rfl ?_
      show T x 96 [(0, vR k), (1, vR r), (2, vI p9), (3, vI 1), (4, vI 0)] [] _ _ _
      refine st_iload_n C 3 dX5_isBrokenAt_96 rfl rfl ?_
      refine st_if_eq (tgt := 123) C dX5_isBrokenAt_97 (by decide) (fun c_97 => by omega) (fun c_97 => ?_)
      refine st_iload C dX5_isBrokenAt_100 rfl ?_
      refine st_aload_n C 0 dX5_isBrokenAt_102 rfl rfl ?_
      refine st_getf C dX5_isBrokenAt_103 fl_X5_9 hk rfl ?_
      refine st_bipush C dX5_isBrokenAt_106 (by decide) (by decide) ?_
      refine st_icmp_ne (tgt := 115) C dX5_isBrokenAt_108 (by decide) (fun c_108 => ?_) (fun c_108 => by omega)
      refine st_iconst C dX5_isBrokenAt_115 (by decide) ?_
      refine st_icmp_ne (tgt := 123) C dX5_isBrokenAt_116 (by decide) (fun c_116 => by omega) (fun c_116 => ?_)
      refine st_iconst C dX5_isBrokenAt_119 (by decide) ?_
      refine st_goto (tgt := 124) C dX5_isBrokenAt_120 (by decide) ?_
      exact st_zreturn C F dX5_isBrokenAt_124 rfl (by omega) (rt_i (by first | rfl | (exfalso; omega) | exact absurd hP.2 (by assumption) | exact absurd hP.1 (by assumption) | exact absurd ⟨by assumption, by assumption⟩ hP) rfl) (by omega) (by omega)
    · refine st_iconst C dX5_isBrokenAt_89 (by decide) ?_
      refine st_goto (tgt := 94) C dX5_isBrokenAt_90 (by decide) ?_
      refine st_istore C dX5_isBrokenAt_94 (by decide) rfl ?_
      show T x 96 [(0, vR k), (1, vR r), (2, vI p9), (3, vI 1), (4, vI 1)] [] _ _ _
      refine st_iload_n C 3 dX5_isBrokenAt_96 rfl rfl ?_
      refine st_if_eq (tgt := 123) C dX5_isBrokenAt_97 (by decide) (fun c_97 => by omega) (fun c_97 => ?_)
      refine st_iload C dX5_isBrokenAt_100 rfl ?_
      refine st_aload_n C 0 dX5_isBrokenAt_102 rfl rfl ?_
      refine st_getf C dX5_isBrokenAt_103 fl_X5_9 hk rfl ?_
      refine st_bipush C dX5_isBrokenAt_106 (by decide) (by decide) ?_
      refine st_icmp_ne (tgt := 115) C dX5_isBrokenAt_108 (by decide) (fun c_108 => ?_) (fun c_108 => by omega)
      refine st_iconst C dX5_isBrokenAt_115 (by decide) ?_
      refine st_icmp_ne (tgt := 123) C dX5_isBrokenAt_116 (by decide) (fun c_116 => ?_) (fun c_116 => by omega)
      refine st_iconst C dX5_isBrokenAt_123 (by decide) ?_
      exact st_zreturn C F dX5_isBrokenAt_124 rfl (by omega) (rt_i (by first | rfl | (exfalso; omega) | exact absurd hP.2 (by assumption) | exact absurd hP.1 (by assumption) | exact absurd ⟨by assumption, by assumption⟩ hP) rfl) (by omega) (by omega)
set_option maxRecDepth 20000 in
set_option maxHeartbeats 4000000 in
theorem k_rBrokenc_f {g : Gx} {h : HP} {k : Nat} {a9 b9 : Int} {r : Nat} {rf : Int → Int} {p9 : Int} (hk : h k = some (oO 4 [vI 99, vI a9, vI b9])) (hr : h r = some (oI 304 rf)) (hp : 0 ≤ p9 ∧ p9 ≤ 63) (ha : 0 ≤ a9 ∧ a9 ≤ 2) (hb9 : 0 ≤ b9 ∧ b9 ≤ 2) (hP : ¬ BrkAt 99 a9 b9 rf p9) : Ct g yX5_isBrokenAt (.code yX5_isBrokenAt cX5_isBrokenAt 5 (some .boolean)) 4 0 0 [vR k, vR r, vI p9] h (Rt (some (vI 0)) h) := by
  refine Ct.of (by decide) (Nat.le_of_ble_eq_true rfl) (fun x hg C F => ?_)
  subst hg
  rw [brk_c] at hP
  show T x 0 [(0, vR k), (1, vR r), (2, vI p9)] [] h 0 0
  refine st_aload_n C 0 dX5_isBrokenAt_0 rfl rfl ?_
  refine st_getf C dX5_isBrokenAt_1 fl_X5_9 hk rfl ?_
  refine st_bipush C dX5_isBrokenAt_4 (by decide) (by decide) ?_
  refine st_icmp_ne (tgt := 31) C dX5_isBrokenAt_6 (by decide) (fun c_6 => ?_) (fun c_6 => by omega)
  refine st_aload_n C 1 dX5_isBrokenAt_31 rfl rfl ?_
  refine st_aload_n C 0 dX5_isBrokenAt_32 rfl rfl ?_
  refine st_getf C dX5_isBrokenAt_33 fl_X5_15 hk rfl ?_
  refine st_iload_n C 2 dX5_isBrokenAt_36 rfl rfl ?_
  refine st_callS (st := []) C dX5_isBrokenAt_37 [vR r, vI a9, vI p9] (k_areaAt (f := rf) (l := a9) (p := p9) hr (by omega) (by omega)) w_X5_43 rfl (by decide) (by decide) (by omega) (by omega) (Nat.le_of_ble_eq_true rfl) (ko_rt ?_)
  show T x 40 [(0, vR k), (1, vR r), (2, vI p9)] [vI (rf (64 * a9 + p9))] _ _ _
  refine st_if_eq (tgt := 47) C dX5_isBrokenAt_40 (by decide) (fun c_40 => ?_) (fun c_40 => ?_)
  · refine st_iconst C dX5_isBrokenAt_47 (by decide) ?_
    refine st_istore_n C 3 dX5_isBrokenAt_48 rfl (by decide) rfl ?_
    show T x 49 [(0, vR k), (1, vR r), (2, vI p9), (3, vI 0)] [] _ _ _
    refine st_aload_n C 0 dX5_isBrokenAt_49 rfl rfl ?_
    refine st_getf C dX5_isBrokenAt_50 fl_X5_9 hk rfl ?_
    refine st_bipush C dX5_isBrokenAt_53 (by decide) (by decide) ?_
    refine st_icmp_ne (tgt := 77) C dX5_isBrokenAt_55 (by decide) (fun c_55 => ?_) (fun c_55 => by omega)
    refine st_aload_n C 1 dX5_isBrokenAt_77 rfl rfl ?_
    refine st_aload_n C 0 dX5_isBrokenAt_78 rfl rfl ?_
    refine st_getf C dX5_isBrokenAt_79 fl_X5_19 hk rfl ?_
    refine st_iload_n C 2 dX5_isBrokenAt_82 rfl rfl ?_
    refine st_callS (st := []) C dX5_isBrokenAt_83 [vR r, vI b9, vI p9] (k_areaAt (f := rf) (l := b9) (p := p9) hr (by omega) (by omega)) w_X5_43 rfl (by decide) (by decide) (by omega) (by omega) (Nat.le_of_ble_eq_true rfl) (ko_rt ?_)
    show T x 86 [(0, vR k), (1, vR r), (2, vI p9), (3, vI 0)] [vI (rf (64 * b9 + p9))] _ _ _
    refine st_if_eq (tgt := 93) C dX5_isBrokenAt_86 (by decide) (fun c_86 => ?_) (fun c_86 => ?_)
    · refine st_iconst C dX5_isBrokenAt_93 (by decide) ?_
      refine st_istore C dX5_isBrokenAt_94 (by decide) rfl ?_
      show T x 96 [(0, vR k), (1, vR r), (2, vI p9), (3, vI 0), (4, vI 0)] [] _ _ _
      refine st_iload_n C 3 dX5_isBrokenAt_96 rfl rfl ?_
      refine st_if_eq (tgt := 123) C dX5_isBrokenAt_97 (by decide) (fun c_97 => ?_) (fun c_97 => by omega)
      refine st_iconst C dX5_isBrokenAt_123 (by decide) ?_
      exact st_zreturn C F dX5_isBrokenAt_124 rfl (by omega) (rt_i (by first | rfl | (exfalso; omega) | exact absurd hP.2 (by assumption) | exact absurd hP.1 (by assumption) | exact absurd ⟨by assumption, by assumption⟩ hP) rfl) (by omega) (by omega)
    · refine st_iconst C dX5_isBrokenAt_89 (by decide) ?_
      refine st_goto (tgt := 94) C dX5_isBrokenAt_90 (by decide) ?_
      refine st_istore C dX5_isBrokenAt_94 (by decide) rfl ?_
      show T x 96 [(0, vR k), (1, vR r), (2, vI p9), (3, vI 0), (4, vI 1)] [] _ _ _
      refine st_iload_n C 3 dX5_isBrokenAt_96 rfl rfl ?_
      refine st_if_eq (tgt := 123) C dX5_isBrokenAt_97 (by decide) (fun c_97 => ?_) (fun c_97 => by omega)
      refine st_iconst C dX5_isBrokenAt_123 (by decide) ?_
      exact st_zreturn C F dX5_isBrokenAt_124 rfl (by omega) (rt_i (by first | rfl | (exfalso; omega) | exact absurd hP.2 (by assumption) | exact absurd hP.1 (by assumption) | exact absurd ⟨by assumption, by assumption⟩ hP) rfl) (by omega) (by omega)
  · refine st_iconst C dX5_isBrokenAt_43 (by decide) ?_
    refine st_goto (tgt := 48) C dX5_isBrokenAt_44 (by decide) ?_
    refine st_istore_n C 3 dX5_isBrokenAt_48 rfl (by decide) rfl ?_
    show T x 49 [(0, vR k), (1, vR r), (2, vI p9), (3, vI 1)] [] _ _ _
    refine st_aload_n C 0 dX5_isBrokenAt_49 rfl rfl ?_
    refine st_getf C dX5_isBrokenAt_50 fl_X5_9 hk rfl ?_
    refine st_bipush C dX5_isBrokenAt_53 (by decide) (by decide) ?_
    refine st_icmp_ne (tgt := 77) C dX5_isBrokenAt_55 (by decide) (fun c_55 => ?_) (fun c_55 => by omega)
    refine st_aload_n C 1 dX5_isBrokenAt_77 rfl rfl ?_
    refine st_aload_n C 0 dX5_isBrokenAt_78 rfl rfl ?_
    refine st_getf C dX5_isBrokenAt_79 fl_X5_19 hk rfl ?_
    refine st_iload_n C 2 dX5_isBrokenAt_82 rfl rfl ?_
    refine st_callS (st := []) C dX5_isBrokenAt_83 [vR r, vI b9, vI p9] (k_areaAt (f := rf) (l := b9) (p := p9) hr (by omega) (by omega)) w_X5_43 rfl (by decide) (by decide) (by omega) (by omega) (Nat.le_of_ble_eq_true rfl) (ko_rt ?_)
    show T x 86 [(0, vR k), (1, vR r), (2, vI p9), (3, vI 1)] [vI (rf (64 * b9 + p9))] _ _ _
    refine st_if_eq (tgt := 93) C dX5_isBrokenAt_86 (by decide) (fun c_86 => ?_) (fun c_86 => ?_)
    · refine st_iconst C dX5_isBrokenAt_93 (by decide) ?_
      refine st_istore C dX5_isBrokenAt_94 (by decide) rfl ?_
      show T x 96 [(0, vR k), (1, vR r), (2, vI p9), (3, vI 1), (4, vI 0)] [] _ _ _
      refine st_iload_n C 3 dX5_isBrokenAt_96 rfl rfl ?_
      refine st_if_eq (tgt := 123) C dX5_isBrokenAt_97 (by decide) (fun c_97 => by omega) (fun c_97 => ?_)
      refine st_iload C dX5_isBrokenAt_100 rfl ?_
      refine st_aload_n C 0 dX5_isBrokenAt_102 rfl rfl ?_
      refine st_getf C dX5_isBrokenAt_103 fl_X5_9 hk rfl ?_
      refine st_bipush C dX5_isBrokenAt_106 (by decide) (by decide) ?_
      refine st_icmp_ne (tgt := 115) C dX5_isBrokenAt_108 (by decide) (fun c_108 => ?_) (fun c_108 => by omega)
      refine st_iconst C dX5_isBrokenAt_115 (by decide) ?_
      refine st_icmp_ne (tgt := 123) C dX5_isBrokenAt_116 (by decide) (fun c_116 => by omega) (fun c_116 => ?_)
      refine st_iconst C dX5_isBrokenAt_119 (by decide) ?_
      refine st_goto (tgt := 124) C dX5_isBrokenAt_120 (by decide) ?_
      exact st_zreturn C F dX5_isBrokenAt_124 rfl (by omega) (rt_i (by first | rfl | (exfalso; omega) | exact absurd hP.2 (by assumption) | exact absurd hP.1 (by assumption) | exact absurd ⟨by assumption, by assumption⟩ hP) rfl) (by omega) (by omega)
    · refine st_iconst C dX5_isBrokenAt_89 (by decide) ?_
      refine st_goto (tgt := 94) C dX5_isBrokenAt_90 (by decide) ?_
      refine st_istore C dX5_isBrokenAt_94 (by decide) rfl ?_
      show T x 96 [(0, vR k), (1, vR r), (2, vI p9), (3, vI 1), (4, vI 1)] [] _ _ _
      refine st_iload_n C 3 dX5_isBrokenAt_96 rfl rfl ?_
      refine st_if_eq (tgt := 123) C dX5_isBrokenAt_97 (by decide) (fun c_97 => by omega) (fun c_97 => ?_)
      refine st_iload C dX5_isBrokenAt_100 rfl ?_
      refine st_aload_n C 0 dX5_isBrokenAt_102 rfl rfl ?_
      refine st_getf C dX5_isBrokenAt_103 fl_X5_9 hk rfl ?_
      refine st_bipush C dX5_isBrokenAt_106 (by decide) (by decide) ?_
      refine st_icmp_ne (tgt := 115) C dX5_isBrokenAt_108 (by decide) (fun c_108 => ?_) (fun c_108 => by omega)
      refine st_iconst C dX5_isBrokenAt_115 (by decide) ?_
      refine st_icmp_ne (tgt := 123) C dX5_isBrokenAt_116 (by decide) (fun c_116 => ?_) (fun c_116 => by omega)
      refine st_iconst C dX5_isBrokenAt_123 (by decide) ?_
      exact st_zreturn C F dX5_isBrokenAt_124 rfl (by omega) (rt_i (by first | rfl | (exfalso; omega) | exact absurd hP.2 (by assumption) | exact absurd hP.1 (by assumption) | exact absurd ⟨by assumption, by assumption⟩ hP) rfl) (by omega) (by omega)
set_option maxRecDepth 20000 in
set_option maxHeartbeats 4000000 in
theorem k_holdsInc_t {g : Gx} {h : HP} {k : Nat} {a9 b9 : Int} {r : Nat} {rf : Int → Int} {s : Nat} (hk : h k = some (oO 4 [vI 99, vI a9, vI b9])) (hr : h r = some (oI 304 rf)) (ha : 0 ≤ a9 ∧ a9 ≤ 2) (hb9 : 0 ≤ b9 ∧ b9 ≤ 2) (hP : RuleHolds 99 a9 b9 rf) : Ct g yX5_holdsIn (.code yX5_holdsIn cX5_holdsIn 4 (some .boolean)) 5 0 0 [vR k, vR r, vR s] h (Rt (some (vI 1)) h) := by
  refine Ct.of (by decide) (Nat.le_of_ble_eq_true rfl) (fun x hg C F => ?_)
  subst hg
  show T x 0 [(0, vR k), (1, vR r), (2, vR s)] [] h 0 0
  refine st_aload_n C 0 dX5_holdsIn_0 rfl rfl ?_
  refine st_getf C dX5_holdsIn_1 fl_X5_9 hk rfl ?_
  refine st_bipush C dX5_holdsIn_4 (by decide) (by decide) ?_
  refine st_icmp_ne (tgt := 16) C dX5_holdsIn_6 (by decide) (fun c_6 => ?_) (fun c_6 => by omega)
  refine st_iconst C dX5_holdsIn_16 (by decide) ?_
  refine st_istore_n C 3 dX5_holdsIn_17 rfl (by decide) rfl ?_
  show T x 18 [(0, vR k), (1, vR r), (2, vR s), (3, vI 0)] [] _ _ _
  have loop_18 : ∀ (n_18 : Nat) (i : Int), (0 ≤ i) → (i ≤ 64) → (∀ p, 0 ≤ p → p < i → ¬ BrkAt 99 a9 b9 rf p) → (64 - i).toNat < n_18 → T x 18 [(0, vR k), (1, vR r), (2, vR s), (3, vI i)] [] h 0 0 := by
    intro n_18
    induction n_18 with
    | zero => intro i g1 g2 g3 hm_18; exact absurd hm_18 (Nat.not_lt_zero _)
    | succ n_18 ih_18 =>
      intro i g1 g2 g3 hm_18
      refine st_iload_n C 3 dX5_holdsIn_18 rfl rfl ?_
      refine st_bipush C dX5_holdsIn_19 (by decide) (by decide) ?_
      refine st_icmp_ge (tgt := 41) C dX5_holdsIn_21 (by decide) (fun c_21 => ?_) (fun c_21 => ?_)
      · refine st_iconst C dX5_holdsIn_41 (by decide) ?_
        exact st_zreturn C F dX5_holdsIn_42 rfl (by omega) (rt_i (by first | rfl | exact absurd (by assumption) (hP.1 i g1 (by omega))) rfl) (by omega) (by omega)
      · refine st_aload_n C 0 dX5_holdsIn_24 rfl rfl ?_
        refine st_aload_n C 1 dX5_holdsIn_25 rfl rfl ?_
        refine st_iload_n C 3 dX5_holdsIn_26 rfl rfl ?_
        by_cases b_27 : BrkAt 99 a9 b9 rf i
        · refine st_callV (st := []) C dX5_holdsIn_27 [vR r, vI i] (k_rBrokenc_t (a9 := a9) (b9 := b9) (rf := rf) (p9 := i) hk hr (by omega) (by omega) (by omega) b_27) hk w_X5_30 rfl (by decide) (by decide) (by omega) (by omega) (Nat.le_of_ble_eq_true rfl) (ko_rt ?_)
          show T x 30 [(0, vR k), (1, vR r), (2, vR s), (3, vI i)] [vI 1] _ _ _
          refine st_if_eq (tgt := 35) C dX5_holdsIn_30 (by decide) (fun c_30 => by omega) (fun c_30 => ?_)
          refine st_iconst C dX5_holdsIn_33 (by decide) ?_
          exact st_zreturn C F dX5_holdsIn_34 rfl (by omega) (rt_i (by first | rfl | exact absurd (by assumption) (hP.1 i g1 (by omega))) rfl) (by omega) (by omega)
        · refine st_callV (st := []) C dX5_holdsIn_27 [vR r, vI i] (k_rBrokenc_f (a9 := a9) (b9 := b9) (rf := rf) (p9 := i) hk hr (by omega) (by omega) (by omega) b_27) hk w_X5_30 rfl (by decide) (by decide) (by omega) (by omega) (Nat.le_of_ble_eq_true rfl) (ko_rt ?_)
          show T x 30 [(0, vR k), (1, vR r), (2, vR s), (3, vI i)] [vI 0] _ _ _
          refine st_if_eq (tgt := 35) C dX5_holdsIn_30 (by decide) (fun c_30 => ?_) (fun c_30 => by omega)
          refine st_iinc C dX5_holdsIn_35 rfl (by decide) rfl ⟨(by omega), (by omega)⟩ ?_
          show T x 38 [(0, vR k), (1, vR r), (2, vR s), (3, vI (i + 1))] [] _ _ _
          refine st_goto (tgt := 18) C dX5_holdsIn_38 (by decide) ?_
          exact ih_18 (i + 1) (by omega) (by omega) (no_s g3 (by assumption)) (by omega)
  exact loop_18 _ 0 (by omega) (by omega) (no_0) (Nat.lt_succ_self _)
set_option maxRecDepth 20000 in
set_option maxHeartbeats 4000000 in
theorem k_holdsInc_f {g : Gx} {h : HP} {k : Nat} {a9 b9 : Int} {r : Nat} {rf : Int → Int} {s : Nat} (hk : h k = some (oO 4 [vI 99, vI a9, vI b9])) (hr : h r = some (oI 304 rf)) (ha : 0 ≤ a9 ∧ a9 ≤ 2) (hb9 : 0 ≤ b9 ∧ b9 ≤ 2) (hP : ¬ RuleHolds 99 a9 b9 rf) : Ct g yX5_holdsIn (.code yX5_holdsIn cX5_holdsIn 4 (some .boolean)) 5 0 0 [vR k, vR r, vR s] h (Rt (some (vI 0)) h) := by
  refine Ct.of (by decide) (Nat.le_of_ble_eq_true rfl) (fun x hg C F => ?_)
  subst hg
  show T x 0 [(0, vR k), (1, vR r), (2, vR s)] [] h 0 0
  refine st_aload_n C 0 dX5_holdsIn_0 rfl rfl ?_
  refine st_getf C dX5_holdsIn_1 fl_X5_9 hk rfl ?_
  refine st_bipush C dX5_holdsIn_4 (by decide) (by decide) ?_
  refine st_icmp_ne (tgt := 16) C dX5_holdsIn_6 (by decide) (fun c_6 => ?_) (fun c_6 => by omega)
  refine st_iconst C dX5_holdsIn_16 (by decide) ?_
  refine st_istore_n C 3 dX5_holdsIn_17 rfl (by decide) rfl ?_
  show T x 18 [(0, vR k), (1, vR r), (2, vR s), (3, vI 0)] [] _ _ _
  have loop_18 : ∀ (n_18 : Nat) (i : Int), (0 ≤ i) → (i ≤ 64) → (∀ p, 0 ≤ p → p < i → ¬ BrkAt 99 a9 b9 rf p) → (64 - i).toNat < n_18 → T x 18 [(0, vR k), (1, vR r), (2, vR s), (3, vI i)] [] h 0 0 := by
    intro n_18
    induction n_18 with
    | zero => intro i g1 g2 g3 hm_18; exact absurd hm_18 (Nat.not_lt_zero _)
    | succ n_18 ih_18 =>
      intro i g1 g2 g3 hm_18
      refine st_iload_n C 3 dX5_holdsIn_18 rfl rfl ?_
      refine st_bipush C dX5_holdsIn_19 (by decide) (by decide) ?_
      refine st_icmp_ge (tgt := 41) C dX5_holdsIn_21 (by decide) (fun c_21 => ?_) (fun c_21 => ?_)
      · refine st_iconst C dX5_holdsIn_41 (by decide) ?_
        exact st_zreturn C F dX5_holdsIn_42 rfl (by omega) (rt_i (by first | rfl | exact absurd ⟨fun p q1 q2 => g3 p q1 (by omega), fun z9 => by omega⟩ hP) rfl) (by omega) (by omega)
      · refine st_aload_n C 0 dX5_holdsIn_24 rfl rfl ?_
        refine st_aload_n C 1 dX5_holdsIn_25 rfl rfl ?_
        refine st_iload_n C 3 dX5_holdsIn_26 rfl rfl ?_
        by_cases b_27 : BrkAt 99 a9 b9 rf i
        · refine st_callV (st := []) C dX5_holdsIn_27 [vR r, vI i] (k_rBrokenc_t (a9 := a9) (b9 := b9) (rf := rf) (p9 := i) hk hr (by omega) (by omega) (by omega) b_27) hk w_X5_30 rfl (by decide) (by decide) (by omega) (by omega) (Nat.le_of_ble_eq_true rfl) (ko_rt ?_)
          show T x 30 [(0, vR k), (1, vR r), (2, vR s), (3, vI i)] [vI 1] _ _ _
          refine st_if_eq (tgt := 35) C dX5_holdsIn_30 (by decide) (fun c_30 => by omega) (fun c_30 => ?_)
          refine st_iconst C dX5_holdsIn_33 (by decide) ?_
          exact st_zreturn C F dX5_holdsIn_34 rfl (by omega) (rt_i (by first | rfl | exact absurd ⟨fun p q1 q2 => g3 p q1 (by omega), fun z9 => by omega⟩ hP) rfl) (by omega) (by omega)
        · refine st_callV (st := []) C dX5_holdsIn_27 [vR r, vI i] (k_rBrokenc_f (a9 := a9) (b9 := b9) (rf := rf) (p9 := i) hk hr (by omega) (by omega) (by omega) b_27) hk w_X5_30 rfl (by decide) (by decide) (by omega) (by omega) (Nat.le_of_ble_eq_true rfl) (ko_rt ?_)
          show T x 30 [(0, vR k), (1, vR r), (2, vR s), (3, vI i)] [vI 0] _ _ _
          refine st_if_eq (tgt := 35) C dX5_holdsIn_30 (by decide) (fun c_30 => ?_) (fun c_30 => by omega)
          refine st_iinc C dX5_holdsIn_35 rfl (by decide) rfl ⟨(by omega), (by omega)⟩ ?_
          show T x 38 [(0, vR k), (1, vR r), (2, vR s), (3, vI (i + 1))] [] _ _ _
          refine st_goto (tgt := 18) C dX5_holdsIn_38 (by decide) ?_
          exact ih_18 (i + 1) (by omega) (by omega) (no_s g3 (by assumption)) (by omega)
  exact loop_18 _ 0 (by omega) (by omega) (no_0) (Nat.lt_succ_self _)
set_option maxRecDepth 20000 in
set_option maxHeartbeats 4000000 in
theorem k_rBrokenx_t {g : Gx} {h : HP} {k : Nat} {a9 b9 : Int} {r : Nat} {rf : Int → Int} {p9 : Int} (hk : h k = some (oO 4 [vI 120, vI a9, vI b9])) (hr : h r = some (oI 304 rf)) (hp : 0 ≤ p9 ∧ p9 ≤ 63) (ha : 0 ≤ a9 ∧ a9 ≤ 2) (hb9 : 0 ≤ b9 ∧ b9 ≤ 2) (hP : BrkAt 120 a9 b9 rf p9) : Ct g yX5_isBrokenAt (.code yX5_isBrokenAt cX5_isBrokenAt 5 (some .boolean)) 4 0 0 [vR k, vR r, vI p9] h (Rt (some (vI 1)) h) := by
  refine Ct.of (by decide) (Nat.le_of_ble_eq_true rfl) (fun x hg C F => ?_)
  subst hg
  rw [brk_x] at hP
  show T x 0 [(0, vR k), (1, vR r), (2, vI p9)] [] h 0 0
  refine st_aload_n C 0 dX5_isBrokenAt_0 rfl rfl ?_
  refine st_getf C dX5_isBrokenAt_1 fl_X5_9 hk rfl ?_
  refine st_bipush C dX5_isBrokenAt_4 (by decide) (by decide) ?_
  refine st_icmp_ne (tgt := 31) C dX5_isBrokenAt_6 (by decide) (fun c_6 => ?_) (fun c_6 => by omega)
  refine st_aload_n C 1 dX5_isBrokenAt_31 rfl rfl ?_
  refine st_aload_n C 0 dX5_isBrokenAt_32 rfl rfl ?_
  refine st_getf C dX5_isBrokenAt_33 fl_X5_15 hk rfl ?_
  refine st_iload_n C 2 dX5_isBrokenAt_36 rfl rfl ?_
  refine st_callS (st := []) C dX5_isBrokenAt_37 [vR r, vI a9, vI p9] (k_areaAt (f := rf) (l := a9) (p := p9) hr (by omega) (by omega)) w_X5_43 rfl (by decide) (by decide) (by omega) (by omega) (Nat.le_of_ble_eq_true rfl) (ko_rt ?_)
  show T x 40 [(0, vR k), (1, vR r), (2, vI p9)] [vI (rf (64 * a9 + p9))] _ _ _
  refine st_if_eq (tgt := 47) C dX5_isBrokenAt_40 (by decide) (fun c_40 => ?_) (fun c_40 => ?_)
  · refine st_iconst C dX5_isBrokenAt_47 (by decide) ?_
    refine st_istore_n C 3 dX5_isBrokenAt_48 rfl (by decide) rfl ?_
    show T x 49 [(0, vR k), (1, vR r), (2, vI p9), (3, vI 0)] [] _ _ _
    refine st_aload_n C 0 dX5_isBrokenAt_49 rfl rfl ?_
    refine st_getf C dX5_isBrokenAt_50 fl_X5_9 hk rfl ?_
    refine st_bipush C dX5_isBrokenAt_53 (by decide) (by decide) ?_
    refine st_icmp_ne (tgt := 77) C dX5_isBrokenAt_55 (by decide) (fun c_55 => ?_) (fun c_55 => by omega)
    refine st_aload_n C 1 dX5_isBrokenAt_77 rfl rfl ?_
    refine st_aload_n C 0 dX5_isBrokenAt_78 rfl rfl ?_
    refine st_getf C dX5_isBrokenAt_79 fl_X5_19 hk rfl ?_
    refine st_iload_n C 2 dX5_isBrokenAt_82 rfl rfl ?_
    refine st_callS (st := []) C dX5_isBrokenAt_83 [vR r, vI b9, vI p9] (k_areaAt (f := rf) (l := b9) (p := p9) hr (by omega) (by omega)) w_X5_43 rfl (by decide) (by decide) (by omega) (by omega) (Nat.le_of_ble_eq_true rfl) (ko_rt ?_)
    show T x 86 [(0, vR k), (1, vR r), (2, vI p9), (3, vI 0)] [vI (rf (64 * b9 + p9))] _ _ _
    refine st_if_eq (tgt := 93) C dX5_isBrokenAt_86 (by decide) (fun c_86 => ?_) (fun c_86 => ?_)
    · refine st_iconst C dX5_isBrokenAt_93 (by decide) ?_
      refine st_istore C dX5_isBrokenAt_94 (by decide) rfl ?_
      show T x 96 [(0, vR k), (1, vR r), (2, vI p9), (3, vI 0), (4, vI 0)] [] _ _ _
      refine st_iload_n C 3 dX5_isBrokenAt_96 rfl rfl ?_
      refine st_if_eq (tgt := 123) C dX5_isBrokenAt_97 (by decide) (fun c_97 => ?_) (fun c_97 => by omega)
      refine st_iconst C dX5_isBrokenAt_123 (by decide) ?_
      exact st_zreturn C F dX5_isBrokenAt_124 rfl (by omega) (rt_i (by first | rfl | (exfalso; omega) | exact absurd hP.2 (by assumption) | exact absurd hP.1 (by assumption) | exact absurd ⟨by assumption, by assumption⟩ hP) rfl) (by omega) (by omega)
    · refine st_iconst C dX5_isBrokenAt_89 (by decide) ?_
      refine st_goto (tgt := 94) C dX5_isBrokenAt_90 (by decide) ?_
      refine st_istore C dX5_isBrokenAt_94 (by decide) rfl ?_
      show T x 96 [(0, vR k), (1, vR r), (2, vI p9), (3, vI 0), (4, vI 1)] [] _ _ _
      refine st_iload_n C 3 dX5_isBrokenAt_96 rfl rfl ?_
      refine st_if_eq (tgt := 123) C dX5_isBrokenAt_97 (by decide) (fun c_97 => ?_) (fun c_97 => by omega)
      refine st_iconst C dX5_isBrokenAt_123 (by decide) ?_
      exact st_zreturn C F dX5_isBrokenAt_124 rfl (by omega) (rt_i (by first | rfl | (exfalso; omega) | exact absurd hP.2 (by assumption) | exact absurd hP.1 (by assumption) | exact absurd ⟨by assumption, by assumption⟩ hP) rfl) (by omega) (by omega)
  · refine st_iconst C dX5_isBrokenAt_43 (by decide) ?_
    refine st_goto (tgt := 48) C dX5_isBrokenAt_44 (by decide) ?_
    refine st_istore_n C 3 dX5_isBrokenAt_48 rfl (by decide) rfl ?_
    show T x 49 [(0, vR k), (1, vR r), (2, vI p9), (3, vI 1)] [] _ _ _
    refine st_aload_n C 0 dX5_isBrokenAt_49 rfl rfl ?_
    refine st_getf C dX5_isBrokenAt_50 fl_X5_9 hk rfl ?_
    refine st_bipush C dX5_isBrokenAt_53 (by decide) (by decide) ?_
    refine st_icmp_ne (tgt := 77) C dX5_isBrokenAt_55 (by decide) (fun c_55 => ?_) (fun c_55 => by omega)
    refine st_aload_n C 1 dX5_isBrokenAt_77 rfl rfl ?_
    refine st_aload_n C 0 dX5_isBrokenAt_78 rfl rfl ?_
    refine st_getf C dX5_isBrokenAt_79 fl_X5_19 hk rfl ?_
    refine st_iload_n C 2 dX5_isBrokenAt_82 rfl rfl ?_
    refine st_callS (st := []) C dX5_isBrokenAt_83 [vR r, vI b9, vI p9] (k_areaAt (f := rf) (l := b9) (p := p9) hr (by omega) (by omega)) w_X5_43 rfl (by decide) (by decide) (by omega) (by omega) (Nat.le_of_ble_eq_true rfl) (ko_rt ?_)
    show T x 86 [(0, vR k), (1, vR r), (2, vI p9), (3, vI 1)] [vI (rf (64 * b9 + p9))] _ _ _
    refine st_if_eq (tgt := 93) C dX5_isBrokenAt_86 (by decide) (fun c_86 => ?_) (fun c_86 => ?_)
    · refine st_iconst C dX5_isBrokenAt_93 (by decide) ?_
      refine st_istore C dX5_isBrokenAt_94 (by decide) rfl ?_
      show T x 96 [(0, vR k), (1, vR r), (2, vI p9), (3, vI 1), (4, vI 0)] [] _ _ _
      refine st_iload_n C 3 dX5_isBrokenAt_96 rfl rfl ?_
      refine st_if_eq (tgt := 123) C dX5_isBrokenAt_97 (by decide) (fun c_97 => by omega) (fun c_97 => ?_)
      refine st_iload C dX5_isBrokenAt_100 rfl ?_
      refine st_aload_n C 0 dX5_isBrokenAt_102 rfl rfl ?_
      refine st_getf C dX5_isBrokenAt_103 fl_X5_9 hk rfl ?_
      refine st_bipush C dX5_isBrokenAt_106 (by decide) (by decide) ?_
      refine st_icmp_ne (tgt := 115) C dX5_isBrokenAt_108 (by decide) (fun c_108 => by omega) (fun c_108 => ?_)
      refine st_iconst C dX5_isBrokenAt_111 (by decide) ?_
      refine st_goto (tgt := 116) C dX5_isBrokenAt_112 (by decide) ?_
      refine st_icmp_ne (tgt := 123) C dX5_isBrokenAt_116 (by decide) (fun c_116 => ?_) (fun c_116 => by omega)
      refine st_iconst C dX5_isBrokenAt_123 (by decide) ?_
      exact st_zreturn C F dX5_isBrokenAt_124 rfl (by omega) (rt_i (by first | rfl | (exfalso; omega) | exact absurd hP.2 (by assumption) | exact absurd hP.1 (by assumption) | exact absurd ⟨by assumption, by assumption⟩ hP) rfl) (by omega) (by omega)
    · refine st_iconst C dX5_isBrokenAt_89 (by decide) ?_
      refine st_goto (tgt := 94) C dX5_isBrokenAt_90 (by decide) ?_
      refine st_istore C dX5_isBrokenAt_94 (by decide) rfl ?_
      show T x 96 [(0, vR k), (1, vR r), (2, vI p9), (3, vI 1), (4, vI 1)] [] _ _ _
      refine st_iload_n C 3 dX5_isBrokenAt_96 rfl rfl ?_
      refine st_if_eq (tgt := 123) C dX5_isBrokenAt_97 (by decide) (fun c_97 => by omega) (fun c_97 => ?_)
      refine st_iload C dX5_isBrokenAt_100 rfl ?_
      refine st_aload_n C 0 dX5_isBrokenAt_102 rfl rfl ?_
      refine st_getf C dX5_isBrokenAt_103 fl_X5_9 hk rfl ?_
      refine st_bipush C dX5_isBrokenAt_106 (by decide) (by decide) ?_
      refine st_icmp_ne (tgt := 115) C dX5_isBrokenAt_108 (by decide) (fun c_108 => by omega) (fun c_108 => ?_)
      refine st_iconst C dX5_isBrokenAt_111 (by decide) ?_
      refine st_goto (tgt := 116) C dX5_isBrokenAt_112 (by decide) ?_
      refine st_icmp_ne (tgt := 123) C dX5_isBrokenAt_116 (by decide) (fun c_116 => by omega) (fun c_116 => ?_)
      refine st_iconst C dX5_isBrokenAt_119 (by decide) ?_
      refine st_goto (tgt := 124) C dX5_isBrokenAt_120 (by decide) ?_
      exact st_zreturn C F dX5_isBrokenAt_124 rfl (by omega) (rt_i (by first | rfl | (exfalso; omega) | exact absurd hP.2 (by assumption) | exact absurd hP.1 (by assumption) | exact absurd ⟨by assumption, by assumption⟩ hP) rfl) (by omega) (by omega)
set_option maxRecDepth 20000 in
set_option maxHeartbeats 4000000 in
theorem k_rBrokenx_f {g : Gx} {h : HP} {k : Nat} {a9 b9 : Int} {r : Nat} {rf : Int → Int} {p9 : Int} (hk : h k = some (oO 4 [vI 120, vI a9, vI b9])) (hr : h r = some (oI 304 rf)) (hp : 0 ≤ p9 ∧ p9 ≤ 63) (ha : 0 ≤ a9 ∧ a9 ≤ 2) (hb9 : 0 ≤ b9 ∧ b9 ≤ 2) (hP : ¬ BrkAt 120 a9 b9 rf p9) : Ct g yX5_isBrokenAt (.code yX5_isBrokenAt cX5_isBrokenAt 5 (some .boolean)) 4 0 0 [vR k, vR r, vI p9] h (Rt (some (vI 0)) h) := by
  refine Ct.of (by decide) (Nat.le_of_ble_eq_true rfl) (fun x hg C F => ?_)
  subst hg
  rw [brk_x] at hP
  show T x 0 [(0, vR k), (1, vR r), (2, vI p9)] [] h 0 0
  refine st_aload_n C 0 dX5_isBrokenAt_0 rfl rfl ?_
  refine st_getf C dX5_isBrokenAt_1 fl_X5_9 hk rfl ?_
  refine st_bipush C dX5_isBrokenAt_4 (by decide) (by decide) ?_
  refine st_icmp_ne (tgt := 31) C dX5_isBrokenAt_6 (by decide) (fun c_6 => ?_) (fun c_6 => by omega)
  refine st_aload_n C 1 dX5_isBrokenAt_31 rfl rfl ?_
  refine st_aload_n C 0 dX5_isBrokenAt_32 rfl rfl ?_
  refine st_getf C dX5_isBrokenAt_33 fl_X5_15 hk rfl ?_
  refine st_iload_n C 2 dX5_isBrokenAt_36 rfl rfl ?_
  refine st_callS (st := []) C dX5_isBrokenAt_37 [vR r, vI a9, vI p9] (k_areaAt (f := rf) (l := a9) (p := p9) hr (by omega) (by omega)) w_X5_43 rfl (by decide) (by decide) (by omega) (by omega) (Nat.le_of_ble_eq_true rfl) (ko_rt ?_)
  show T x 40 [(0, vR k), (1, vR r), (2, vI p9)] [vI (rf (64 * a9 + p9))] _ _ _
  refine st_if_eq (tgt := 47) C dX5_isBrokenAt_40 (by decide) (fun c_40 => ?_) (fun c_40 => ?_)
  · refine st_iconst C dX5_isBrokenAt_47 (by decide) ?_
    refine st_istore_n C 3 dX5_isBrokenAt_48 rfl (by decide) rfl ?_
    show T x 49 [(0, vR k), (1, vR r), (2, vI p9), (3, vI 0)] [] _ _ _
    refine st_aload_n C 0 dX5_isBrokenAt_49 rfl rfl ?_
    refine st_getf C dX5_isBrokenAt_50 fl_X5_9 hk rfl ?_
    refine st_bipush C dX5_isBrokenAt_53 (by decide) (by decide) ?_
    refine st_icmp_ne (tgt := 77) C dX5_isBrokenAt_55 (by decide) (fun c_55 => ?_) (fun c_55 => by omega)
    refine st_aload_n C 1 dX5_isBrokenAt_77 rfl rfl ?_
    refine st_aload_n C 0 dX5_isBrokenAt_78 rfl rfl ?_
    refine st_getf C dX5_isBrokenAt_79 fl_X5_19 hk rfl ?_
    refine st_iload_n C 2 dX5_isBrokenAt_82 rfl rfl ?_
    refine st_callS (st := []) C dX5_isBrokenAt_83 [vR r, vI b9, vI p9] (k_areaAt (f := rf) (l := b9) (p := p9) hr (by omega) (by omega)) w_X5_43 rfl (by decide) (by decide) (by omega) (by omega) (Nat.le_of_ble_eq_true rfl) (ko_rt ?_)
    show T x 86 [(0, vR k), (1, vR r), (2, vI p9), (3, vI 0)] [vI (rf (64 * b9 + p9))] _ _ _
    refine st_if_eq (tgt := 93) C dX5_isBrokenAt_86 (by decide) (fun c_86 => ?_) (fun c_86 => ?_)
    · refine st_iconst C dX5_isBrokenAt_93 (by decide) ?_
      refine st_istore C dX5_isBrokenAt_94 (by decide) rfl ?_
      show T x 96 [(0, vR k), (1, vR r), (2, vI p9), (3, vI 0), (4, vI 0)] [] _ _ _
      refine st_iload_n C 3 dX5_isBrokenAt_96 rfl rfl ?_
      refine st_if_eq (tgt := 123) C dX5_isBrokenAt_97 (by decide) (fun c_97 => ?_) (fun c_97 => by omega)
      refine st_iconst C dX5_isBrokenAt_123 (by decide) ?_
      exact st_zreturn C F dX5_isBrokenAt_124 rfl (by omega) (rt_i (by first | rfl | (exfalso; omega) | exact absurd hP.2 (by assumption) | exact absurd hP.1 (by assumption) | exact absurd ⟨by assumption, by assumption⟩ hP) rfl) (by omega) (by omega)
    · refine st_iconst C dX5_isBrokenAt_89 (by decide) ?_
      refine st_goto (tgt := 94) C dX5_isBrokenAt_90 (by decide) ?_
      refine st_istore C dX5_isBrokenAt_94 (by decide) rfl ?_
      show T x 96 [(0, vR k), (1, vR r), (2, vI p9), (3, vI 0), (4, vI 1)] [] _ _ _
      refine st_iload_n C 3 dX5_isBrokenAt_96 rfl rfl ?_
      refine st_if_eq (tgt := 123) C dX5_isBrokenAt_97 (by decide) (fun c_97 => ?_) (fun c_97 => by omega)
      refine st_iconst C dX5_isBrokenAt_123 (by decide) ?_
      exact st_zreturn C F dX5_isBrokenAt_124 rfl (by omega) (rt_i (by first | rfl | (exfalso; omega) | exact absurd hP.2 (by assumption) | exact absurd hP.1 (by assumption) | exact absurd ⟨by assumption, by assumption⟩ hP) rfl) (by omega) (by omega)
  · refine st_iconst C dX5_isBrokenAt_43 (by decide) ?_
    refine st_goto (tgt := 48) C dX5_isBrokenAt_44 (by decide) ?_
    refine st_istore_n C 3 dX5_isBrokenAt_48 rfl (by decide) rfl ?_
    show T x 49 [(0, vR k), (1, vR r), (2, vI p9), (3, vI 1)] [] _ _ _
    refine st_aload_n C 0 dX5_isBrokenAt_49 rfl rfl ?_
    refine st_getf C dX5_isBrokenAt_50 fl_X5_9 hk rfl ?_
    refine st_bipush C dX5_isBrokenAt_53 (by decide) (by decide) ?_
    refine st_icmp_ne (tgt := 77) C dX5_isBrokenAt_55 (by decide) (fun c_55 => ?_) (fun c_55 => by omega)
    refine st_aload_n C 1 dX5_isBrokenAt_77 rfl rfl ?_
    refine st_aload_n C 0 dX5_isBrokenAt_78 rfl rfl ?_
    refine st_getf C dX5_isBrokenAt_79 fl_X5_19 hk rfl ?_
    refine st_iload_n C 2 dX5_isBrokenAt_82 rfl rfl ?_
    refine st_callS (st := []) C dX5_isBrokenAt_83 [vR r, vI b9, vI p9] (k_areaAt (f := rf) (l := b9) (p := p9) hr (by omega) (by omega)) w_X5_43 rfl (by decide) (by decide) (by omega) (by omega) (Nat.le_of_ble_eq_true rfl) (ko_rt ?_)
    show T x 86 [(0, vR k), (1, vR r), (2, vI p9), (3, vI 1)] [vI (rf (64 * b9 + p9))] _ _ _
    refine st_if_eq (tgt := 93) C dX5_isBrokenAt_86 (by decide) (fun c_86 => ?_) (fun c_86 => ?_)
    · refine st_iconst C dX5_isBrokenAt_93 (by decide) ?_
      refine st_istore C dX5_isBrokenAt_94 (by decide) rfl ?_
      show T x 96 [(0, vR k), (1, vR r), (2, vI p9), (3, vI 1), (4, vI 0)] [] _ _ _
      refine st_iload_n C 3 dX5_isBrokenAt_96 rfl rfl ?_
      refine st_if_eq (tgt := 123) C dX5_isBrokenAt_97 (by decide) (fun c_97 => by omega) (fun c_97 => ?_)
      refine st_iload C dX5_isBrokenAt_100 rfl ?_
      refine st_aload_n C 0 dX5_isBrokenAt_102 rfl rfl ?_
      refine st_getf C dX5_isBrokenAt_103 fl_X5_9 hk rfl ?_
      refine st_bipush C dX5_isBrokenAt_106 (by decide) (by decide) ?_
      refine st_icmp_ne (tgt := 115) C dX5_isBrokenAt_108 (by decide) (fun c_108 => by omega) (fun c_108 => ?_)
      refine st_iconst C dX5_isBrokenAt_111 (by decide) ?_
      refine st_goto (tgt := 116) C dX5_isBrokenAt_112 (by decide) ?_
      refine st_icmp_ne (tgt := 123) C dX5_isBrokenAt_116 (by decide) (fun c_116 => ?_) (fun c_116 => by omega)
      refine st_iconst C dX5_isBrokenAt_123 (by decide) ?_
      exact st_zreturn C F dX5_isBrokenAt_124 rfl (by omega) (rt_i (by first | rfl | (exfalso; omega) | exact absurd hP.2 (by assumption) | exact absurd hP.1 (by assumption) | exact absurd ⟨by assumption, by assumption⟩ hP) rfl) (by omega) (by omega)
    · refine st_iconst C dX5_isBrokenAt_89 (by decide) ?_
      refine st_goto (tgt := 94) C dX5_isBrokenAt_90 (by decide) ?_
      refine st_istore C dX5_isBrokenAt_94 (by decide) rfl ?_
      show T x 96 [(0, vR k), (1, vR r), (2, vI p9), (3, vI 1), (4, vI 1)] [] _ _ _
      refine st_iload_n C 3 dX5_isBrokenAt_96 rfl rfl ?_
      refine st_if_eq (tgt := 123) C dX5_isBrokenAt_97 (by decide) (fun c_97 => by omega) (fun c_97 => ?_)
      refine st_iload C dX5_isBrokenAt_100 rfl ?_
      refine st_aload_n C 0 dX5_isBrokenAt_102 rfl rfl ?_
      refine st_getf C dX5_isBrokenAt_103 fl_X5_9 hk rfl ?_
      refine st_bipush C dX5_isBrokenAt_106 (by decide) (by decide) ?_
      refine st_icmp_ne (tgt := 115) C dX5_isBrokenAt_108 (by decide) (fun c_108 => by omega) (fun c_108 => ?_)
      refine st_iconst C dX5_isBrokenAt_111 (by decide) ?_
      refine st_goto (tgt := 116) C dX5_isBrokenAt_112 (by decide) ?_
      refine st_icmp_ne (tgt := 123) C dX5_isBrokenAt_116 (by decide) (fun c_116 => by omega) (fun c_116 => ?_)
      refine st_iconst C dX5_isBrokenAt_119 (by decide) ?_
      refine st_goto (tgt := 124) C dX5_isBrokenAt_120 (by decide) ?_
      exact st_zreturn C F dX5_isBrokenAt_124 rfl (by omega) (rt_i (by first | rfl | (exfalso; omega) | exact absurd hP.2 (by assumption) | exact absurd hP.1 (by assumption) | exact absurd ⟨by assumption, by assumption⟩ hP) rfl) (by omega) (by omega)
set_option maxRecDepth 20000 in
set_option maxHeartbeats 4000000 in
theorem k_holdsInx_t {g : Gx} {h : HP} {k : Nat} {a9 b9 : Int} {r : Nat} {rf : Int → Int} {s : Nat} (hk : h k = some (oO 4 [vI 120, vI a9, vI b9])) (hr : h r = some (oI 304 rf)) (ha : 0 ≤ a9 ∧ a9 ≤ 2) (hb9 : 0 ≤ b9 ∧ b9 ≤ 2) (hP : RuleHolds 120 a9 b9 rf) : Ct g yX5_holdsIn (.code yX5_holdsIn cX5_holdsIn 4 (some .boolean)) 5 0 0 [vR k, vR r, vR s] h (Rt (some (vI 1)) h) := by
  refine Ct.of (by decide) (Nat.le_of_ble_eq_true rfl) (fun x hg C F => ?_)
  subst hg
  show T x 0 [(0, vR k), (1, vR r), (2, vR s)] [] h 0 0
  refine st_aload_n C 0 dX5_holdsIn_0 rfl rfl ?_
  refine st_getf C dX5_holdsIn_1 fl_X5_9 hk rfl ?_
  refine st_bipush C dX5_holdsIn_4 (by decide) (by decide) ?_
  refine st_icmp_ne (tgt := 16) C dX5_holdsIn_6 (by decide) (fun c_6 => ?_) (fun c_6 => by omega)
  refine st_iconst C dX5_holdsIn_16 (by decide) ?_
  refine st_istore_n C 3 dX5_holdsIn_17 rfl (by decide) rfl ?_
  show T x 18 [(0, vR k), (1, vR r), (2, vR s), (3, vI 0)] [] _ _ _
  have loop_18 : ∀ (n_18 : Nat) (i : Int), (0 ≤ i) → (i ≤ 64) → (∀ p, 0 ≤ p → p < i → ¬ BrkAt 120 a9 b9 rf p) → (64 - i).toNat < n_18 → T x 18 [(0, vR k), (1, vR r), (2, vR s), (3, vI i)] [] h 0 0 := by
    intro n_18
    induction n_18 with
    | zero => intro i g1 g2 g3 hm_18; exact absurd hm_18 (Nat.not_lt_zero _)
    | succ n_18 ih_18 =>
      intro i g1 g2 g3 hm_18
      refine st_iload_n C 3 dX5_holdsIn_18 rfl rfl ?_
      refine st_bipush C dX5_holdsIn_19 (by decide) (by decide) ?_
      refine st_icmp_ge (tgt := 41) C dX5_holdsIn_21 (by decide) (fun c_21 => ?_) (fun c_21 => ?_)
      · refine st_iconst C dX5_holdsIn_41 (by decide) ?_
        exact st_zreturn C F dX5_holdsIn_42 rfl (by omega) (rt_i (by first | rfl | exact absurd (by assumption) (hP.1 i g1 (by omega))) rfl) (by omega) (by omega)
      · refine st_aload_n C 0 dX5_holdsIn_24 rfl rfl ?_
        refine st_aload_n C 1 dX5_holdsIn_25 rfl rfl ?_
        refine st_iload_n C 3 dX5_holdsIn_26 rfl rfl ?_
        by_cases b_27 : BrkAt 120 a9 b9 rf i
        · refine st_callV (st := []) C dX5_holdsIn_27 [vR r, vI i] (k_rBrokenx_t (a9 := a9) (b9 := b9) (rf := rf) (p9 := i) hk hr (by omega) (by omega) (by omega) b_27) hk w_X5_30 rfl (by decide) (by decide) (by omega) (by omega) (Nat.le_of_ble_eq_true rfl) (ko_rt ?_)
          show T x 30 [(0, vR k), (1, vR r), (2, vR s), (3, vI i)] [vI 1] _ _ _
          refine st_if_eq (tgt := 35) C dX5_holdsIn_30 (by decide) (fun c_30 => by omega) (fun c_30 => ?_)
          refine st_iconst C dX5_holdsIn_33 (by decide) ?_
          exact st_zreturn C F dX5_holdsIn_34 rfl (by omega) (rt_i (by first | rfl | exact absurd (by assumption) (hP.1 i g1 (by omega))) rfl) (by omega) (by omega)
        · refine st_callV (st := []) C dX5_holdsIn_27 [vR r, vI i] (k_rBrokenx_f (a9 := a9) (b9 := b9) (rf := rf) (p9 := i) hk hr (by omega) (by omega) (by omega) b_27) hk w_X5_30 rfl (by decide) (by decide) (by omega) (by omega) (Nat.le_of_ble_eq_true rfl) (ko_rt ?_)
          show T x 30 [(0, vR k), (1, vR r), (2, vR s), (3, vI i)] [vI 0] _ _ _
          refine st_if_eq (tgt := 35) C dX5_holdsIn_30 (by decide) (fun c_30 => ?_) (fun c_30 => by omega)
          refine st_iinc C dX5_holdsIn_35 rfl (by decide) rfl ⟨(by omega), (by omega)⟩ ?_
          show T x 38 [(0, vR k), (1, vR r), (2, vR s), (3, vI (i + 1))] [] _ _ _
          refine st_goto (tgt := 18) C dX5_holdsIn_38 (by decide) ?_
          exact ih_18 (i + 1) (by omega) (by omega) (no_s g3 (by assumption)) (by omega)
  exact loop_18 _ 0 (by omega) (by omega) (no_0) (Nat.lt_succ_self _)
set_option maxRecDepth 20000 in
set_option maxHeartbeats 4000000 in
theorem k_holdsInx_f {g : Gx} {h : HP} {k : Nat} {a9 b9 : Int} {r : Nat} {rf : Int → Int} {s : Nat} (hk : h k = some (oO 4 [vI 120, vI a9, vI b9])) (hr : h r = some (oI 304 rf)) (ha : 0 ≤ a9 ∧ a9 ≤ 2) (hb9 : 0 ≤ b9 ∧ b9 ≤ 2) (hP : ¬ RuleHolds 120 a9 b9 rf) : Ct g yX5_holdsIn (.code yX5_holdsIn cX5_holdsIn 4 (some .boolean)) 5 0 0 [vR k, vR r, vR s] h (Rt (some (vI 0)) h) := by
  refine Ct.of (by decide) (Nat.le_of_ble_eq_true rfl) (fun x hg C F => ?_)
  subst hg
  show T x 0 [(0, vR k), (1, vR r), (2, vR s)] [] h 0 0
  refine st_aload_n C 0 dX5_holdsIn_0 rfl rfl ?_
  refine st_getf C dX5_holdsIn_1 fl_X5_9 hk rfl ?_
  refine st_bipush C dX5_holdsIn_4 (by decide) (by decide) ?_
  refine st_icmp_ne (tgt := 16) C dX5_holdsIn_6 (by decide) (fun c_6 => ?_) (fun c_6 => by omega)
  refine st_iconst C dX5_holdsIn_16 (by decide) ?_
  refine st_istore_n C 3 dX5_holdsIn_17 rfl (by decide) rfl ?_
  show T x 18 [(0, vR k), (1, vR r), (2, vR s), (3, vI 0)] [] _ _ _
  have loop_18 : ∀ (n_18 : Nat) (i : Int), (0 ≤ i) → (i ≤ 64) → (∀ p, 0 ≤ p → p < i → ¬ BrkAt 120 a9 b9 rf p) → (64 - i).toNat < n_18 → T x 18 [(0, vR k), (1, vR r), (2, vR s), (3, vI i)] [] h 0 0 := by
    intro n_18
    induction n_18 with
    | zero => intro i g1 g2 g3 hm_18; exact absurd hm_18 (Nat.not_lt_zero _)
    | succ n_18 ih_18 =>
      intro i g1 g2 g3 hm_18
      refine st_iload_n C 3 dX5_holdsIn_18 rfl rfl ?_
      refine st_bipush C dX5_holdsIn_19 (by decide) (by decide) ?_
      refine st_icmp_ge (tgt := 41) C dX5_holdsIn_21 (by decide) (fun c_21 => ?_) (fun c_21 => ?_)
      · refine st_iconst C dX5_holdsIn_41 (by decide) ?_
        exact st_zreturn C F dX5_holdsIn_42 rfl (by omega) (rt_i (by first | rfl | exact absurd ⟨fun p q1 q2 => g3 p q1 (by omega), fun z9 => by omega⟩ hP) rfl) (by omega) (by omega)
      · refine st_aload_n C 0 dX5_holdsIn_24 rfl rfl ?_
        refine st_aload_n C 1 dX5_holdsIn_25 rfl rfl ?_
        refine st_iload_n C 3 dX5_holdsIn_26 rfl rfl ?_
        by_cases b_27 : BrkAt 120 a9 b9 rf i
        · refine st_callV (st := []) C dX5_holdsIn_27 [vR r, vI i] (k_rBrokenx_t (a9 := a9) (b9 := b9) (rf := rf) (p9 := i) hk hr (by omega) (by omega) (by omega) b_27) hk w_X5_30 rfl (by decide) (by decide) (by omega) (by omega) (Nat.le_of_ble_eq_true rfl) (ko_rt ?_)
          show T x 30 [(0, vR k), (1, vR r), (2, vR s), (3, vI i)] [vI 1] _ _ _
          refine st_if_eq (tgt := 35) C dX5_holdsIn_30 (by decide) (fun c_30 => by omega) (fun c_30 => ?_)
          refine st_iconst C dX5_holdsIn_33 (by decide) ?_
          exact st_zreturn C F dX5_holdsIn_34 rfl (by omega) (rt_i (by first | rfl | exact absurd ⟨fun p q1 q2 => g3 p q1 (by omega), fun z9 => by omega⟩ hP) rfl) (by omega) (by omega)
        · refine st_callV (st := []) C dX5_holdsIn_27 [vR r, vI i] (k_rBrokenx_f (a9 := a9) (b9 := b9) (rf := rf) (p9 := i) hk hr (by omega) (by omega) (by omega) b_27) hk w_X5_30 rfl (by decide) (by decide) (by omega) (by omega) (Nat.le_of_ble_eq_true rfl) (ko_rt ?_)
          show T x 30 [(0, vR k), (1, vR r), (2, vR s), (3, vI i)] [vI 0] _ _ _
          refine st_if_eq (tgt := 35) C dX5_holdsIn_30 (by decide) (fun c_30 => ?_) (fun c_30 => by omega)
          refine st_iinc C dX5_holdsIn_35 rfl (by decide) rfl ⟨(by omega), (by omega)⟩ ?_
          show T x 38 [(0, vR k), (1, vR r), (2, vR s), (3, vI (i + 1))] [] _ _ _
          refine st_goto (tgt := 18) C dX5_holdsIn_38 (by decide) ?_
          exact ih_18 (i + 1) (by omega) (by omega) (no_s g3 (by assumption)) (by omega)
  exact loop_18 _ 0 (by omega) (by omega) (no_0) (Nat.lt_succ_self _)
theorem hang_s {f : Int → Int} {l i : Int} (h : ∀ A, 1 ≤ A → A < i → HangA f l A) (hi : HangA f l i) : ∀ A, 1 ≤ A → A < i + 1 → HangA f l A := fun A q1 q2 => by
  by_cases e : A = i
  · subst e; exact hi
  · exact h A q1 (by omega)
set_option maxRecDepth 20000 in
set_option maxHeartbeats 4000000 in
theorem k_hang_t {g : Gx} {h : HP} {k : Nat} {a9 b9 : Int} {r : Nat} {rf : Int → Int} {s Q S : Nat} {q0 s0 : Int → Int} (hk : h k = some (oO 4 [vI 119, vI a9, vI b9])) (hr : h r = some (oI 304 rf)) (ha : 0 ≤ a9 ∧ a9 ≤ 2) (hs : h s = some (oO 5 [vR Q, vR S])) (hQ : h Q = some (oI 64 q0)) (hS : h S = some (oI 64 s0)) (n1 : s ≠ Q) (n2 : s ≠ S) (n3 : Q ≠ S) (n4 : r ≠ Q) (n5 : r ≠ S) (n6 : k ≠ Q) (n7 : k ≠ S) (hP : Hang rf a9) : Ct g yX5_areasHangTogether (.code yX5_areasHangTogether cX5_areasHangTogether 5 (some .boolean)) 4 0 0 [vR k, vR r, vR s] h (RtS (vI 1) h Q S (fun _ => True)) := by
  refine Ct.of (by decide) (Nat.le_of_ble_eq_true rfl) (fun x hg C F => ?_)
  subst hg
  show T x 0 [(0, vR k), (1, vR r), (2, vR s)] [] h 0 0
  refine st_iconst C dX5_areasHangTogether_0 (by decide) ?_
  refine st_istore_n C 3 dX5_areasHangTogether_1 rfl (by decide) rfl ?_
  show T x 2 [(0, vR k), (1, vR r), (2, vR s), (3, vI 1)] [] _ _ _
  have loop_2 : ∀ (n_2 : Nat) (q1 : Int → Int) (s1 : Int → Int) (i : Int) (h1 : HP), (1 ≤ i) → (i ≤ 10) → (∀ A, 1 ≤ A → A < i → HangA rf a9 A) → (h1 = sc h Q S q1 s1) → (10 - i).toNat < n_2 → T x 2 [(0, vR k), (1, vR r), (2, vR s), (3, vI i)] [] h1 0 0 := by
    intro n_2
    induction n_2 with
    | zero => intro q1 s1 i h1 g1 g2 g3 hh hm_2; exact absurd hm_2 (Nat.not_lt_zero _)
    | succ n_2 ih_2 =>
      intro q1 s1 i h1 g1 g2 g3 hh hm_2
      refine st_iload_n C 3 dX5_areasHangTogether_2 rfl rfl ?_
      refine st_bipush C dX5_areasHangTogether_3 (by decide) (by decide) ?_
      refine st_icmp_gt (tgt := 56) C dX5_areasHangTogether_5 (by decide) (fun c_5 => ?_) (fun c_5 => ?_)
      · refine st_iconst C dX5_areasHangTogether_56 (by decide) ?_
        exact st_zreturn C F dX5_areasHangTogether_57 rfl (by omega) (by first | exact rs_i rfl hh trivial | exact absurd (by assumption) ((hangA_iff hr9 (by omega)).mp (hP i (by omega) (by omega)))) (by omega) (by omega)
      · refine st_aload_n C 1 dX5_areasHangTogether_8 rfl rfl ?_
        refine st_aload_n C 0 dX5_areasHangTogether_9 rfl rfl ?_
        refine st_getf C dX5_areasHangTogether_10 fl_X5_15 (by rw [hh]; exact sc_o n6 n7 hk) rfl ?_
        refine st_iload_n C 3 dX5_areasHangTogether_13 rfl rfl ?_
        obtain ⟨r9, hr9⟩ := first_ex (fun j => rf (64 * a9 + j) = i) 64 (by omega)
        have hr8 := first_in hr9
        refine st_callS (st := []) C dX5_areasHangTogether_14 [vR r, vI a9, vI i] (k_firstPlaceOf (f := rf) (l := a9) (a9 := i) (r9 := r9) (by rw [hh]; exact sc_o n4 n5 hr) (by omega) hr9) w_X5_58 rfl (by decide) (by decide) (by omega) (by omega) (Nat.le_of_ble_eq_true rfl) (ko_rt ?_)
        show T x 17 [(0, vR k), (1, vR r), (2, vR s), (3, vI i)] [vI r9] _ _ _
        refine st_istore C dX5_areasHangTogether_17 (by decide) rfl ?_
        show T x 19 [(0, vR k), (1, vR r), (2, vR s), (3, vI i), (4, vI r9)] [] _ _ _
        refine st_iload C dX5_areasHangTogether_19 rfl ?_
        refine st_iconst C dX5_areasHangTogether_21 (by decide) ?_
        refine st_icmp_eq (tgt := 50) C dX5_areasHangTogether_22 (by decide) (fun c_22 => ?_) (fun c_22 => ?_)
        · refine st_iinc C dX5_areasHangTogether_50 rfl (by decide) rfl ⟨(by omega), (by omega)⟩ ?_
          show T x 53 [(0, vR k), (1, vR r), (2, vR s), (3, vI (i + 1)), (4, vI r9)] [] _ _ _
          refine st_goto (tgt := 2) C dX5_areasHangTogether_53 (by decide) ?_
          refine st_sub [0, 1, 2, 3] rfl ?_
          exact ih_2 q1 s1 (i + 1) h1 (by omega) (by omega) (by first | exact hang_s g3 (hangA_no hr9 (by omega)) | exact hang_s g3 ((hangA_iff hr9 (by omega)).mpr (Int.not_lt.mpr (by assumption)))) (by first | exact hh | (rw [hh]; exact sc_sc n3)) (by omega)
        · refine st_aload_n C 2 dX5_areasHangTogether_25 rfl rfl ?_
          refine st_aload_n C 1 dX5_areasHangTogether_26 rfl rfl ?_
          refine st_aload_n C 0 dX5_areasHangTogether_27 rfl rfl ?_
          refine st_getf C dX5_areasHangTogether_28 fl_X5_15 (by rw [hh]; exact sc_o n6 n7 hk) rfl ?_
          refine st_iload C dX5_areasHangTogether_31 rfl ?_
          refine st_callV (st := []) C dX5_areasHangTogether_33 [vR r, vI a9, vI r9] (k_spread_l (rf := rf) (p9 := r9) (l := a9) (by rw [hh]; exact sc_o n1 n2 hs) (by rw [hh]; exact sc_Q n3) (by rw [hh]; exact sc_S) (by omega) (by omega) (by omega) (by rw [hh]; exact sc_o n4 n5 hr) (by omega) (by omega) (by omega) (by omega)) (by rw [hh]; exact sc_o n1 n2 hs) w_X5_61 rfl (by decide) (by decide) (by omega) (by omega) (Nat.le_of_ble_eq_true rfl) (ko_rs (fun qz1 sz1 hD1 => ?_))
          show T x 36 [(0, vR k), (1, vR r), (2, vR s), (3, vI i), (4, vI r9)] [vI (cnt (Reach (fun a b => rf (64 * a9 + a) = rf (64 * a9 + b)) r9) 64)] _ _ _
          refine st_aload_n C 1 dX5_areasHangTogether_36 rfl rfl ?_
          refine st_aload_n C 0 dX5_areasHangTogether_37 rfl rfl ?_
          refine st_getf C dX5_areasHangTogether_38 fl_X5_15 (sc_o (by omega) (by omega) (by rw [hh]; exact sc_o n6 n7 hk)) rfl ?_
          refine st_iload_n C 3 dX5_areasHangTogether_41 rfl rfl ?_
          refine st_callS (st := [vI (cnt (Reach (fun a b => rf (64 * a9 + a) = rf (64 * a9 + b)) r9) 64)]) C dX5_areasHangTogether_42 [vR r, vI a9, vI i] (k_placesOf (f := rf) (l := a9) (a9 := i) (sc_o (by omega) (by omega) (by rw [hh]; exact sc_o n4 n5 hr)) (by omega)) w_X5_66 rfl (by decide) (by decide) (by omega) (by omega) (Nat.le_of_ble_eq_true rfl) (ko_rt ?_)
          show T x 45 [(0, vR k), (1, vR r), (2, vR s), (3, vI i), (4, vI r9)] [vI (pin rf a9 i 8 0 0), vI (cnt (Reach (fun a b => rf (64 * a9 + a) = rf (64 * a9 + b)) r9) 64)] _ _ _
          refine st_icmp_ge (tgt := 50) C dX5_areasHangTogether_45 (by decide) (fun c_45 => ?_) (fun c_45 => ?_)
          · refine st_iinc C dX5_areasHangTogether_50 rfl (by decide) rfl ⟨(by omega), (by omega)⟩ ?_
            show T x 53 [(0, vR k), (1, vR r), (2, vR s), (3, vI (i + 1)), (4, vI r9)] [] _ _ _
            refine st_goto (tgt := 2) C dX5_areasHangTogether_53 (by decide) ?_
            refine st_sub [0, 1, 2, 3] rfl ?_
            exact ih_2 qz1 sz1 (i + 1) (sc h1 Q S qz1 sz1) (by omega) (by omega) (by first | exact hang_s g3 (hangA_no hr9 (by omega)) | exact hang_s g3 ((hangA_iff hr9 (by omega)).mpr (Int.not_lt.mpr (by assumption)))) (by first | exact hh | (rw [hh]; exact sc_sc n3)) (by omega)
          · refine st_iconst C dX5_areasHangTogether_48 (by decide) ?_
            exact st_zreturn C F dX5_areasHangTogether_49 rfl (by omega) (by first | exact rs_i rfl hh trivial | exact absurd (by assumption) ((hangA_iff hr9 (by omega)).mp (hP i (by omega) (by omega)))) (by omega) (by omega)
  exact loop_2 _ q0 s0 1 h (by omega) (by omega) (fun A q1 q2 => absurd q2 (by omega)) (sc_0 hQ hS) (Nat.lt_succ_self _)
set_option maxRecDepth 20000 in
set_option maxHeartbeats 4000000 in
theorem k_holdsInw_t {g : Gx} {h : HP} {k : Nat} {a9 b9 : Int} {r : Nat} {rf : Int → Int} {s Q S : Nat} {q0 s0 : Int → Int} (hk : h k = some (oO 4 [vI 119, vI a9, vI b9])) (hr : h r = some (oI 304 rf)) (ha : 0 ≤ a9 ∧ a9 ≤ 2) (hs : h s = some (oO 5 [vR Q, vR S])) (hQ : h Q = some (oI 64 q0)) (hS : h S = some (oI 64 s0)) (n1 : s ≠ Q) (n2 : s ≠ S) (n3 : Q ≠ S) (n4 : r ≠ Q) (n5 : r ≠ S) (n6 : k ≠ Q) (n7 : k ≠ S) (hP : RuleHolds 119 a9 b9 rf) : Ct g yX5_holdsIn (.code yX5_holdsIn cX5_holdsIn 4 (some .boolean)) 5 0 0 [vR k, vR r, vR s] h (RtS (vI 1) h Q S (fun _ => True)) := by
  refine Ct.of (by decide) (Nat.le_of_ble_eq_true rfl) (fun x hg C F => ?_)
  subst hg
  show T x 0 [(0, vR k), (1, vR r), (2, vR s)] [] h 0 0
  refine st_aload_n C 0 dX5_holdsIn_0 rfl rfl ?_
  refine st_getf C dX5_holdsIn_1 fl_X5_9 hk rfl ?_
  refine st_bipush C dX5_holdsIn_4 (by decide) (by decide) ?_
  refine st_icmp_ne (tgt := 16) C dX5_holdsIn_6 (by decide) (fun c_6 => by omega) (fun c_6 => ?_)
  refine st_aload_n C 0 dX5_holdsIn_9 rfl rfl ?_
  refine st_aload_n C 1 dX5_holdsIn_10 rfl rfl ?_
  refine st_aload_n C 2 dX5_holdsIn_11 rfl rfl ?_
  refine st_callV (st := []) C dX5_holdsIn_12 [vR r, vR s] (k_hang_t (rf := rf) (a9 := a9) (b9 := b9) hk hr ha hs hQ hS n1 n2 n3 n4 n5 n6 n7 (hP.2 rfl)) hk w_X5_26 rfl (by decide) (by decide) (by omega) (by omega) (Nat.le_of_ble_eq_true rfl) (ko_rs (fun q2 s2 _ => ?_))
  show T x 15 [(0, vR k), (1, vR r), (2, vR s)] [vI 1] _ _ _
  exact st_zreturn C F dX5_holdsIn_15 rfl (by omega) (rs_i rfl rfl trivial) (by omega) (by omega)
set_option maxRecDepth 20000 in
set_option maxHeartbeats 4000000 in
theorem k_hang_f {g : Gx} {h : HP} {k : Nat} {a9 b9 : Int} {r : Nat} {rf : Int → Int} {s Q S : Nat} {q0 s0 : Int → Int} (hk : h k = some (oO 4 [vI 119, vI a9, vI b9])) (hr : h r = some (oI 304 rf)) (ha : 0 ≤ a9 ∧ a9 ≤ 2) (hs : h s = some (oO 5 [vR Q, vR S])) (hQ : h Q = some (oI 64 q0)) (hS : h S = some (oI 64 s0)) (n1 : s ≠ Q) (n2 : s ≠ S) (n3 : Q ≠ S) (n4 : r ≠ Q) (n5 : r ≠ S) (n6 : k ≠ Q) (n7 : k ≠ S) (hP : ¬ Hang rf a9) : Ct g yX5_areasHangTogether (.code yX5_areasHangTogether cX5_areasHangTogether 5 (some .boolean)) 4 0 0 [vR k, vR r, vR s] h (RtS (vI 0) h Q S (fun _ => True)) := by
  refine Ct.of (by decide) (Nat.le_of_ble_eq_true rfl) (fun x hg C F => ?_)
  subst hg
  show T x 0 [(0, vR k), (1, vR r), (2, vR s)] [] h 0 0
  refine st_iconst C dX5_areasHangTogether_0 (by decide) ?_
  refine st_istore_n C 3 dX5_areasHangTogether_1 rfl (by decide) rfl ?_
  show T x 2 [(0, vR k), (1, vR r), (2, vR s), (3, vI 1)] [] _ _ _
  have loop_2 : ∀ (n_2 : Nat) (q1 : Int → Int) (s1 : Int → Int) (i : Int) (h1 : HP), (1 ≤ i) → (i ≤ 10) → (∀ A, 1 ≤ A → A < i → HangA rf a9 A) → (h1 = sc h Q S q1 s1) → (10 - i).toNat < n_2 → T x 2 [(0, vR k), (1, vR r), (2, vR s), (3, vI i)] [] h1 0 0 := by
    intro n_2
    induction n_2 with
    | zero => intro q1 s1 i h1 g1 g2 g3 hh hm_2; exact absurd hm_2 (Nat.not_lt_zero _)
    | succ n_2 ih_2 =>
      intro q1 s1 i h1 g1 g2 g3 hh hm_2
      refine st_iload_n C 3 dX5_areasHangTogether_2 rfl rfl ?_
      refine st_bipush C dX5_areasHangTogether_3 (by decide) (by decide) ?_
      refine st_icmp_gt (tgt := 56) C dX5_areasHangTogether_5 (by decide) (fun c_5 => ?_) (fun c_5 => ?_)
      · refine st_iconst C dX5_areasHangTogether_56 (by decide) ?_
        exact st_zreturn C F dX5_areasHangTogether_57 rfl (by omega) (by first | exact rs_i rfl (by rw [hh]; exact sc_sc n3) trivial | exact absurd (fun A q1 q2 => g3 A q1 (by omega)) hP) (by omega) (by omega)
      · refine st_aload_n C 1 dX5_areasHangTogether_8 rfl rfl ?_
        refine st_aload_n C 0 dX5_areasHangTogether_9 rfl rfl ?_
        refine st_getf C dX5_areasHangTogether_10 fl_X5_15 (by rw [hh]; exact sc_o n6 n7 hk) rfl ?_
        refine st_iload_n C 3 dX5_areasHangTogether_13 rfl rfl ?_
        obtain ⟨r9, hr9⟩ := first_ex (fun j => rf (64 * a9 + j) = i) 64 (by omega)
        have hr8 := first_in hr9
        refine st_callS (st := []) C dX5_areasHangTogether_14 [vR r, vI a9, vI i] (k_firstPlaceOf (f := rf) (l := a9) (a9 := i) (r9 := r9) (by rw [hh]; exact sc_o n4 n5 hr) (by omega) hr9) w_X5_58 rfl (by decide) (by decide) (by omega) (by omega) (Nat.le_of_ble_eq_true rfl) (ko_rt ?_)
        show T x 17 [(0, vR k), (1, vR r), (2, vR s), (3, vI i)] [vI r9] _ _ _
        refine st_istore C dX5_areasHangTogether_17 (by decide) rfl ?_
        show T x 19 [(0, vR k), (1, vR r), (2, vR s), (3, vI i), (4, vI r9)] [] _ _ _
        refine st_iload C dX5_areasHangTogether_19 rfl ?_
        refine st_iconst C dX5_areasHangTogether_21 (by decide) ?_
        refine st_icmp_eq (tgt := 50) C dX5_areasHangTogether_22 (by decide) (fun c_22 => ?_) (fun c_22 => ?_)
        · refine st_iinc C dX5_areasHangTogether_50 rfl (by decide) rfl ⟨(by omega), (by omega)⟩ ?_
          show T x 53 [(0, vR k), (1, vR r), (2, vR s), (3, vI (i + 1)), (4, vI r9)] [] _ _ _
          refine st_goto (tgt := 2) C dX5_areasHangTogether_53 (by decide) ?_
          refine st_sub [0, 1, 2, 3] rfl ?_
          exact ih_2 q1 s1 (i + 1) h1 (by omega) (by omega) (by first | exact hang_s g3 (hangA_no hr9 (by omega)) | exact hang_s g3 ((hangA_iff hr9 (by omega)).mpr (Int.not_lt.mpr (by assumption)))) (by first | exact hh | (rw [hh]; exact sc_sc n3)) (by omega)
        · refine st_aload_n C 2 dX5_areasHangTogether_25 rfl rfl ?_
          refine st_aload_n C 1 dX5_areasHangTogether_26 rfl rfl ?_
          refine st_aload_n C 0 dX5_areasHangTogether_27 rfl rfl ?_
          refine st_getf C dX5_areasHangTogether_28 fl_X5_15 (by rw [hh]; exact sc_o n6 n7 hk) rfl ?_
          refine st_iload C dX5_areasHangTogether_31 rfl ?_
          refine st_callV (st := []) C dX5_areasHangTogether_33 [vR r, vI a9, vI r9] (k_spread_l (rf := rf) (p9 := r9) (l := a9) (by rw [hh]; exact sc_o n1 n2 hs) (by rw [hh]; exact sc_Q n3) (by rw [hh]; exact sc_S) (by omega) (by omega) (by omega) (by rw [hh]; exact sc_o n4 n5 hr) (by omega) (by omega) (by omega) (by omega)) (by rw [hh]; exact sc_o n1 n2 hs) w_X5_61 rfl (by decide) (by decide) (by omega) (by omega) (Nat.le_of_ble_eq_true rfl) (ko_rs (fun qz2 sz2 hD2 => ?_))
          show T x 36 [(0, vR k), (1, vR r), (2, vR s), (3, vI i), (4, vI r9)] [vI (cnt (Reach (fun a b => rf (64 * a9 + a) = rf (64 * a9 + b)) r9) 64)] _ _ _
          refine st_aload_n C 1 dX5_areasHangTogether_36 rfl rfl ?_
          refine st_aload_n C 0 dX5_areasHangTogether_37 rfl rfl ?_
          refine st_getf C dX5_areasHangTogether_38 fl_X5_15 (sc_o (by omega) (by omega) (by rw [hh]; exact sc_o n6 n7 hk)) rfl ?_
          refine st_iload_n C 3 dX5_areasHangTogether_41 rfl rfl ?_
          refine st_callS (st := [vI (cnt (Reach (fun a b => rf (64 * a9 + a) = rf (64 * a9 + b)) r9) 64)]) C dX5_areasHangTogether_42 [vR r, vI a9, vI i] (k_placesOf (f := rf) (l := a9) (a9 := i) (sc_o (by omega) (by omega) (by rw [hh]; exact sc_o n4 n5 hr)) (by omega)) w_X5_66 rfl (by decide) (by decide) (by omega) (by omega) (Nat.le_of_ble_eq_true rfl) (ko_rt ?_)
          show T x 45 [(0, vR k), (1, vR r), (2, vR s), (3, vI i), (4, vI r9)] [vI (pin rf a9 i 8 0 0), vI (cnt (Reach (fun a b => rf (64 * a9 + a) = rf (64 * a9 + b)) r9) 64)] _ _ _
          refine st_icmp_ge (tgt := 50) C dX5_areasHangTogether_45 (by decide) (fun c_45 => ?_) (fun c_45 => ?_)
          · refine st_iinc C dX5_areasHangTogether_50 rfl (by decide) rfl ⟨(by omega), (by omega)⟩ ?_
            show T x 53 [(0, vR k), (1, vR r), (2, vR s), (3, vI (i + 1)), (4, vI r9)] [] _ _ _
            refine st_goto (tgt := 2) C dX5_areasHangTogether_53 (by decide) ?_
            refine st_sub [0, 1, 2, 3] rfl ?_
            exact ih_2 qz2 sz2 (i + 1) (sc h1 Q S qz2 sz2) (by omega) (by omega) (by first | exact hang_s g3 (hangA_no hr9 (by omega)) | exact hang_s g3 ((hangA_iff hr9 (by omega)).mpr (Int.not_lt.mpr (by assumption)))) (by first | exact hh | (rw [hh]; exact sc_sc n3)) (by omega)
          · refine st_iconst C dX5_areasHangTogether_48 (by decide) ?_
            exact st_zreturn C F dX5_areasHangTogether_49 rfl (by omega) (by first | exact rs_i rfl (by rw [hh]; exact sc_sc n3) trivial | exact absurd (fun A q1 q2 => g3 A q1 (by omega)) hP) (by omega) (by omega)
  exact loop_2 _ q0 s0 1 h (by omega) (by omega) (fun A q1 q2 => absurd q2 (by omega)) (sc_0 hQ hS) (Nat.lt_succ_self _)
set_option maxRecDepth 20000 in
set_option maxHeartbeats 4000000 in
theorem k_holdsInw_f {g : Gx} {h : HP} {k : Nat} {a9 b9 : Int} {r : Nat} {rf : Int → Int} {s Q S : Nat} {q0 s0 : Int → Int} (hk : h k = some (oO 4 [vI 119, vI a9, vI b9])) (hr : h r = some (oI 304 rf)) (ha : 0 ≤ a9 ∧ a9 ≤ 2) (hs : h s = some (oO 5 [vR Q, vR S])) (hQ : h Q = some (oI 64 q0)) (hS : h S = some (oI 64 s0)) (n1 : s ≠ Q) (n2 : s ≠ S) (n3 : Q ≠ S) (n4 : r ≠ Q) (n5 : r ≠ S) (n6 : k ≠ Q) (n7 : k ≠ S) (hP : ¬ RuleHolds 119 a9 b9 rf) : Ct g yX5_holdsIn (.code yX5_holdsIn cX5_holdsIn 4 (some .boolean)) 5 0 0 [vR k, vR r, vR s] h (RtS (vI 0) h Q S (fun _ => True)) := by
  refine Ct.of (by decide) (Nat.le_of_ble_eq_true rfl) (fun x hg C F => ?_)
  subst hg
  show T x 0 [(0, vR k), (1, vR r), (2, vR s)] [] h 0 0
  refine st_aload_n C 0 dX5_holdsIn_0 rfl rfl ?_
  refine st_getf C dX5_holdsIn_1 fl_X5_9 hk rfl ?_
  refine st_bipush C dX5_holdsIn_4 (by decide) (by decide) ?_
  refine st_icmp_ne (tgt := 16) C dX5_holdsIn_6 (by decide) (fun c_6 => by omega) (fun c_6 => ?_)
  refine st_aload_n C 0 dX5_holdsIn_9 rfl rfl ?_
  refine st_aload_n C 1 dX5_holdsIn_10 rfl rfl ?_
  refine st_aload_n C 2 dX5_holdsIn_11 rfl rfl ?_
  refine st_callV (st := []) C dX5_holdsIn_12 [vR r, vR s] (k_hang_f (rf := rf) (a9 := a9) (b9 := b9) hk hr ha hs hQ hS n1 n2 n3 n4 n5 n6 n7 (fun z9 => hP ⟨fun p q1 q2 => by simp [BrkAt], fun _ => z9⟩)) hk w_X5_26 rfl (by decide) (by decide) (by omega) (by omega) (Nat.le_of_ble_eq_true rfl) (ko_rs (fun q2 s2 _ => ?_))
  show T x 15 [(0, vR k), (1, vR r), (2, vR s)] [vI 0] _ _ _
  exact st_zreturn C F dX5_holdsIn_15 rfl (by omega) (rs_i rfl rfl trivial) (by omega) (by omega)
theorem k_holdsIn_t {g : Gx} {h : HP} {k : Nat} {k9 a9 b9 : Int} {r : Nat} {rf : Int → Int} {s Q S : Nat} {q0 s0 : Int → Int} (hk : h k = some (oO 4 [vI k9, vI a9, vI b9])) (hr : h r = some (oI 304 rf)) (hs : h s = some (oO 5 [vR Q, vR S])) (hQ : h Q = some (oI 64 q0)) (hS : h S = some (oI 64 s0)) (n1 : s ≠ Q) (n2 : s ≠ S) (n3 : Q ≠ S) (n4 : r ≠ Q) (n5 : r ≠ S) (n6 : k ≠ Q) (n7 : k ≠ S) (hok : RuleOk k9 a9 b9) (hP : RuleHolds k9 a9 b9 rf) : Ct g yX5_holdsIn (.code yX5_holdsIn cX5_holdsIn 4 (some .boolean)) 5 0 0 [vR k, vR r, vR s] h (RtS (vI 1) h Q S (fun _ => True)) := by
  have hh : ∀ (r1 : PR) (h1 : HP), Rt (some (vI 1)) h r1 h1 → RtS (vI 1) h Q S (fun _ => True) r1 h1 := by
    rintro r1 h1 ⟨e1, e2⟩
    exact ⟨q0, s0, e1, e2.trans (sc_0 hQ hS), trivial⟩
  have hok2 := hok
  unfold RuleOk at hok2
  by_cases c1 : k9 = 119
  · subst c1; exact k_holdsInw_t hk hr (by omega) hs hQ hS n1 n2 n3 n4 n5 n6 n7 hP
  by_cases c2 : k9 = 109
  · subst c2; exact Ct.imp hh (k_holdsInm_t hk hr hP)
  by_cases c3 : k9 = 103
  · subst c3; exact Ct.imp hh (k_holdsIng_t hk hr (by omega) hP)
  by_cases c4 : k9 = 99
  · subst c4; exact Ct.imp hh (k_holdsInc_t hk hr (by omega) (by omega) hP)
  have c5 : k9 = 120 := by omega
  subst c5; exact Ct.imp hh (k_holdsInx_t hk hr (by omega) (by omega) hP)
theorem k_holdsIn_f {g : Gx} {h : HP} {k : Nat} {k9 a9 b9 : Int} {r : Nat} {rf : Int → Int} {s Q S : Nat} {q0 s0 : Int → Int} (hk : h k = some (oO 4 [vI k9, vI a9, vI b9])) (hr : h r = some (oI 304 rf)) (hs : h s = some (oO 5 [vR Q, vR S])) (hQ : h Q = some (oI 64 q0)) (hS : h S = some (oI 64 s0)) (n1 : s ≠ Q) (n2 : s ≠ S) (n3 : Q ≠ S) (n4 : r ≠ Q) (n5 : r ≠ S) (n6 : k ≠ Q) (n7 : k ≠ S) (hok : RuleOk k9 a9 b9) (hP : ¬ RuleHolds k9 a9 b9 rf) : Ct g yX5_holdsIn (.code yX5_holdsIn cX5_holdsIn 4 (some .boolean)) 5 0 0 [vR k, vR r, vR s] h (RtS (vI 0) h Q S (fun _ => True)) := by
  have hh : ∀ (r1 : PR) (h1 : HP), Rt (some (vI 0)) h r1 h1 → RtS (vI 0) h Q S (fun _ => True) r1 h1 := by
    rintro r1 h1 ⟨e1, e2⟩
    exact ⟨q0, s0, e1, e2.trans (sc_0 hQ hS), trivial⟩
  have hok2 := hok
  unfold RuleOk at hok2
  by_cases c1 : k9 = 119
  · subst c1; exact k_holdsInw_f hk hr (by omega) hs hQ hS n1 n2 n3 n4 n5 n6 n7 hP
  by_cases c2 : k9 = 109
  · subst c2; exact Ct.imp hh (k_holdsInm_f hk hr hP)
  by_cases c3 : k9 = 103
  · subst c3; exact Ct.imp hh (k_holdsIng_f hk hr (by omega) hP)
  by_cases c4 : k9 = 99
  · subst c4; exact Ct.imp hh (k_holdsInc_f hk hr (by omega) (by omega) hP)
  have c5 : k9 = 120 := by omega
  subst c5; exact Ct.imp hh (k_holdsInx_f hk hr (by omega) (by omega) hP)
