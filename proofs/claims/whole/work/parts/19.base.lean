section BASE
variable {x : Cx} {pc : Nat} {ls : List (Nat × PV)} {st : List PV} {h h0 : HP} {cl sl : Nat}
def Rt (v : Option PV) (h0 : HP) : PR → HP → Prop := fun r h' => r = .inl v ∧ h' = h0
def Th (E : String) (h0 : HP) : PR → HP → Prop := fun r h' => r = .inr E ∧ h' = h0
theorem rt_i {a b : Int} (e : a = b) (eh : h = h0) : Rt (some (vI b)) h0 (.inl (some (vI a))) h := by
  subst e; subst eh; exact ⟨rfl, rfl⟩
theorem rt_n (eh : h = h0) : Rt none h0 (.inl none) h := by
  subst eh; exact ⟨rfl, rfl⟩
theorem ko_rt {v : PV} (k : T x (pc + 3) ls (v :: st) h0 cl sl) : ∀ r h', Rt (some v) h0 r h' → Ko x pc ls st cl sl r h' := by
  rintro r h' ⟨rfl, rfl⟩
  exact k
theorem ko_rn (k : T x (pc + 3) ls st h0 cl sl) : ∀ r h', Rt none h0 r h' → Ko x pc ls st cl sl r h' := by
  rintro r h' ⟨rfl, rfl⟩
  exact k
theorem ko_th {E : String} (k : TX x pc ls h0 cl sl E) : ∀ r h', Th E h0 r h' → Ko x pc ls st cl sl r h' := by
  rintro r h' ⟨rfl, rfl⟩
  exact k
end BASE
noncomputable def cntN (P : Int → Prop) : Nat → Int
  | 0 => 0
  | n + 1 => cntN P n + @ite Int (P (n : Int)) (Classical.propDecidable _) 1 0
/-- how many of the numbers from 0, below i, have P -/
noncomputable def cnt (P : Int → Prop) (i : Int) : Int := cntN P i.toNat
def sumN (F : Int → Int) : Nat → Int
  | 0 => 0
  | n + 1 => sumN F n + F (n : Int)
def sum (F : Int → Int) (i : Int) : Int := sumN F i.toNat
theorem toNat_s {i : Int} (h : 0 ≤ i) : (i + 1).toNat = i.toNat + 1 := by omega
theorem cnt_0 {P : Int → Prop} : 0 = cnt P 0 := rfl
theorem sum_0 {F : Int → Int} : 0 = sum F 0 := rfl
theorem cnt_s {P : Int → Prop} {i : Int} (h : 0 ≤ i) : cnt P (i + 1) = cnt P i + @ite Int (P i) (Classical.propDecidable _) 1 0 := by
  unfold cnt
  rw [toNat_s h]
  show cntN P i.toNat + @ite Int (P (i.toNat : Int)) (Classical.propDecidable _) 1 0 = _
  rw [Int.toNat_of_nonneg h]
theorem cnt_t {P : Int → Prop} {i c : Int} (h : 0 ≤ i) (hp : P i) (hc : c = cnt P i) : c + 1 = cnt P (i + 1) := by
  rw [cnt_s h, if_pos hp, hc]
theorem cnt_f {P : Int → Prop} {i c : Int} (h : 0 ≤ i) (hp : ¬ P i) (hc : c = cnt P i) : c = cnt P (i + 1) := by
  rw [cnt_s h, if_neg hp, hc, Int.add_zero]
theorem sum_s {F : Int → Int} {i : Int} (h : 0 ≤ i) : sum F (i + 1) = sum F i + F i := by
  unfold sum
  rw [toNat_s h]
  show sumN F i.toNat + F (i.toNat : Int) = _
  rw [Int.toNat_of_nonneg h]
theorem cntN_in (P : Int → Prop) : ∀ n : Nat, 0 ≤ cntN P n ∧ cntN P n ≤ n := by
  intro n
  induction n with
  | zero => exact ⟨Int.le_refl 0, Int.le_refl 0⟩
  | succ n ih =>
    unfold cntN
    have h1 : (0 : Int) ≤ @ite Int (P (n : Int)) (Classical.propDecidable _) 1 0 ∧ @ite Int (P (n : Int)) (Classical.propDecidable _) 1 0 ≤ 1 := by split <;> decide
    omega
theorem cnt_in (P : Int → Prop) {i : Int} (h : 0 ≤ i) : 0 ≤ cnt P i ∧ cnt P i ≤ i := by
  have h1 := cntN_in P i.toNat
  unfold cnt
  omega
theorem cnt_congr {P Q : Int → Prop} {n : Int} (h : ∀ i, 0 ≤ i → i < n → (P i ↔ Q i)) : cnt P n = cnt Q n := by
  unfold cnt
  have key : ∀ k : Nat, (k : Int) ≤ n ∨ n < 0 → k ≤ n.toNat → cntN P k = cntN Q k := by
    intro k
    induction k with
    | zero => intros; rfl
    | succ k ih =>
      intro h1 h2
      unfold cntN
      rw [ih (by omega) (by omega)]
      have h3 := h (k : Int) (by omega) (by omega)
      by_cases hp : P (k : Int)
      · rw [if_pos hp, if_pos (h3.mp hp)]
      · rw [if_neg hp, if_neg (fun z => hp (h3.mpr z))]
  exact key n.toNat (by omega) (Nat.le_refl _)
theorem sum_congr {F G : Int → Int} {n : Int} (h : ∀ i, 0 ≤ i → i < n → F i = G i) : sum F n = sum G n := by
  unfold sum
  have key : ∀ k : Nat, k ≤ n.toNat → sumN F k = sumN G k := by
    intro k
    induction k with
    | zero => intros; rfl
    | succ k ih =>
      intro h2
      unfold sumN
      rw [ih (by omega), h (k : Int) (by omega) (by omega)]
  exact key n.toNat (Nat.le_refl _)
theorem cb_0 {P : Int → Prop} {c b : Int} (hc : c = b) : c = b + cnt P 0 := by rw [← cnt_0]; omega
theorem cntb_t {P : Int → Prop} {i c b : Int} (h : 0 ≤ i) (hp : P i) (hc : c = b + cnt P i) : c + 1 = b + cnt P (i + 1) := by
  rw [cnt_s h, if_pos hp, hc]; omega
theorem cntb_f {P : Int → Prop} {i c b : Int} (h : 0 ≤ i) (hp : ¬ P i) (hc : c = b + cnt P i) : c = b + cnt P (i + 1) := by
  rw [cnt_s h, if_neg hp, hc]; omega
theorem sumc {F : Int → Int} {P : Int → Prop} {c r q s : Int} (h : 0 ≤ r) (hF : F r = cnt P s) (hc : c = sum F r + cnt P q) (hq : q = s) : c = sum F (r + 1) := by
  rw [sum_s h, hF, hc, hq]
/-- the first number from 0, below n, with P; -1 if none -/
def IsFirst (P : Int → Prop) (n r : Int) : Prop := (0 ≤ r ∧ r < n ∧ P r ∧ ∀ j, 0 ≤ j → j < r → ¬ P j) ∨ (r = -1 ∧ ∀ j, 0 ≤ j → j < n → ¬ P j)
theorem end_eq {F : Int → Int} {c r n : Int} (hc : c = F r) (hr : r = n) : c = F n := by rw [hc, hr]
theorem no_0 {P : Int → Prop} : ∀ j : Int, 0 ≤ j → j < 0 → ¬ P j := fun j h8 h9 => absurd h9 (by omega)
theorem no_s {P : Int → Prop} {i : Int} (h3 : ∀ j, 0 ≤ j → j < i → ¬ P j) (hp : ¬ P i) : ∀ j, 0 ≤ j → j < i + 1 → ¬ P j := fun j h8 h9 => by
  by_cases e9 : j = i
  · subst e9; exact hp
  · exact h3 j h8 (by omega)
theorem sumE {F : Int → Int} {c r n : Int} (hc : c = sum F r) (hr : r = n) : c = sum F n := by rw [hc, hr]
theorem cntE {P : Int → Prop} {c r n : Int} (hc : c = cnt P r) (hr : r = n) : c = cnt P n := by rw [hc, hr]
theorem hput_hput {h : HP} {k : Nat} {e e' : PE} : hput (hput h k e) k e' = hput h k e' := by
  funext j
  unfold hput
  by_cases q : j = k
  · rw [if_pos q, if_pos q]
  · rw [if_neg q, if_neg q, if_neg q]
theorem hput_self {h : HP} {k : Nat} {e : PE} (he : h k = some e) : hput h k e = h := by
  funext j
  unfold hput
  by_cases q : j = k
  · rw [if_pos q, q, he]
  · rw [if_neg q]
theorem hput_comm {h : HP} {k k' : Nat} {e e' : PE} (hk : k ≠ k') : hput (hput h k e) k' e' = hput (hput h k' e') k e := by
  funext j
  unfold hput
  by_cases q : j = k
  · have : j ≠ k' := fun z => hk (q ▸ z)
    rw [if_neg this, if_pos q, if_pos q]
  · rw [if_neg q, if_neg q]
/-- F below i, f elsewhere -/
def fmix (F f : Int → Int) (i : Int) : Int → Int := fun j => if 0 ≤ j ∧ j < i then F j else f j
theorem fmix_0 {F f : Int → Int} : fmix F f 0 = f := by
  funext j
  unfold fmix
  rw [if_neg (by omega)]
theorem fmix_s {F f : Int → Int} {i v : Int} (h : 0 ≤ i) (hv : v = F i) : fput (fmix F f i) i v = fmix F f (i + 1) := by
  funext j
  unfold fput fmix
  by_cases q : j = i
  · subst q
    rw [if_pos rfl, if_pos (by omega), hv]
  · rw [if_neg q]
    by_cases q2 : 0 ≤ j ∧ j < i
    · rw [if_pos q2, if_pos (by omega)]
    · rw [if_neg q2, if_neg (by omega)]
theorem fmix_in {F f : Int → Int} {i j : Int} (h : 0 ≤ j) (h2 : j < i) : fmix F f i j = F j := by
  unfold fmix
  rw [if_pos ⟨h, h2⟩]
theorem cnt_m1 {P : Int → Prop} {i : Int} (h : 0 ≤ i) : cnt P i ≤ cnt P (i + 1) := by
  by_cases hp : P i
  · have := cnt_t (c := cnt P i) h hp rfl; omega
  · have := cnt_f (c := cnt P i) h hp rfl; omega
theorem cnt_mono {P : Int → Prop} {i j : Int} (h : 0 ≤ i) (hij : i ≤ j) : cnt P i ≤ cnt P j := by
  have mono : ∀ m : Nat, cnt P i ≤ cnt P (i + m) := by
    intro m
    induction m with
    | zero => exact Int.le_of_eq (by rw [show i + ((0 : Nat) : Int) = i by omega])
    | succ m ih =>
      rw [show i + ((m + 1 : Nat) : Int) = (i + (m : Int)) + 1 by omega]
      exact Int.le_trans ih (cnt_m1 (by omega))
  have := mono (j - i).toNat
  rw [show i + (((j - i).toNat : Nat) : Int) = j by omega] at this
  exact this
