/-! tiles, leaves, borders, routes of both -/
noncomputable def ind (P : Prop) : Int := @ite Int P (Classical.propDecidable _) 1 0
theorem ind_c {P Q : Prop} (h : P ↔ Q) : ind P = ind Q := by rw [propext h]
theorem ind_1 {P : Prop} (h : P) : ind P = 1 := if_pos h
theorem ind_0 {P : Prop} (h : ¬ P) : ind P = 0 := if_neg h
theorem ind_b (P : Prop) : 0 ≤ ind P ∧ ind P ≤ 1 := by
  by_cases h : P
  · rw [ind_1 h]; decide
  · rw [ind_0 h]; decide
theorem sumN_plus {F G : Int → Int} : ∀ n : Nat, sumN (fun p => F p + G p) n = sumN F n + sumN G n := by
  intro n
  induction n with
  | zero => rfl
  | succ n ih => unfold sumN; rw [ih]; omega
theorem sumN_add {F : Int → Int} (a : Nat) : ∀ b : Nat, sumN F (a + b) = sumN F a + sumN (fun q => F ((a : Int) + q)) b := by
  intro b
  induction b with
  | zero => show sumN F a = sumN F a + 0; omega
  | succ b ih =>
    show sumN F (a + b) + F ((a + b : Nat) : Int) = sumN F a + (sumN (fun q => F ((a : Int) + q)) b + F ((a : Int) + (b : Int)))
    rw [ih, show ((a + b : Nat) : Int) = (a : Int) + (b : Int) by omega]; omega
theorem sumN_congr {F G : Int → Int} : ∀ n : Nat, (∀ i : Int, 0 ≤ i → i < n → F i = G i) → sumN F n = sumN G n := by
  intro n
  induction n with
  | zero => intro _; rfl
  | succ n ih =>
    intro h
    unfold sumN
    rw [ih (fun i i1 i2 => h i i1 (by omega)), h n (by omega) (by omega)]
theorem sumN_0 {F : Int → Int} (n : Nat) (h : ∀ i : Int, 0 ≤ i → i < n → F i = 0) : sumN F n = 0 := by
  rw [sumN_congr (G := fun _ => 0) n h]
  clear h
  induction n with
  | zero => rfl
  | succ n ih => unfold sumN; rw [ih]; rfl
theorem cntN_sum {P : Int → Prop} : ∀ n : Nat, cntN P n = sumN (fun i => ind (P i)) n := by
  intro n
  induction n with
  | zero => rfl
  | succ n ih => unfold cntN sumN; rw [ih]; rfl
theorem pin_k1 {f : Int → Int} {l a x y : Int} : pin f l a 1 x y = cnt (fun k => f (64 * l + (8 * (y * 1 + k / 1) + x * 1 + k % 1)) = a) 1 := by
  unfold pin
  have := sum_cnt (P := fun k => f (64 * l + (8 * (y * 1 + k / 1) + x * 1 + k % 1)) = a) (w := 1) (by decide) 1
  rw [show (1 : Int) * ((1 : Nat) : Int) = 1 from rfl] at this
  rw [← this]
  show sumN _ 1 = sumN _ 1
  exact sumN_congr 1 (fun r r1 r2 => cnt_congr (fun q q1 q2 => by rw [show y * 1 + (1 * r + q) / 1 = y * 1 + r by omega, show (1 * r + q) % 1 = q by omega]))
theorem pin_k2 {f : Int → Int} {l a x y : Int} : pin f l a 2 x y = cnt (fun k => f (64 * l + (8 * (y * 2 + k / 2) + x * 2 + k % 2)) = a) 4 := by
  unfold pin
  have := sum_cnt (P := fun k => f (64 * l + (8 * (y * 2 + k / 2) + x * 2 + k % 2)) = a) (w := 2) (by decide) 2
  rw [show (2 : Int) * ((2 : Nat) : Int) = 4 from rfl] at this
  rw [← this]
  show sumN _ 2 = sumN _ 2
  exact sumN_congr 2 (fun r r1 r2 => cnt_congr (fun q q1 q2 => by rw [show y * 2 + (2 * r + q) / 2 = y * 2 + r by omega, show (2 * r + q) % 2 = q by omega]))
theorem pin_k4 {f : Int → Int} {l a x y : Int} : pin f l a 4 x y = cnt (fun k => f (64 * l + (8 * (y * 4 + k / 4) + x * 4 + k % 4)) = a) 16 := by
  unfold pin
  have := sum_cnt (P := fun k => f (64 * l + (8 * (y * 4 + k / 4) + x * 4 + k % 4)) = a) (w := 4) (by decide) 4
  rw [show (4 : Int) * ((4 : Nat) : Int) = 16 from rfl] at this
  rw [← this]
  show sumN _ 4 = sumN _ 4
  exact sumN_congr 4 (fun r r1 r2 => cnt_congr (fun q q1 q2 => by rw [show y * 4 + (4 * r + q) / 4 = y * 4 + r by omega, show (4 * r + q) % 4 = q by omega]))
theorem pin_k8 {f : Int → Int} {l a x y : Int} : pin f l a 8 x y = cnt (fun k => f (64 * l + (8 * (y * 8 + k / 8) + x * 8 + k % 8)) = a) 64 := by
  unfold pin
  have := sum_cnt (P := fun k => f (64 * l + (8 * (y * 8 + k / 8) + x * 8 + k % 8)) = a) (w := 8) (by decide) 8
  rw [show (8 : Int) * ((8 : Nat) : Int) = 64 from rfl] at this
  rw [← this]
  show sumN _ 8 = sumN _ 8
  exact sumN_congr 8 (fun r r1 r2 => cnt_congr (fun q q1 q2 => by rw [show y * 8 + (8 * r + q) / 8 = y * 8 + r by omega, show (8 * r + q) % 8 = q by omega]))
theorem mcb_congr {F G : Int → Int} : ∀ n : Nat, (∀ i : Int, 0 ≤ i → i < n → F i = G i) → mcb F n = mcb G n := by
  intro n
  induction n with
  | zero => intro _; rfl
  | succ n ih =>
    intro h
    unfold mcb
    rw [ih (fun i i1 i2 => h i i1 (by omega)), h n (by omega) (by omega)]
theorem mcb_in {F : Int → Int} : ∀ n : Nat, 1 ≤ n → 0 ≤ (mcb F n).1 ∧ (mcb F n).1 < n := by
  intro n
  induction n with
  | zero => intro h; omega
  | succ n ih =>
    intro _
    unfold mcb
    split
    · show (0 : Int) ≤ (n : Int) ∧ (n : Int) < ((n + 1 : Nat) : Int); omega
    · by_cases q : n = 0
      · subst q; show (0 : Int) ≤ 0 ∧ (0 : Int) < ((0 + 1 : Nat) : Int); decide
      · have := ih (by omega); omega
theorem border_m {F : Int → Int} {a b : Int} (hab : a ≠ b) : cnt (fun k => 0 ≤ mbes (k / 4) (k % 4) ∧ F (k / 4) = a ∧ F (mbes (k / 4) (k % 4)) = b) 256 = sum (fun p => cnt (fun d => besid p d ≠ -1 ∧ ((F p = a ∧ F (besid p d) = b) ∨ (F p = b ∧ F (besid p d) = a))) 2) 64 := by
  let A := fun p : Int => ind (p % 8 < 7 ∧ F p = a ∧ F (p + 1) = b)
  let A' := fun p : Int => ind (p % 8 < 7 ∧ F p = b ∧ F (p + 1) = a)
  let B := fun p : Int => ind (0 < p % 8 ∧ F p = a ∧ F (p - 1) = b)
  let C := fun p : Int => ind (p / 8 < 7 ∧ F p = a ∧ F (p + 8) = b)
  let C' := fun p : Int => ind (p / 8 < 7 ∧ F p = b ∧ F (p + 8) = a)
  let D := fun p : Int => ind (0 < p / 8 ∧ F p = a ∧ F (p - 8) = b)
  have e1 : cnt (fun k => 0 ≤ mbes (k / 4) (k % 4) ∧ F (k / 4) = a ∧ F (mbes (k / 4) (k % 4)) = b) 256 = sumN A 64 + sumN B 64 + sumN C 64 + sumN D 64 := by
    have h := sum_cnt (P := fun k => 0 ≤ mbes (k / 4) (k % 4) ∧ F (k / 4) = a ∧ F (mbes (k / 4) (k % 4)) = b) (w := 4) (by decide) 64
    rw [show (4 : Int) * ((64 : Nat) : Int) = 256 from rfl] at h
    rw [← h, ← sumN_plus, ← sumN_plus, ← sumN_plus]
    refine sumN_congr 64 (fun p p1 p2 => ?_)
    have d0 : (4 * p + 0) / 4 = p := by omega
    have d1 : (4 * p + (0 + 1)) / 4 = p := by omega
    have d2 : (4 * p + (0 + 1 + 1)) / 4 = p := by omega
    have d3 : (4 * p + (0 + 1 + 1 + 1)) / 4 = p := by omega
    have m0 : (4 * p + 0) % 4 = 0 := by omega
    have m1 : (4 * p + (0 + 1)) % 4 = 1 := by omega
    have m2 : (4 * p + (0 + 1 + 1)) % 4 = 2 := by omega
    have m3 : (4 * p + (0 + 1 + 1 + 1)) % 4 = 3 := by omega
    show cnt _ (0 + 1 + 1 + 1 + 1) = _
    rw [cnt_s (by decide), cnt_s (by decide), cnt_s (by decide), cnt_s (by decide), ← cnt_0]
    rw [d0, d1, d2, d3, m0, m1, m2, m3]
    have b0 : ind (0 ≤ mbes p 0 ∧ F p = a ∧ F (mbes p 0) = b) = A p := ind_c (by
      have : mbes p 0 = if p % 8 < 7 then p + 1 else -1 := by unfold mbes; simp
      rw [this]; split
      · rename_i q; exact ⟨fun z => ⟨q, z.2⟩, fun z => ⟨by omega, z.2⟩⟩
      · rename_i q; exact ⟨fun z => absurd z.1 (by decide), fun z => absurd z.1 q⟩)
    have b1 : ind (0 ≤ mbes p 1 ∧ F p = a ∧ F (mbes p 1) = b) = B p := ind_c (by
      have : mbes p 1 = if 0 < p % 8 then p - 1 else -1 := by unfold mbes; simp
      rw [this]; split
      · rename_i q; exact ⟨fun z => ⟨q, z.2⟩, fun z => ⟨by omega, z.2⟩⟩
      · rename_i q; exact ⟨fun z => absurd z.1 (by decide), fun z => absurd z.1 q⟩)
    have b2 : ind (0 ≤ mbes p 2 ∧ F p = a ∧ F (mbes p 2) = b) = C p := ind_c (by
      have : mbes p 2 = if p / 8 < 7 then p + 8 else -1 := by unfold mbes; simp
      rw [this]; split
      · rename_i q; exact ⟨fun z => ⟨q, z.2⟩, fun z => ⟨by omega, z.2⟩⟩
      · rename_i q; exact ⟨fun z => absurd z.1 (by decide), fun z => absurd z.1 q⟩)
    have b3 : ind (0 ≤ mbes p 3 ∧ F p = a ∧ F (mbes p 3) = b) = D p := ind_c (by
      have : mbes p 3 = if 0 < p / 8 then p - 8 else -1 := by unfold mbes; simp
      rw [this]; split
      · rename_i q; exact ⟨fun z => ⟨q, z.2⟩, fun z => ⟨by omega, z.2⟩⟩
      · rename_i q; exact ⟨fun z => absurd z.1 (by decide), fun z => absurd z.1 q⟩)
    show 0 + ind (0 ≤ mbes p 0 ∧ F p = a ∧ F (mbes p 0) = b) + ind (0 ≤ mbes p 1 ∧ F p = a ∧ F (mbes p 1) = b) + ind (0 ≤ mbes p 2 ∧ F p = a ∧ F (mbes p 2) = b) + ind (0 ≤ mbes p 3 ∧ F p = a ∧ F (mbes p 3) = b) = A p + B p + C p + D p
    rw [b0, b1, b2, b3]; omega
  have e2 : sum (fun p => cnt (fun d => besid p d ≠ -1 ∧ ((F p = a ∧ F (besid p d) = b) ∨ (F p = b ∧ F (besid p d) = a))) 2) 64 = sumN A 64 + sumN A' 64 + sumN C 64 + sumN C' 64 := by
    rw [← sumN_plus, ← sumN_plus, ← sumN_plus]
    show sumN _ 64 = _
    refine sumN_congr 64 (fun p p1 p2 => ?_)
    show cnt _ (0 + 1 + 1) = _
    rw [cnt_s (by decide), cnt_s (by decide), ← cnt_0]
    have x0 : ∀ (c : Prop) (q : Int), ind (c ∧ ((F p = a ∧ F q = b) ∨ (F p = b ∧ F q = a))) = ind (c ∧ F p = a ∧ F q = b) + ind (c ∧ F p = b ∧ F q = a) := fun c q => by
      by_cases h1 : c ∧ F p = a ∧ F q = b
      · rw [ind_1 h1, ind_1 ⟨h1.1, Or.inl h1.2⟩, ind_0 (fun z => hab (h1.2.1.symm.trans z.2.1))]; rfl
      · by_cases h2 : c ∧ F p = b ∧ F q = a
        · rw [ind_0 h1, ind_1 h2, ind_1 ⟨h2.1, Or.inr h2.2⟩]; rfl
        · rw [ind_0 h1, ind_0 h2, ind_0 (fun z => z.2.elim (fun w => h1 ⟨z.1, w⟩) (fun w => h2 ⟨z.1, w⟩))]; rfl
    have b0 : ind (besid p 0 ≠ -1 ∧ ((F p = a ∧ F (besid p 0) = b) ∨ (F p = b ∧ F (besid p 0) = a))) = A p + A' p := by
      rw [x0]
      have : besid p 0 = if p % 8 < 7 then p + 1 else -1 := by unfold besid; simp
      rw [this]
      by_cases q : p % 8 < 7
      · rw [if_pos q]
        rw [show ind (p + 1 ≠ -1 ∧ F p = a ∧ F (p + 1) = b) = A p from ind_c ⟨fun z => ⟨q, z.2⟩, fun z => ⟨by omega, z.2⟩⟩, show ind (p + 1 ≠ -1 ∧ F p = b ∧ F (p + 1) = a) = A' p from ind_c ⟨fun z => ⟨q, z.2⟩, fun z => ⟨by omega, z.2⟩⟩]
      · rw [if_neg q, ind_0 (fun z => z.1 rfl), ind_0 (fun z => z.1 rfl), show A p = 0 from ind_0 (fun z => q z.1), show A' p = 0 from ind_0 (fun z => q z.1)]
    have b1 : ind (besid p 1 ≠ -1 ∧ ((F p = a ∧ F (besid p 1) = b) ∨ (F p = b ∧ F (besid p 1) = a))) = C p + C' p := by
      rw [x0]
      have : besid p 1 = if p / 8 < 7 then p + 8 else -1 := by unfold besid; simp
      rw [this]
      by_cases q : p / 8 < 7
      · rw [if_pos q]
        rw [show ind (p + 8 ≠ -1 ∧ F p = a ∧ F (p + 8) = b) = C p from ind_c ⟨fun z => ⟨q, z.2⟩, fun z => ⟨by omega, z.2⟩⟩, show ind (p + 8 ≠ -1 ∧ F p = b ∧ F (p + 8) = a) = C' p from ind_c ⟨fun z => ⟨q, z.2⟩, fun z => ⟨by omega, z.2⟩⟩]
      · rw [if_neg q, ind_0 (fun z => z.1 rfl), ind_0 (fun z => z.1 rfl), show C p = 0 from ind_0 (fun z => q z.1), show C' p = 0 from ind_0 (fun z => q z.1)]
    show 0 + ind (besid p 0 ≠ -1 ∧ ((F p = a ∧ F (besid p 0) = b) ∨ (F p = b ∧ F (besid p 0) = a))) + ind (besid p 1 ≠ -1 ∧ ((F p = a ∧ F (besid p 1) = b) ∨ (F p = b ∧ F (besid p 1) = a))) = A p + A' p + C p + C' p
    rw [b0, b1]; omega
  have e3 : sumN B 64 = sumN A' 64 := by
    have h1 := sumN_add (F := B) 1 63
    have h2 := sumN_add (F := A') 63 1
    rw [show 1 + 63 = 64 from rfl] at h1
    rw [show 63 + 1 = 64 from rfl] at h2
    have h3 : sumN B 1 = 0 := sumN_0 1 (fun i i1 i2 => ind_0 (fun z => by omega))
    have h4 : sumN (fun q => A' ((63 : Nat) + q)) 1 = 0 := sumN_0 1 (fun i i1 i2 => ind_0 (fun z => by have := z.1; omega))
    have h5 : sumN (fun q => B ((1 : Nat) + q)) 63 = sumN A' 63 := sumN_congr 63 (fun q q1 q2 => ind_c (by
      rw [show ((1 : Nat) : Int) + q - 1 = q by omega, show ((1 : Nat) : Int) + q = q + 1 by omega]
      exact ⟨fun z => ⟨by omega, z.2.2, z.2.1⟩, fun z => ⟨by omega, z.2.2, z.2.1⟩⟩))
    rw [h1, h2, h3, h4, h5]; omega
  have e4 : sumN D 64 = sumN C' 64 := by
    have h1 := sumN_add (F := D) 8 56
    have h2 := sumN_add (F := C') 56 8
    rw [show 8 + 56 = 64 from rfl] at h1
    rw [show 56 + 8 = 64 from rfl] at h2
    have h3 : sumN D 8 = 0 := sumN_0 8 (fun i i1 i2 => ind_0 (fun z => by have := z.1; omega))
    have h4 : sumN (fun q => C' ((56 : Nat) + q)) 8 = 0 := sumN_0 8 (fun i i1 i2 => ind_0 (fun z => by have := z.1; omega))
    have h5 : sumN (fun q => D ((8 : Nat) + q)) 56 = sumN C' 56 := sumN_congr 56 (fun q q1 q2 => ind_c (by
      rw [show ((8 : Nat) : Int) + q - 8 = q by omega, show ((8 : Nat) : Int) + q = q + 8 by omega]
      exact ⟨fun z => ⟨by omega, z.2.2, z.2.1⟩, fun z => ⟨by omega, z.2.2, z.2.1⟩⟩))
    rw [h1, h2, h3, h4, h5]; omega
  rw [e1, e2, e3, e4]
theorem path_congr {J J' : Int → Int → Prop} {st : Int} (hs : 0 ≤ st ∧ st ≤ 63) (h : ∀ a b, 0 ≤ a ∧ a ≤ 63 → 0 ≤ b ∧ b ≤ 63 → (J a b ↔ J' a b)) : ∀ (n : Nat) (p : Int), Path J st n p → Path J' st n p := by
  intro n
  induction n with
  | zero => intro p hp; exact hp
  | succ n ih =>
    intro p hp
    have hpi := path_in hs _ _ hp
    obtain ⟨q, q1, d, d1, d2, d3, d4, d5⟩ := hp
    have hqi := path_in hs _ _ q1
    exact ⟨q, ih q q1, d, d1, d2, d3, d4, (h q p hqi hpi).mp d5⟩
theorem road_congr {f g : Int → Int} (h : ∀ s, 192 ≤ s → s ≤ 303 → f s = g s) {a b : Int} (ha : 0 ≤ a ∧ a ≤ 63) (hb : 0 ≤ b ∧ b ≤ 63) : RoadB f a b → RoadB g a b := by
  unfold RoadB
  rintro (z | z | z | z)
  · exact Or.inl ⟨z.1, by rw [← h _ (by omega) (by omega)]; exact z.2⟩
  · exact Or.inr (Or.inl ⟨z.1, by rw [← h _ (by omega) (by omega)]; exact z.2⟩)
  · exact Or.inr (Or.inr (Or.inl ⟨z.1, z.2.1, by rw [← h _ (by omega) (by omega)]; exact z.2.2⟩))
  · exact Or.inr (Or.inr (Or.inr ⟨z.1, z.2.1, by rw [← h _ (by omega) (by omega)]; exact z.2.2⟩))
theorem lf_gen {A B : Int → Prop} {c : Int} {al : Prop} [Decidable al] {o : Int} (h : al → B o → A c) : ind (al ∧ A c ∧ ¬ B o) = if al then ind (A c) - ind (B o) else 0 := by
  by_cases q : al
  · rw [if_pos q]
    by_cases b : B o
    · rw [ind_1 b, ind_1 (h q b), ind_0 (fun z => z.2.2 b)]; rfl
    · rw [ind_0 b]
      by_cases a : A c
      · rw [ind_1 a, ind_1 ⟨q, a, b⟩]; rfl
      · rw [ind_0 a, ind_0 (fun z => a z.2.1)]; rfl
  · rw [if_neg q, ind_0 (fun z => q z.1)]
theorem ind_n {P : Prop} : ind (¬ P) = 1 - ind P := by
  by_cases h : P
  · rw [ind_1 h, ind_0 (fun z => z h)]; rfl
  · rw [ind_0 h, ind_1 h]; rfl
theorem lvs_1 {O1 O2 : Int → Prop} (h1 : ∀ c, O1 c) : cnt (fun c => c % 8 % 1 = 0 ∧ c / 8 % 1 = 0 ∧ O1 c ∧ ¬ O2 (8 * (c / 8 / 2 * 2) + c % 8 / 2 * 2)) 64 = 64 - 4 * sumN (fun r => sumN (fun q => ind (O2 (16 * r + 2 * q))) 4) 4 := by
  have e : cnt (fun c => c % 8 % 1 = 0 ∧ c / 8 % 1 = 0 ∧ O1 c ∧ ¬ O2 (8 * (c / 8 / 2 * 2) + c % 8 / 2 * 2)) 64 = sumN (fun c => 1 - ind (O2 (8 * (c / 8 / 2 * 2) + c % 8 / 2 * 2))) 64 := by
    show cntN _ 64 = _
    rw [cntN_sum]
    refine sumN_congr 64 (fun c c1 c2 => ?_)
    rw [← ind_n]
    exact ind_c ⟨fun z => z.2.2.2, fun z => ⟨by omega, by omega, h1 c, z⟩⟩
  rw [e]
  simp [sumN]
  omega
theorem lvs_2 {A B : Int → Prop} (h : ∀ c, 0 ≤ c → c < 64 → c % 8 % 2 = 0 ∧ c / 8 % 2 = 0 → B (8 * (c / 8 / 4 * 4) + c % 8 / 4 * 4) → A c) : cnt (fun c => c % 8 % 2 = 0 ∧ c / 8 % 2 = 0 ∧ A c ∧ ¬ B (8 * (c / 8 / 4 * 4) + c % 8 / 4 * 4)) 64 = sumN (fun r => sumN (fun q => ind (A (16 * r + 2 * q))) 4) 4 - 4 * sumN (fun r => sumN (fun q => ind (B (32 * r + 4 * q))) 2) 2 := by
  have e : cnt (fun c => c % 8 % 2 = 0 ∧ c / 8 % 2 = 0 ∧ A c ∧ ¬ B (8 * (c / 8 / 4 * 4) + c % 8 / 4 * 4)) 64 = sumN (fun c => if c % 8 % 2 = 0 ∧ c / 8 % 2 = 0 then ind (A c) - ind (B (8 * (c / 8 / 4 * 4) + c % 8 / 4 * 4)) else 0) 64 := by
    show cntN _ 64 = _
    rw [cntN_sum]
    refine sumN_congr 64 (fun c c1 c2 => ?_)
    rw [← lf_gen (h c c1 (by omega))]
    exact ind_c ⟨fun z => ⟨⟨z.1, z.2.1⟩, z.2.2⟩, fun z => ⟨z.1.1, z.1.2, z.2⟩⟩
  rw [e]
  simp [sumN]
  omega
theorem lvs_4 {A B : Int → Prop} (h : ∀ c, 0 ≤ c → c < 64 → c % 8 % 4 = 0 ∧ c / 8 % 4 = 0 → B (8 * (c / 8 / 8 * 8) + c % 8 / 8 * 8) → A c) : cnt (fun c => c % 8 % 4 = 0 ∧ c / 8 % 4 = 0 ∧ A c ∧ ¬ B (8 * (c / 8 / 8 * 8) + c % 8 / 8 * 8)) 64 = sumN (fun r => sumN (fun q => ind (A (32 * r + 4 * q))) 2) 2 - 4 * ind (B 0) := by
  have e : cnt (fun c => c % 8 % 4 = 0 ∧ c / 8 % 4 = 0 ∧ A c ∧ ¬ B (8 * (c / 8 / 8 * 8) + c % 8 / 8 * 8)) 64 = sumN (fun c => if c % 8 % 4 = 0 ∧ c / 8 % 4 = 0 then ind (A c) - ind (B (8 * (c / 8 / 8 * 8) + c % 8 / 8 * 8)) else 0) 64 := by
    show cntN _ 64 = _
    rw [cntN_sum]
    refine sumN_congr 64 (fun c c1 c2 => ?_)
    rw [← lf_gen (h c c1 (by omega))]
    exact ind_c ⟨fun z => ⟨⟨z.1, z.2.1⟩, z.2.2⟩, fun z => ⟨z.1.1, z.1.2, z.2⟩⟩
  rw [e]
  simp [sumN]
  omega
theorem lvs_8 {A : Int → Prop} : cnt (fun c => c % 8 % 8 = 0 ∧ c / 8 % 8 = 0 ∧ A c) 64 = ind (A 0) := by
  have e : cnt (fun c => c % 8 % 8 = 0 ∧ c / 8 % 8 = 0 ∧ A c) 64 = sumN (fun c => if c % 8 % 8 = 0 ∧ c / 8 % 8 = 0 then ind (A c) else 0) 64 := by
    show cntN _ 64 = _
    rw [cntN_sum]
    refine sumN_congr 64 (fun c c1 c2 => ?_)
    by_cases q : c % 8 % 8 = 0 ∧ c / 8 % 8 = 0
    · rw [if_pos q]; exact ind_c ⟨fun z => z.2.2, fun z => ⟨q.1, q.2, z⟩⟩
    · rw [if_neg q]; exact ind_0 (fun z => q ⟨z.1, z.2.1⟩)
  rw [e]
  simp [sumN]
