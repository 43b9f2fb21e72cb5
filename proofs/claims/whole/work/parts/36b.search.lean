/-- p hangs on q by one of the four sides -/
def Adj (J : Int → Int → Prop) (q p : Int) : Prop := ∃ d, 0 ≤ d ∧ d ≤ 3 ∧ besid q d = p ∧ p ≠ -1 ∧ J q p
def Path (J : Int → Int → Prop) (st : Int) : Nat → Int → Prop
  | 0, p => p = st
  | n + 1, p => ∃ q, Path J st n q ∧ Adj J q p
def Reach (J : Int → Int → Prop) (st p : Int) : Prop := ∃ n, Path J st n p
/-- the least numbers of steps, -1 where there is no way -/
def DistF (J : Int → Int → Prop) (st : Int) (s : Int → Int) : Prop := ∀ p, 0 ≤ p → p ≤ 63 → (s p = -1 ∧ ¬ Reach J st p) ∨ (∃ n : Nat, s p = n ∧ Path J st n p ∧ ∀ m, Path J st m p → n ≤ m)
theorem besid_in {p d : Int} (hp : 0 ≤ p ∧ p ≤ 63) : besid p d = -1 ∨ (0 ≤ besid p d ∧ besid p d ≤ 63) := by
  unfold besid
  repeat (first | omega | split)
theorem path_in {J : Int → Int → Prop} {st : Int} (hs : 0 ≤ st ∧ st ≤ 63) : ∀ (n : Nat) (p : Int), Path J st n p → 0 ≤ p ∧ p ≤ 63 := by
  intro n
  induction n with
  | zero => intro p h; rw [show p = st from h]; exact hs
  | succ n ih =>
    intro p h
    obtain ⟨q, hq, d, h1, h2, h3, h4, -⟩ := h
    have := besid_in (d := d) (ih q hq)
    omega
theorem cntN_full {P : Int → Prop} : ∀ n : Nat, cntN P n = n → ∀ i : Int, 0 ≤ i → i < n → P i := by
  intro n
  induction n with
  | zero => intro _ i h1 h2; omega
  | succ n ih =>
    intro h i h1 h2
    unfold cntN at h
    have h3 := cntN_in P n
    by_cases hp : P (n : Int)
    · by_cases e : i = n
      · rw [e]; exact hp
      · rw [if_pos hp] at h
        exact ih (by omega) i h1 (by omega)
    · rw [if_neg hp] at h
      omega
theorem cnt_full {P : Int → Prop} {n : Int} (hn : 0 ≤ n) (h : cnt P n = n) : ∀ i, 0 ≤ i → i < n → P i := fun i h1 h2 => cntN_full n.toNat (by unfold cnt at h; omega) i h1 (by omega)
theorem cntN_put {s : Int → Int} {b v : Int} (hv : v ≠ -1) (hs : s b = -1) (hb : 0 ≤ b) : ∀ n : Nat, cntN (fun p => fput s b v p ≠ -1) n = cntN (fun p => s p ≠ -1) n + if b < n then 1 else 0 := by
  intro n
  induction n with
  | zero => rw [if_neg (by omega)]; rfl
  | succ n ih =>
    unfold cntN
    rw [ih]
    by_cases e : b = n
    · subst e
      have h1 : fput s (n : Int) v (n : Int) ≠ -1 := by rw [fput_s]; exact hv
      rw [if_neg (by omega), if_pos h1, if_neg (fun z => z hs), if_pos (by omega)]
    · have h1 : fput s b v (n : Int) = s n := fput_o (fun z => e z.symm)
      rw [h1]
      by_cases e2 : b < n
      · rw [if_pos e2, if_pos (show b < ((n + 1 : Nat) : Int) by omega)]; omega
      · rw [if_neg e2, if_neg (show ¬ b < ((n + 1 : Nat) : Int) by omega)]; omega
theorem cnt_put {s : Int → Int} {b v n : Int} (hv : v ≠ -1) (hs : s b = -1) (hb : 0 ≤ b) (hn : b < n) : cnt (fun p => fput s b v p ≠ -1) n = cnt (fun p => s p ≠ -1) n + 1 := by
  unfold cnt
  rw [cntN_put hv hs hb, if_pos (by omega)]
/-- a search that has looked at the first hd of its queue -/
def BI (J : Int → Int → Prop) (st : Int) (q s : Int → Int) (r hd : Int) : Prop :=
  (1 ≤ r ∧ r ≤ 64 ∧ hd ≤ r ∧ r = cnt (fun p => s p ≠ -1) 64 ∧ s st = 0) ∧
  (∀ i, 0 ≤ i → i < r → 0 ≤ q i ∧ q i ≤ 63 ∧ s (q i) ≠ -1) ∧
  (∀ p, 0 ≤ p → p ≤ 63 → s p ≠ -1 → (∃ i, 0 ≤ i ∧ i < r ∧ q i = p) ∧ 0 ≤ s p ∧ s p < r ∧ Path J st (s p).toNat p) ∧
  (∀ i j, 0 ≤ i → i ≤ j → j < r → s (q i) ≤ s (q j)) ∧
  (∀ j, 0 ≤ j → j < r → hd < r → s (q j) ≤ s (q hd) + 1) ∧
  (∀ i, 0 ≤ i → i < hd → ∀ p, Adj J (q i) p → s p ≠ -1 ∧ s p ≤ s (q i) + 1)
/-- … and at the sides below d of the next, p -/
def BP (J : Int → Int → Prop) (st : Int) (q s : Int → Int) (r hd p d : Int) : Prop :=
  BI J st q s r hd ∧ hd < r ∧ q hd = p ∧ ∀ e, 0 ≤ e → e < d → besid p e ≠ -1 → J p (besid p e) → s (besid p e) ≠ -1 ∧ s (besid p e) ≤ s p + 1
theorem BP_0 {J : Int → Int → Prop} {st : Int} {q s : Int → Int} {r hd : Int} (h : BI J st q s r hd) (h1 : hd < r) : BP J st q s r hd (q hd) 0 := ⟨h, h1, rfl, fun e h2 h3 => absurd h3 (by omega)⟩
theorem BP_4 {J : Int → Int → Prop} {st : Int} {q s : Int → Int} {r hd p d : Int} (h0 : 0 ≤ hd) (hd4 : 4 ≤ d) (h : BP J st q s r hd p d) : BI J st q s r (hd + 1) := by
  obtain ⟨⟨⟨a1, a2, a3, a4, a5⟩, hA, hB, hC, hD, hG⟩, h1, h2, h3⟩ := h
  refine ⟨⟨a1, a2, by omega, a4, a5⟩, hA, hB, hC, fun j g1 g2 g3 => ?_, fun i g1 g2 p' hp' => ?_⟩
  · have e1 := hD j g1 g2 h1
    have e2 := hC hd (hd + 1) h0 (by omega) g3
    omega
  · by_cases e : i = hd
    · subst e
      obtain ⟨d', k1, k2, k3, k4, k5⟩ := hp'
      rw [h2] at k3 k5 ⊢
      subst k3
      exact h3 d' k1 (by omega) k4 k5
    · exact hG i g1 (by omega) p' hp'
theorem BP_no {J : Int → Int → Prop} {st : Int} {q s : Int → Int} {r hd p d : Int} (h0 : 0 ≤ hd) (hd0 : 0 ≤ d) (h : BP J st q s r hd p d) (hn : ¬ (besid p d ≠ -1 ∧ J p (besid p d) ∧ r < 64 ∧ s (besid p d) = -1)) : BP J st q s r hd p (d + 1) := by
  obtain ⟨hI, h1, h2, h3⟩ := h
  refine ⟨hI, h1, h2, fun e g1 g2 g3 g4 => ?_⟩
  by_cases q1 : e = d
  · subst q1
    obtain ⟨⟨a1, a2, a3, a4, a5⟩, hA, hB, hC, hD, hG⟩ := hI
    have hp := hA hd h0 h1
    rw [h2] at hp
    have hb := besid_in (d := e) (show 0 ≤ p ∧ p ≤ 63 from ⟨hp.1, hp.2.1⟩)
    have e1 : s (besid p e) ≠ -1 := by
      intro z
      by_cases q2 : r < 64
      · exact hn ⟨g3, g4, q2, z⟩
      · exact cnt_full (P := fun p => s p ≠ -1) (n := 64) (by omega) (by rw [← a4]; omega) (besid p e) (by omega) (by omega) z
    obtain ⟨⟨i, i1, i2, i3⟩, -⟩ := hB (besid p e) (by omega) (by omega) e1
    have := hD i i1 i2 h1
    rw [i3, h2] at this
    exact ⟨e1, this⟩
  · exact h3 e g1 (by omega) g3 g4
theorem BP_yes {J : Int → Int → Prop} {st : Int} {q s : Int → Int} {r hd p d : Int} (h0 : 0 ≤ hd) (hd0 : 0 ≤ d) (hd3 : d ≤ 3) (h : BP J st q s r hd p d) (c1 : besid p d ≠ -1) (c2 : J p (besid p d)) (c3 : r < 64) (c4 : s (besid p d) = -1) : BP J st (fput q r (besid p d)) (fput s (besid p d) (s p + 1)) (r + 1) hd p (d + 1) := by
  obtain ⟨⟨⟨a1, a2, a3, a4, a5⟩, hA, hB, hC, hD, hG⟩, h1, h2, h3⟩ := h
  have hp := hA hd h0 h1
  rw [h2] at hp
  have hb := besid_in (d := d) (show 0 ≤ p ∧ p ≤ 63 from ⟨hp.1, hp.2.1⟩)
  have hpp := hB p hp.1 hp.2.1 hp.2.2
  generalize hnb : besid p d = b at *
  have hpb : p ≠ b := fun z => hp.2.2 (z ▸ c4)
  have so : ∀ k, k ≠ b → fput s b (s p + 1) k = s k := fun k hk => fput_o hk
  have qo : ∀ i, i < r → fput q r b i = q i := fun i hi => fput_o (by omega)
  have qb : ∀ i, 0 ≤ i → i < r → q i ≠ b := fun i i1 i2 z => (hA i i1 i2).2.2 (z ▸ c4)
  have sq : ∀ i, 0 ≤ i → i < r → fput s b (s p + 1) (q i) = s (q i) := fun i i1 i2 => so _ (qb i i1 i2)
  refine ⟨⟨⟨by omega, by omega, by omega, ?_, ?_⟩, fun i g1 g2 => ?_, fun k g1 g2 g3 => ?_, fun i j g1 g2 g3 => ?_, fun j g1 g2 g3 => ?_, fun i g1 g2 k hk => ?_⟩, by omega, ?_, fun e g1 g2 g3 g4 => ?_⟩
  · rw [cnt_put (by omega) c4 (by omega) (by omega), ← a4]
  · rw [so st (fun z => by rw [z] at a5; omega)]; exact a5
  · by_cases e : i = r
    · subst e; rw [fput_s, fput_s]; omega
    · rw [qo i (by omega), sq i g1 (by omega)]; exact hA i g1 (by omega)
  · by_cases e : k = b
    · subst e
      refine ⟨⟨r, by omega, by omega, fput_s⟩, ?_⟩
      rw [fput_s]
      refine ⟨by omega, by omega, ?_⟩
      rw [show (s p + 1).toNat = (s p).toNat + 1 by omega]
      exact ⟨p, hpp.2.2.2, d, hd0, hd3, hnb, c1, c2⟩
    · rw [so k e] at g3 ⊢
      obtain ⟨⟨i, i1, i2, i3⟩, k1, k2, k3⟩ := hB k g1 g2 g3
      exact ⟨⟨i, i1, by omega, by rw [qo i i2]; exact i3⟩, k1, by omega, k3⟩
  · by_cases e : j = r
    · subst e
      by_cases e2 : i = j
      · subst e2; exact Int.le_refl _
      · rw [qo i (by omega), sq i g1 (by omega), fput_s, fput_s]
        have := hD i g1 (by omega) h1
        rw [h2] at this
        exact this
    · rw [qo i (by omega), qo j (by omega), sq i g1 (by omega), sq j (by omega) (by omega)]
      exact hC i j g1 g2 (by omega)
  · rw [qo hd h1, sq hd h0 h1, h2]
    by_cases e : j = r
    · subst e; rw [fput_s, fput_s]; exact Int.le_refl _
    · rw [qo j (by omega), sq j g1 (by omega)]
      have := hD j g1 (by omega) h1
      rw [h2] at this
      exact this
  · rw [qo i (by omega)] at hk ⊢
    rw [sq i g1 (by omega)]
    have h9 := hG i g1 g2 k hk
    rw [so k (fun z => h9.1 (z ▸ c4))]
    exact h9
  · rw [qo hd h1]; exact h2
  · rw [so p hpb]
    by_cases e9 : e = d
    · subst e9
      rw [hnb, fput_s]
      exact ⟨by omega, Int.le_refl _⟩
    · have h9 := h3 e g1 (by omega) g3 g4
      rw [so (besid p e) (fun z => h9.1 (by rw [z]; exact c4))]
      exact h9
theorem BI_0 {J : Int → Int → Prop} {st : Int} {q s : Int → Int} (hs : 0 ≤ st ∧ st ≤ 63) (hall : ∀ p, 0 ≤ p → p ≤ 63 → s p = -1) : BI J st (fput q 0 st) (fput s st 0) 1 0 := by
  have so : ∀ k, k ≠ st → fput s st 0 k = s k := fun k hk => fput_o hk
  refine ⟨⟨by omega, by omega, by omega, ?_, fput_s⟩, fun i g1 g2 => ?_, fun p g1 g2 g3 => ?_, fun i j g1 g2 g3 => ?_, fun j g1 g2 g3 => ?_, fun i g1 g2 => absurd g2 (by omega)⟩
  · rw [cnt_put (by omega) (hall st hs.1 hs.2) hs.1 (by omega)]
    have h1 : cnt (fun p => s p ≠ -1) 64 = cnt (fun _ => False) 64 := cnt_congr (fun i g1 g2 => ⟨fun z => z (hall i g1 (by omega)), fun z => z.elim⟩)
    have h2 : ∀ n : Nat, cntN (fun _ => False) n = 0 := by
      intro n
      induction n with
      | zero => rfl
      | succ n ih => unfold cntN; rw [ih, if_neg (fun z => z)]; rfl
    rw [h1]
    unfold cnt
    rw [h2]; rfl
  · rw [show i = 0 by omega, fput_s, fput_s]; omega
  · have e : p = st := by
      refine Classical.byContradiction fun e => g3 ?_
      rw [so p e]; exact hall p g1 g2
    subst e
    rw [fput_s]
    exact ⟨⟨0, by omega, by omega, fput_s⟩, by omega, by omega, rfl⟩
  · rw [show i = 0 by omega, show j = 0 by omega]; exact Int.le_refl _
  · rw [show j = 0 by omega]; omega
theorem BI_end {J : Int → Int → Prop} {st : Int} {q s : Int → Int} {r hd : Int} (hs : 0 ≤ st ∧ st ≤ 63) (h : BI J st q s r hd) (he : r ≤ hd) : r = cnt (Reach J st) 64 ∧ DistF J st s := by
  obtain ⟨⟨a1, a2, a3, a4, a5⟩, hA, hB, hC, hD, hG⟩ := h
  have key : ∀ (n : Nat) (p : Int), Path J st n p → s p ≠ -1 ∧ s p ≤ n := by
    intro n
    induction n with
    | zero => intro p h; rw [show p = st from h, a5]; omega
    | succ n ih =>
      intro p h
      obtain ⟨k, hk, hadj⟩ := h
      have h1 := ih k hk
      have h2 := path_in hs n k hk
      obtain ⟨⟨i, i1, i2, i3⟩, -⟩ := hB k h2.1 h2.2 h1.1
      rw [← i3] at hadj h1
      have := hG i i1 (by omega) p hadj
      refine ⟨this.1, ?_⟩
      push_cast
      omega
  have hr : ∀ p, 0 ≤ p → p ≤ 63 → (s p ≠ -1 ↔ Reach J st p) := fun p g1 g2 => ⟨fun g3 => ⟨_, (hB p g1 g2 g3).2.2.2⟩, fun ⟨n, hn⟩ => (key n p hn).1⟩
  refine ⟨a4.trans (cnt_congr (fun i g1 g2 => hr i g1 (by omega))), fun p g1 g2 => ?_⟩
  by_cases g3 : s p = -1
  · exact Or.inl ⟨g3, fun z => (hr p g1 g2).mpr z g3⟩
  · have h1 := hB p g1 g2 g3
    exact Or.inr ⟨(s p).toNat, by omega, h1.2.2.2, fun m hm => by have := (key m p hm).2; omega⟩
/-- Q and S are a search's rows -/
def sc (h : HP) (Q S : Nat) (q s : Int → Int) : HP := hput (hput h Q (oI 64 q)) S (oI 64 s)
theorem sc_c {h : HP} {Q S : Nat} {q s q' s' : Int → Int} (n : Q ≠ S) : hput (hput (sc h Q S q s) Q (oI 64 q')) S (oI 64 s') = sc h Q S q' s' := by
  unfold sc
  funext j
  unfold hput
  by_cases q3 : j = S
  · simp only [if_pos q3]
  by_cases q2 : j = Q
  · simp only [if_neg q3, if_pos q2]
  simp only [if_neg q3, if_neg q2]
theorem sc_x {h : HP} {Q S : Nat} {q s q' s' : Int → Int} (n : Q ≠ S) : hput (hput (sc h Q S q s) S (oI 64 s')) Q (oI 64 q') = sc h Q S q' s' := by
  rw [hput_comm (Ne.symm n), sc_c n]
theorem sc_0 {h : HP} {Q S : Nat} {q s : Int → Int} (hQ : h Q = some (oI 64 q)) (hS : h S = some (oI 64 s)) : h = sc h Q S q s := by
  unfold sc
  rw [hput_self hQ, hput_self hS]
theorem sc_Q {h : HP} {Q S : Nat} {q s : Int → Int} (n : Q ≠ S) : sc h Q S q s Q = some (oI 64 q) := hput_o n hput_s
theorem sc_S {h : HP} {Q S : Nat} {q s : Int → Int} : sc h Q S q s S = some (oI 64 s) := hput_s
theorem sc_o {h : HP} {Q S j : Nat} {q s : Int → Int} {e : Option PE} (n1 : j ≠ Q) (n2 : j ≠ S) (he : h j = e) : sc h Q S q s j = e := hput_o n2 (hput_o n1 he)
theorem sc_sc {h : HP} {Q S : Nat} {q s q' s' : Int → Int} (n : Q ≠ S) : sc (sc h Q S q s) Q S q' s' = sc h Q S q' s' := sc_c n
section KOS
variable {x : Cx} {pc : Nat} {ls : List (Nat × PV)} {st : List PV} {h h0 : HP} {cl sl : Nat}
/-- the answer v; the search's rows anyhow, but for what P says of the steps -/
def RtS (v : PV) (h : HP) (Q S : Nat) (P : (Int → Int) → Prop) : PR → HP → Prop := fun r h' => ∃ q s : Int → Int, r = .inl (some v) ∧ h' = sc h Q S q s ∧ P s
theorem ko_rs {v : PV} {Q S : Nat} {P : (Int → Int) → Prop} (k : ∀ (q s : Int → Int), P s → T x (pc + 3) ls (v :: st) (sc h0 Q S q s) cl sl) : ∀ r h', RtS v h0 Q S P r h' → Ko x pc ls st cl sl r h' := by
  rintro r h' ⟨q, s, rfl, rfl, hp⟩
  exact k q s hp
theorem rs_i {a b : Int} {Q S : Nat} {P : (Int → Int) → Prop} {q s : Int → Int} (e : a = b) (eh : h = sc h0 Q S q s) (hp : P s) : RtS (vI b) h0 Q S P (.inl (some (vI a))) h := by
  subst e; subst eh; exact ⟨q, s, rfl, rfl, hp⟩
end KOS

set_option maxRecDepth 20000 in
set_option maxHeartbeats 4000000 in
theorem k_Search {g : Gx} {h : HP} {k Q S : Nat} (hk : h k = some (oO 5 [vN, vN])) (hQ : h Q = none) (hS : h S = none) (n1 : k ≠ Q) (n2 : k ≠ S) (n3 : Q ≠ S) : Ct g yX6_init (.code yX6_init cX6_init 1 none) 1 2 128 [vR k] h (Rt none ((hput (hput (hput (hput h Q (oI 64 (fun _ => 0))) k (oO 5 [vR Q, vN])) S (oI 64 (fun _ => 0))) k (oO 5 [vR Q, vR S])))) := by
  refine Ct.of (by decide) (Nat.le_of_ble_eq_true rfl) (fun x hg C F => ?_)
  subst hg
  show T x 0 [(0, vR k)] [] h 0 0
  refine st_aload_n C 0 dX6_init_0 rfl rfl ?_
  refine st_objInit C dX6_init_1 oi_X6_3 oi_2 oi_3 (by decide) (Nat.le_of_ble_eq_true rfl) ?_
  refine st_aload_n C 0 dX6_init_4 rfl rfl ?_
  refine st_bipush C dX6_init_5 (by decide) (by decide) ?_
  refine st_newI C 64 dX6_init_7 Q rfl (by decide) ac_I hQ (by omega) (by omega) ?_
  show T x 9 [(0, vR k)] [vR Q, vR k] (hput h Q (oI 64 (fun _ => 0))) (0 + 1) (0 + 64)
  refine st_putf C dX6_init_9 fp_X6_9 (fun _ => rfl) (hput_o (by omega) hk) (Nat.le_of_ble_eq_true rfl) fit_arrR ?_
  show T x 12 [(0, vR k)] [] (hput (hput h Q (oI 64 (fun _ => 0))) k (oO 5 [vR Q, vN])) _ _
  refine st_aload_n C 0 dX6_init_12 rfl rfl ?_
  refine st_bipush C dX6_init_13 (by decide) (by decide) ?_
  refine st_newI C 64 dX6_init_15 S rfl (by decide) ac_I (hput_o (by omega) (hput_o (by omega) hS)) (by omega) (by omega) ?_
  show T x 17 [(0, vR k)] [vR S, vR k] (hput (hput (hput h Q (oI 64 (fun _ => 0))) k (oO 5 [vR Q, vN])) S (oI 64 (fun _ => 0))) (0 + 1 + 1) (0 + 64 + 64)
  refine st_putf C dX6_init_17 fp_X6_15 (fun _ => rfl) (hput_o (by omega) hput_s) (Nat.le_of_ble_eq_true rfl) fit_arrR ?_
  show T x 20 [(0, vR k)] [] (hput (hput (hput (hput h Q (oI 64 (fun _ => 0))) k (oO 5 [vR Q, vN])) S (oI 64 (fun _ => 0))) k (oO 5 [vR Q, vR S])) _ _
  exact st_return C F dX6_init_20 rfl ⟨rfl, rfl⟩ (by omega) (by omega)
theorem sc_i {h : HP} {Q S : Nat} {s1 s2 q : Int → Int} (n : Q ≠ S) : hput (hput (hput h S (oI 64 s1)) Q (oI 64 q)) S (oI 64 s2) = sc h Q S q s2 := by
  rw [hput_comm n.symm, hput_hput]; rfl
set_option maxRecDepth 20000 in
set_option maxHeartbeats 4000000 in
theorem k_spread_r {g : Gx} {h : HP} {k Q S : Nat} {q0 s0 : Int → Int} {r : Nat} {rf : Int → Int} {p9 : Int} (hk : h k = some (oO 5 [vR Q, vR S])) (hQ : h Q = some (oI 64 q0)) (hS : h S = some (oI 64 s0)) (n1 : k ≠ Q) (n2 : k ≠ S) (n3 : Q ≠ S) (hr : h r = some (oI 304 rf)) (n4 : r ≠ Q) (n5 : r ≠ S) (hp : 0 ≤ p9 ∧ p9 ≤ 63) : Ct g yX6_spread (.code yX6_spread cX6_spread 10 (some .int)) 3 0 0 [vR k, vR r, vI (-1), vI p9] h (RtS (vI (cnt (Reach (fun a b => RoadB rf a b) p9) 64)) h Q S (DistF (fun a b => RoadB rf a b) p9)) := by
  refine Ct.of (by decide) (Nat.le_of_ble_eq_true rfl) (fun x hg C F => ?_)
  subst hg
  show T x 0 [(0, vR k), (1, vR r), (2, vI (-1)), (3, vI p9)] [] h 0 0
  refine st_aload_n C 0 dX6_spread_0 rfl rfl ?_
  refine st_getf C dX6_spread_1 fl_X6_15 hk rfl ?_
  refine st_iconst C dX6_spread_4 (by decide) ?_
  refine st_callS (st := []) C dX6_spread_5 [vR S, vI (-1)] (k_fill (n := 64) (f := s0) (v := (-1)) hS (by decide)) w_X6_18 rfl (by decide) (by decide) (by omega) (by omega) (Nat.le_of_ble_eq_true rfl) (ko_rn ?_)
  show T x 8 [(0, vR k), (1, vR r), (2, vI (-1)), (3, vI p9)] [] (hput h S (oI 64 (fmix (fun _ => (-1)) s0 64))) _ _
  refine st_iload_n C 3 dX6_spread_8 rfl rfl ?_
  refine st_if_lt (tgt := 18) C dX6_spread_9 (by decide) (fun c_9 => by omega) (fun c_9 => ?_)
  refine st_iload_n C 3 dX6_spread_12 rfl rfl ?_
  refine st_bipush C dX6_spread_13 (by decide) (by decide) ?_
  refine st_icmp_lt (tgt := 20) C dX6_spread_15 (by decide) (fun c_15 => ?_) (fun c_15 => by omega)
  refine st_aload_n C 0 dX6_spread_20 rfl rfl ?_
  refine st_getf C dX6_spread_21 fl_X6_9 (hput_o (by omega) hk) rfl ?_
  refine st_iconst C dX6_spread_24 (by decide) ?_
  refine st_iload_n C 3 dX6_spread_25 rfl rfl ?_
  refine st_iast C dX6_spread_26 (hput_o (by omega) hQ) (by omega) (by omega) ?_
  refine st_aload_n C 0 dX6_spread_27 rfl rfl ?_
  refine st_getf C dX6_spread_28 fl_X6_15 (hput_o (by omega) (hput_o (by omega) hk)) rfl ?_
  refine st_iload_n C 3 dX6_spread_31 rfl rfl ?_
  refine st_iconst C dX6_spread_32 (by decide) ?_
  refine st_iast C dX6_spread_33 (hput_o (by omega) hput_s) (by omega) (by omega) ?_
  refine st_iconst C dX6_spread_34 (by decide) ?_
  refine st_istore C dX6_spread_35 (by decide) rfl ?_
  show T x 37 [(0, vR k), (1, vR r), (2, vI (-1)), (3, vI p9), (4, vI 1)] [] _ _ _
  refine st_iconst C dX6_spread_37 (by decide) ?_
  refine st_istore C dX6_spread_38 (by decide) rfl ?_
  show T x 40 [(0, vR k), (1, vR r), (2, vI (-1)), (3, vI p9), (4, vI 1), (5, vI 0)] [] _ _ _
  have loop_40 : ∀ (n_40 : Nat) (q1 : Int → Int) (s1 : Int → Int) (r1 : Int) (hd : Int) (h1 : HP), (0 ≤ hd) → (BI (fun a b => RoadB rf a b) p9 q1 s1 r1 hd) → (h1 = sc h Q S q1 s1) → (64 - hd).toNat < n_40 → T x 40 [(0, vR k), (1, vR r), (2, vI (-1)), (3, vI p9), (4, vI r1), (5, vI hd)] [] h1 0 0 := by
    intro n_40
    induction n_40 with
    | zero => intro q1 s1 r1 hd h1 g1 g2 hh hm_40; exact absurd hm_40 (Nat.not_lt_zero _)
    | succ n_40 ih_40 =>
      intro q1 s1 r1 hd h1 g1 g2 hh hm_40
      obtain ⟨⟨e1, e2, e3, -, -⟩, e4, -⟩ := id g2
      have e5 : hd < r1 → 0 ≤ q1 hd ∧ q1 hd ≤ 63 := fun z => ⟨(e4 hd g1 z).1, (e4 hd g1 z).2.1⟩
      refine st_iload C dX6_spread_40 rfl ?_
      refine st_iload C dX6_spread_42 rfl ?_
      refine st_icmp_ge (tgt := 193) C dX6_spread_44 (by decide) (fun c_44 => ?_) (fun c_44 => ?_)
      · refine st_iload C dX6_spread_193 rfl ?_
        exact st_ireturn C F dX6_spread_195 rfl (by have e9 := BI_end hp g2 (by omega); exact rs_i e9.1 hh e9.2) (by omega) (by omega)
      · refine st_iload C dX6_spread_47 rfl ?_
        refine st_bipush C dX6_spread_49 (by decide) (by decide) ?_
        refine st_icmp_ge (tgt := 193) C dX6_spread_51 (by decide) (fun c_51 => by omega) (fun c_51 => ?_)
        refine st_aload_n C 0 dX6_spread_54 rfl rfl ?_
        refine st_getf C dX6_spread_55 fl_X6_9 (by rw [hh]; exact sc_o n1 n2 hk) rfl ?_
        refine st_iload C dX6_spread_58 rfl ?_
        refine st_iald C dX6_spread_60 (by rw [hh]; exact sc_Q n3) (by omega) (by omega) ?_
        refine st_istore C dX6_spread_61 (by decide) rfl ?_
        show T x 63 [(0, vR k), (1, vR r), (2, vI (-1)), (3, vI p9), (4, vI r1), (5, vI hd), (6, vI (q1 hd))] [] _ _ _
        refine st_iconst C dX6_spread_63 (by decide) ?_
        refine st_istore C dX6_spread_64 (by decide) rfl ?_
        show T x 66 [(0, vR k), (1, vR r), (2, vI (-1)), (3, vI p9), (4, vI r1), (5, vI hd), (6, vI (q1 hd)), (7, vI 0)] [] _ _ _
        have loop_66 : ∀ (n_66 : Nat) (q2 : Int → Int) (s2 : Int → Int) (r2 : Int) (d1 : Int) (h2 : HP), (0 ≤ d1) → (d1 ≤ 4) → (BP (fun a b => RoadB rf a b) p9 q2 s2 r2 hd (q1 hd) d1) → (h2 = sc h Q S q2 s2) → (4 - d1).toNat < n_66 → T x 66 [(0, vR k), (1, vR r), (2, vI (-1)), (3, vI p9), (4, vI r2), (5, vI hd), (6, vI (q1 hd)), (7, vI d1)] [] h2 0 0 := by
          intro n_66
          induction n_66 with
          | zero => intro q2 s2 r2 d1 h2 g3 g4 g5 hh2 hm_66; exact absurd hm_66 (Nat.not_lt_zero _)
          | succ n_66 ih_66 =>
            intro q2 s2 r2 d1 h2 g3 g4 g5 hh2 hm_66
            obtain ⟨⟨⟨f1, f2, f3, -, -⟩, f4, f5, -⟩, f6, f7, -⟩ := id g5
            have f8 := f4 hd g1 f6
            rw [f7] at f8
            have f9 := f5 _ f8.1 f8.2.1 f8.2.2
            have fb := besid_in (p := q1 hd) (d := d1) ⟨f8.1, f8.2.1⟩
            refine st_iload C dX6_spread_66 rfl ?_
            refine st_iconst C dX6_spread_68 (by decide) ?_
            refine st_icmp_ge (tgt := 187) C dX6_spread_69 (by decide) (fun c_69 => ?_) (fun c_69 => ?_)
            · refine st_iinc C dX6_spread_187 rfl (by decide) rfl ⟨(by omega), (by omega)⟩ ?_
              show T x 190 [(0, vR k), (1, vR r), (2, vI (-1)), (3, vI p9), (4, vI r2), (5, vI (hd + 1)), (6, vI (q1 hd)), (7, vI d1)] [] _ _ _
              refine st_goto (tgt := 40) C dX6_spread_190 (by decide) ?_
              refine st_sub [0, 1, 2, 3, 4, 5] rfl ?_
              exact ih_40 q2 s2 r2 (hd + 1) h2 (by omega) (BP_4 g1 (by omega) g5) (hh2) (by omega)
            · refine st_iload C dX6_spread_72 rfl ?_
              refine st_iload C dX6_spread_74 rfl ?_
              refine st_callS (st := []) C dX6_spread_76 [vI (q1 hd), vI d1] (k_beside (p := (q1 hd)) (d := d1) (by omega) (by omega)) w_X6_26 rfl (by decide) (by decide) (by omega) (by omega) (Nat.le_of_ble_eq_true rfl) (ko_rt ?_)
              show T x 79 [(0, vR k), (1, vR r), (2, vI (-1)), (3, vI p9), (4, vI r2), (5, vI hd), (6, vI (q1 hd)), (7, vI d1)] [vI (besid (q1 hd) d1)] _ _ _
              refine st_istore C dX6_spread_79 (by decide) rfl ?_
              show T x 81 [(0, vR k), (1, vR r), (2, vI (-1)), (3, vI p9), (4, vI r2), (5, vI hd), (6, vI (q1 hd)), (7, vI d1), (8, vI (besid (q1 hd) d1))] [] _ _ _
              refine st_iload C dX6_spread_81 rfl ?_
              refine st_iconst C dX6_spread_83 (by decide) ?_
              refine st_icmp_eq (tgt := 127) C dX6_spread_84 (by decide) (fun c_84 => ?_) (fun c_84 => ?_)
              · refine st_iconst C dX6_spread_127 (by decide) ?_
                refine st_istore C dX6_spread_128 (by decide) rfl ?_
                show T x 130 [(0, vR k), (1, vR r), (2, vI (-1)), (3, vI p9), (4, vI r2), (5, vI hd), (6, vI (q1 hd)), (7, vI d1), (8, vI (besid (q1 hd) d1)), (9, vI 0)] [] _ _ _
                refine st_iload C dX6_spread_130 rfl ?_
                refine st_if_eq (tgt := 181) C dX6_spread_132 (by decide) (fun c_132 => ?_) (fun c_132 => by omega)
                refine st_iinc C dX6_spread_181 rfl (by decide) rfl ⟨(by omega), (by omega)⟩ ?_
                show T x 184 [(0, vR k), (1, vR r), (2, vI (-1)), (3, vI p9), (4, vI r2), (5, vI hd), (6, vI (q1 hd)), (7, vI (d1 + 1)), (8, vI (besid (q1 hd) d1)), (9, vI 0)] [] _ _ _
                refine st_goto (tgt := 66) C dX6_spread_184 (by decide) ?_
                refine st_sub [0, 1, 2, 3, 4, 5, 6, 7] rfl ?_
                exact ih_66 q2 s2 r2 (d1 + 1) h2 (by omega) (by omega) (by first | exact BP_no g1 g3 g5 (fun z9 => by first | exact z9.1 (by assumption) | exact absurd z9.2.1 (by assumption) | exact absurd z9.2.2.1 (by omega) | exact absurd z9.2.2.2 (by assumption)) | exact BP_yes g1 g3 (by omega) g5 (by assumption) (by assumption) (by omega) (by assumption)) (by first | exact hh2 | (rw [hh2]; exact sc_x n3)) (by omega)
              · refine st_iload_n C 2 dX6_spread_87 rfl rfl ?_
                refine st_iconst C dX6_spread_88 (by decide) ?_
                refine st_icmp_ne (tgt := 106) C dX6_spread_89 (by decide) (fun c_89 => by omega) (fun c_89 => ?_)
                refine st_aload_n C 1 dX6_spread_92 rfl rfl ?_
                refine st_iload C dX6_spread_93 rfl ?_
                refine st_iload C dX6_spread_95 rfl ?_
                by_cases b_97 : RoadB rf (q1 hd) (besid (q1 hd) d1)
                · refine st_callS (st := []) C dX6_spread_97 [vR r, vI (q1 hd), vI (besid (q1 hd) d1)] (k_isRoadBetween_t (f := rf) (p := (q1 hd)) (q := (besid (q1 hd) d1)) (by rw [hh2]; exact sc_o n4 n5 hr) (by omega) (by omega) b_97) w_X6_30 rfl (by decide) (by decide) (by omega) (by omega) (Nat.le_of_ble_eq_true rfl) (ko_rt ?_)
                  show T x 100 [(0, vR k), (1, vR r), (2, vI (-1)), (3, vI p9), (4, vI r2), (5, vI hd), (6, vI (q1 hd)), (7, vI d1), (8, vI (besid (q1 hd) d1))] [vI 1] _ _ _
                  refine st_if_eq (tgt := 127) C dX6_spread_100 (by decide) (fun c_100 => by omega) (fun c_100 => ?_)
                  refine st_goto (tgt := 123) C dX6_spread_103 (by decide) ?_
                  refine st_iconst C dX6_spread_123 (by decide) ?_
                  refine st_goto (tgt := 128) C dX6_spread_124 (by decide) ?_
                  refine st_istore C dX6_spread_128 (by decide) rfl ?_
                  show T x 130 [(0, vR k), (1, vR r), (2, vI (-1)), (3, vI p9), (4, vI r2), (5, vI hd), (6, vI (q1 hd)), (7, vI d1), (8, vI (besid (q1 hd) d1)), (9, vI 1)] [] _ _ _
                  refine st_iload C dX6_spread_130 rfl ?_
                  refine st_if_eq (tgt := 181) C dX6_spread_132 (by decide) (fun c_132 => by omega) (fun c_132 => ?_)
                  refine st_iload C dX6_spread_135 rfl ?_
                  refine st_bipush C dX6_spread_137 (by decide) (by decide) ?_
                  refine st_icmp_ge (tgt := 181) C dX6_spread_139 (by decide) (fun c_139 => ?_) (fun c_139 => ?_)
                  · refine st_iinc C dX6_spread_181 rfl (by decide) rfl ⟨(by omega), (by omega)⟩ ?_
                    show T x 184 [(0, vR k), (1, vR r), (2, vI (-1)), (3, vI p9), (4, vI r2), (5, vI hd), (6, vI (q1 hd)), (7, vI (d1 + 1)), (8, vI (besid (q1 hd) d1)), (9, vI 1)] [] _ _ _
                    refine st_goto (tgt := 66) C dX6_spread_184 (by decide) ?_
                    refine st_sub [0, 1, 2, 3, 4, 5, 6, 7] rfl ?_
                    exact ih_66 q2 s2 r2 (d1 + 1) h2 (by omega) (by omega) (by first | exact BP_no g1 g3 g5 (fun z9 => by first | exact z9.1 (by assumption) | exact absurd z9.2.1 (by assumption) | exact absurd z9.2.2.1 (by omega) | exact absurd z9.2.2.2 (by assumption)) | exact BP_yes g1 g3 (by omega) g5 (by assumption) (by assumption) (by omega) (by assumption)) (by first | exact hh2 | (rw [hh2]; exact sc_x n3)) (by omega)
                  · refine st_aload_n C 0 dX6_spread_142 rfl rfl ?_
                    refine st_getf C dX6_spread_143 fl_X6_15 (by rw [hh2]; exact sc_o n1 n2 hk) rfl ?_
                    refine st_iload C dX6_spread_146 rfl ?_
                    refine st_iald C dX6_spread_148 (by rw [hh2]; exact sc_S) (by omega) (by omega) ?_
                    refine st_iconst C dX6_spread_149 (by decide) ?_
                    refine st_icmp_ne (tgt := 181) C dX6_spread_150 (by decide) (fun c_150 => ?_) (fun c_150 => ?_)
                    · refine st_iinc C dX6_spread_181 rfl (by decide) rfl ⟨(by omega), (by omega)⟩ ?_
                      show T x 184 [(0, vR k), (1, vR r), (2, vI (-1)), (3, vI p9), (4, vI r2), (5, vI hd), (6, vI (q1 hd)), (7, vI (d1 + 1)), (8, vI (besid (q1 hd) d1)), (9, vI 1)] [] _ _ _
                      refine st_goto (tgt := 66) C dX6_spread_184 (by decide) ?_
                      refine st_sub [0, 1, 2, 3, 4, 5, 6, 7] rfl ?_
                      exact ih_66 q2 s2 r2 (d1 + 1) h2 (by omega) (by omega) (by first | exact BP_no g1 g3 g5 (fun z9 => by first | exact z9.1 (by assumption) | exact absurd z9.2.1 (by assumption) | exact absurd z9.2.2.1 (by omega) | exact absurd z9.2.2.2 (by assumption)) | exact BP_yes g1 g3 (by omega) g5 (by assumption) (by assumption) (by omega) (by assumption)) (by first | exact hh2 | (rw [hh2]; exact sc_x n3)) (by omega)
                    · refine st_aload_n C 0 dX6_spread_153 rfl rfl ?_
                      refine st_getf C dX6_spread_154 fl_X6_15 (by rw [hh2]; exact sc_o n1 n2 hk) rfl ?_
                      refine st_iload C dX6_spread_157 rfl ?_
                      refine st_aload_n C 0 dX6_spread_159 rfl rfl ?_
                      refine st_getf C dX6_spread_160 fl_X6_15 (by rw [hh2]; exact sc_o n1 n2 hk) rfl ?_
                      refine st_iload C dX6_spread_163 rfl ?_
                      refine st_iald C dX6_spread_165 (by rw [hh2]; exact sc_S) (by omega) (by omega) ?_
                      refine st_iconst C dX6_spread_166 (by decide) ?_
                      refine st_iadd C dX6_spread_167 ⟨(by omega), (by omega)⟩ ?_
                      refine st_iast C dX6_spread_168 (by rw [hh2]; exact sc_S) (by omega) (by omega) ?_
                      refine st_aload_n C 0 dX6_spread_169 rfl rfl ?_
                      refine st_getf C dX6_spread_170 fl_X6_9 (hput_o (by omega) (by rw [hh2]; exact sc_o n1 n2 hk)) rfl ?_
                      refine st_iload C dX6_spread_173 rfl ?_
                      refine st_iload C dX6_spread_175 rfl ?_
                      refine st_iast C dX6_spread_177 (hput_o (by omega) (by rw [hh2]; exact sc_Q n3)) (by omega) (by omega) ?_
                      refine st_iinc C dX6_spread_178 rfl (by decide) rfl ⟨(by omega), (by omega)⟩ ?_
                      show T x 181 [(0, vR k), (1, vR r), (2, vI (-1)), (3, vI p9), (4, vI (r2 + 1)), (5, vI hd), (6, vI (q1 hd)), (7, vI d1), (8, vI (besid (q1 hd) d1)), (9, vI 1)] [] _ _ _
                      refine st_iinc C dX6_spread_181 rfl (by decide) rfl ⟨(by omega), (by omega)⟩ ?_
                      show T x 184 [(0, vR k), (1, vR r), (2, vI (-1)), (3, vI p9), (4, vI (r2 + 1)), (5, vI hd), (6, vI (q1 hd)), (7, vI (d1 + 1)), (8, vI (besid (q1 hd) d1)), (9, vI 1)] [] _ _ _
                      refine st_goto (tgt := 66) C dX6_spread_184 (by decide) ?_
                      refine st_sub [0, 1, 2, 3, 4, 5, 6, 7] rfl ?_
                      exact ih_66 (fput q2 r2 (besid (q1 hd) d1)) (fput s2 (besid (q1 hd) d1) (s2 (q1 hd) + 1)) (r2 + 1) (d1 + 1) (hput (hput h2 S (oI 64 (fput s2 (besid (q1 hd) d1) (s2 (q1 hd) + 1)))) Q (oI 64 (fput q2 r2 (besid (q1 hd) d1)))) (by omega) (by omega) (by first | exact BP_no g1 g3 g5 (fun z9 => by first | exact z9.1 (by assumption) | exact absurd z9.2.1 (by assumption) | exact absurd z9.2.2.1 (by omega) | exact absurd z9.2.2.2 (by assumption)) | exact BP_yes g1 g3 (by omega) g5 (by assumption) (by assumption) (by omega) (by assumption)) (by first | exact hh2 | (rw [hh2]; exact sc_x n3)) (by omega)
                · refine st_callS (st := []) C dX6_spread_97 [vR r, vI (q1 hd), vI (besid (q1 hd) d1)] (k_isRoadBetween_f (f := rf) (p := (q1 hd)) (q := (besid (q1 hd) d1)) (by rw [hh2]; exact sc_o n4 n5 hr) (by omega) (by omega) b_97) w_X6_30 rfl (by decide) (by decide) (by omega) (by omega) (Nat.le_of_ble_eq_true rfl) (ko_rt ?_)
                  show T x 100 [(0, vR k), (1, vR r), (2, vI (-1)), (3, vI p9), (4, vI r2), (5, vI hd), (6, vI (q1 hd)), (7, vI d1), (8, vI (besid (q1 hd) d1))] [vI 0] _ _ _
                  refine st_if_eq (tgt := 127) C dX6_spread_100 (by decide) (fun c_100 => ?_) (fun c_100 => by omega)
                  refine st_iconst C dX6_spread_127 (by decide) ?_
                  refine st_istore C dX6_spread_128 (by decide) rfl ?_
                  show T x 130 [(0, vR k), (1, vR r), (2, vI (-1)), (3, vI p9), (4, vI r2), (5, vI hd), (6, vI (q1 hd)), (7, vI d1), (8, vI (besid (q1 hd) d1)), (9, vI 0)] [] _ _ _
                  refine st_iload C dX6_spread_130 rfl ?_
                  refine st_if_eq (tgt := 181) C dX6_spread_132 (by decide) (fun c_132 => ?_) (fun c_132 => by omega)
                  refine st_iinc C dX6_spread_181 rfl (by decide) rfl ⟨(by omega), (by omega)⟩ ?_
                  show T x 184 [(0, vR k), (1, vR r), (2, vI (-1)), (3, vI p9), (4, vI r2), (5, vI hd), (6, vI (q1 hd)), (7, vI (d1 + 1)), (8, vI (besid (q1 hd) d1)), (9, vI 0)] [] _ _ _
                  refine st_goto (tgt := 66) C dX6_spread_184 (by decide) ?_
                  refine st_sub [0, 1, 2, 3, 4, 5, 6, 7] rfl ?_
                  exact ih_66 q2 s2 r2 (d1 + 1) h2 (by omega) (by omega) (by first | exact BP_no g1 g3 g5 (fun z9 => by first | exact z9.1 (by assumption) | exact absurd z9.2.1 (by assumption) | exact absurd z9.2.2.1 (by omega) | exact absurd z9.2.2.2 (by assumption)) | exact BP_yes g1 g3 (by omega) g5 (by assumption) (by assumption) (by omega) (by assumption)) (by first | exact hh2 | (rw [hh2]; exact sc_x n3)) (by omega)
        exact loop_66 _ q1 s1 r1 0 h1 (by omega) (by omega) (BP_0 g2 (by omega)) (hh) (Nat.lt_succ_self _)
  exact loop_40 _ (fput q0 0 p9) (fput (fmix (fun _ => (-1)) s0 64) p9 0) 1 0 (hput (hput (hput h S (oI 64 (fmix (fun _ => (-1)) s0 64))) Q (oI 64 (fput q0 0 p9))) S (oI 64 (fput (fmix (fun _ => (-1)) s0 64) p9 0))) (by omega) (BI_0 hp (fun p g1 g2 => by rw [fmix_in g1 (by omega)])) (by exact sc_i n3) (Nat.lt_succ_self _)
set_option maxRecDepth 20000 in
set_option maxHeartbeats 4000000 in
theorem k_spread_l {g : Gx} {h : HP} {k Q S : Nat} {q0 s0 : Int → Int} {r : Nat} {rf : Int → Int} {p9 l : Int} (hk : h k = some (oO 5 [vR Q, vR S])) (hQ : h Q = some (oI 64 q0)) (hS : h S = some (oI 64 s0)) (n1 : k ≠ Q) (n2 : k ≠ S) (n3 : Q ≠ S) (hr : h r = some (oI 304 rf)) (n4 : r ≠ Q) (n5 : r ≠ S) (hp : 0 ≤ p9 ∧ p9 ≤ 63) (hl : 0 ≤ l ∧ l ≤ 2) : Ct g yX6_spread (.code yX6_spread cX6_spread 10 (some .int)) 3 0 0 [vR k, vR r, vI l, vI p9] h (RtS (vI (cnt (Reach (fun a b => rf (64 * l + a) = rf (64 * l + b)) p9) 64)) h Q S (DistF (fun a b => rf (64 * l + a) = rf (64 * l + b)) p9)) := by
  refine Ct.of (by decide) (Nat.le_of_ble_eq_true rfl) (fun x hg C F => ?_)
  subst hg
  show T x 0 [(0, vR k), (1, vR r), (2, vI l), (3, vI p9)] [] h 0 0
  refine st_aload_n C 0 dX6_spread_0 rfl rfl ?_
  refine st_getf C dX6_spread_1 fl_X6_15 hk rfl ?_
  refine st_iconst C dX6_spread_4 (by decide) ?_
  refine st_callS (st := []) C dX6_spread_5 [vR S, vI (-1)] (k_fill (n := 64) (f := s0) (v := (-1)) hS (by decide)) w_X6_18 rfl (by decide) (by decide) (by omega) (by omega) (Nat.le_of_ble_eq_true rfl) (ko_rn ?_)
  show T x 8 [(0, vR k), (1, vR r), (2, vI l), (3, vI p9)] [] (hput h S (oI 64 (fmix (fun _ => (-1)) s0 64))) _ _
  refine st_iload_n C 3 dX6_spread_8 rfl rfl ?_
  refine st_if_lt (tgt := 18) C dX6_spread_9 (by decide) (fun c_9 => by omega) (fun c_9 => ?_)
  refine st_iload_n C 3 dX6_spread_12 rfl rfl ?_
  refine st_bipush C dX6_spread_13 (by decide) (by decide) ?_
  refine st_icmp_lt (tgt := 20) C dX6_spread_15 (by decide) (fun c_15 => ?_) (fun c_15 => by omega)
  refine st_aload_n C 0 dX6_spread_20 rfl rfl ?_
  refine st_getf C dX6_spread_21 fl_X6_9 (hput_o (by omega) hk) rfl ?_
  refine st_iconst C dX6_spread_24 (by decide) ?_
  refine st_iload_n C 3 dX6_spread_25 rfl rfl ?_
  refine st_iast C dX6_spread_26 (hput_o (by omega) hQ) (by omega) (by omega) ?_
  refine st_aload_n C 0 dX6_spread_27 rfl rfl ?_
  refine st_getf C dX6_spread_28 fl_X6_15 (hput_o (by omega) (hput_o (by omega) hk)) rfl ?_
  refine st_iload_n C 3 dX6_spread_31 rfl rfl ?_
  refine st_iconst C dX6_spread_32 (by decide) ?_
  refine st_iast C dX6_spread_33 (hput_o (by omega) hput_s) (by omega) (by omega) ?_
  refine st_iconst C dX6_spread_34 (by decide) ?_
  refine st_istore C dX6_spread_35 (by decide) rfl ?_
  show T x 37 [(0, vR k), (1, vR r), (2, vI l), (3, vI p9), (4, vI 1)] [] _ _ _
  refine st_iconst C dX6_spread_37 (by decide) ?_
  refine st_istore C dX6_spread_38 (by decide) rfl ?_
  show T x 40 [(0, vR k), (1, vR r), (2, vI l), (3, vI p9), (4, vI 1), (5, vI 0)] [] _ _ _
  have loop_40 : ∀ (n_40 : Nat) (q1 : Int → Int) (s1 : Int → Int) (r1 : Int) (hd : Int) (h1 : HP), (0 ≤ hd) → (BI (fun a b => rf (64 * l + a) = rf (64 * l + b)) p9 q1 s1 r1 hd) → (h1 = sc h Q S q1 s1) → (64 - hd).toNat < n_40 → T x 40 [(0, vR k), (1, vR r), (2, vI l), (3, vI p9), (4, vI r1), (5, vI hd)] [] h1 0 0 := by
    intro n_40
    induction n_40 with
    | zero => intro q1 s1 r1 hd h1 g1 g2 hh hm_40; exact absurd hm_40 (Nat.not_lt_zero _)
    | succ n_40 ih_40 =>
      intro q1 s1 r1 hd h1 g1 g2 hh hm_40
      obtain ⟨⟨e1, e2, e3, -, -⟩, e4, -⟩ := id g2
      have e5 : hd < r1 → 0 ≤ q1 hd ∧ q1 hd ≤ 63 := fun z => ⟨(e4 hd g1 z).1, (e4 hd g1 z).2.1⟩
      refine st_iload C dX6_spread_40 rfl ?_
      refine st_iload C dX6_spread_42 rfl ?_
      refine st_icmp_ge (tgt := 193) C dX6_spread_44 (by decide) (fun c_44 => ?_) (fun c_44 => ?_)
      · refine st_iload C dX6_spread_193 rfl ?_
        exact st_ireturn C F dX6_spread_195 rfl (by have e9 := BI_end hp g2 (by omega); exact rs_i e9.1 hh e9.2) (by omega) (by omega)
      · refine st_iload C dX6_spread_47 rfl ?_
        refine st_bipush C dX6_spread_49 (by decide) (by decide) ?_
        refine st_icmp_ge (tgt := 193) C dX6_spread_51 (by decide) (fun c_51 => by omega) (fun c_51 => ?_)
        refine st_aload_n C 0 dX6_spread_54 rfl rfl ?_
        refine st_getf C dX6_spread_55 fl_X6_9 (by rw [hh]; exact sc_o n1 n2 hk) rfl ?_
        refine st_iload C dX6_spread_58 rfl ?_
        refine st_iald C dX6_spread_60 (by rw [hh]; exact sc_Q n3) (by omega) (by omega) ?_
        refine st_istore C dX6_spread_61 (by decide) rfl ?_
        show T x 63 [(0, vR k), (1, vR r), (2, vI l), (3, vI p9), (4, vI r1), (5, vI hd), (6, vI (q1 hd))] [] _ _ _
        refine st_iconst C dX6_spread_63 (by decide) ?_
        refine st_istore C dX6_spread_64 (by decide) rfl ?_
        show T x 66 [(0, vR k), (1, vR r), (2, vI l), (3, vI p9), (4, vI r1), (5, vI hd), (6, vI (q1 hd)), (7, vI 0)] [] _ _ _
        have loop_66 : ∀ (n_66 : Nat) (q2 : Int → Int) (s2 : Int → Int) (r2 : Int) (d1 : Int) (h2 : HP), (0 ≤ d1) → (d1 ≤ 4) → (BP (fun a b => rf (64 * l + a) = rf (64 * l + b)) p9 q2 s2 r2 hd (q1 hd) d1) → (h2 = sc h Q S q2 s2) → (4 - d1).toNat < n_66 → T x 66 [(0, vR k), (1, vR r), (2, vI l), (3, vI p9), (4, vI r2), (5, vI hd), (6, vI (q1 hd)), (7, vI d1)] [] h2 0 0 := by
          intro n_66
          induction n_66 with
          | zero => intro q2 s2 r2 d1 h2 g3 g4 g5 hh2 hm_66; exact absurd hm_66 (Nat.not_lt_zero _)
          | succ n_66 ih_66 =>
            intro q2 s2 r2 d1 h2 g3 g4 g5 hh2 hm_66
            obtain ⟨⟨⟨f1, f2, f3, -, -⟩, f4, f5, -⟩, f6, f7, -⟩ := id g5
            have f8 := f4 hd g1 f6
            rw [f7] at f8
            have f9 := f5 _ f8.1 f8.2.1 f8.2.2
            have fb := besid_in (p := q1 hd) (d := d1) ⟨f8.1, f8.2.1⟩
            refine st_iload C dX6_spread_66 rfl ?_
            refine st_iconst C dX6_spread_68 (by decide) ?_
            refine st_icmp_ge (tgt := 187) C dX6_spread_69 (by decide) (fun c_69 => ?_) (fun c_69 => ?_)
            · refine st_iinc C dX6_spread_187 rfl (by decide) rfl ⟨(by omega), (by omega)⟩ ?_
              show T x 190 [(0, vR k), (1, vR r), (2, vI l), (3, vI p9), (4, vI r2), (5, vI (hd + 1)), (6, vI (q1 hd)), (7, vI d1)] [] _ _ _
              refine st_goto (tgt := 40) C dX6_spread_190 (by decide) ?_
              refine st_sub [0, 1, 2, 3, 4, 5] rfl ?_
              exact ih_40 q2 s2 r2 (hd + 1) h2 (by omega) (BP_4 g1 (by omega) g5) (hh2) (by omega)
            · refine st_iload C dX6_spread_72 rfl ?_
              refine st_iload C dX6_spread_74 rfl ?_
              refine st_callS (st := []) C dX6_spread_76 [vI (q1 hd), vI d1] (k_beside (p := (q1 hd)) (d := d1) (by omega) (by omega)) w_X6_26 rfl (by decide) (by decide) (by omega) (by omega) (Nat.le_of_ble_eq_true rfl) (ko_rt ?_)
              show T x 79 [(0, vR k), (1, vR r), (2, vI l), (3, vI p9), (4, vI r2), (5, vI hd), (6, vI (q1 hd)), (7, vI d1)] [vI (besid (q1 hd) d1)] _ _ _
              refine st_istore C dX6_spread_79 (by decide) rfl ?_
              show T x 81 [(0, vR k), (1, vR r), (2, vI l), (3, vI p9), (4, vI r2), (5, vI hd), (6, vI (q1 hd)), (7, vI d1), (8, vI (besid (q1 hd) d1))] [] _ _ _
              refine st_iload C dX6_spread_81 rfl ?_
              refine st_iconst C dX6_spread_83 (by decide) ?_
              refine st_icmp_eq (tgt := 127) C dX6_spread_84 (by decide) (fun c_84 => ?_) (fun c_84 => ?_)
              · refine st_iconst C dX6_spread_127 (by decide) ?_
                refine st_istore C dX6_spread_128 (by decide) rfl ?_
                show T x 130 [(0, vR k), (1, vR r), (2, vI l), (3, vI p9), (4, vI r2), (5, vI hd), (6, vI (q1 hd)), (7, vI d1), (8, vI (besid (q1 hd) d1)), (9, vI 0)] [] _ _ _
                refine st_iload C dX6_spread_130 rfl ?_
                refine st_if_eq (tgt := 181) C dX6_spread_132 (by decide) (fun c_132 => ?_) (fun c_132 => by omega)
                refine st_iinc C dX6_spread_181 rfl (by decide) rfl ⟨(by omega), (by omega)⟩ ?_
                show T x 184 [(0, vR k), (1, vR r), (2, vI l), (3, vI p9), (4, vI r2), (5, vI hd), (6, vI (q1 hd)), (7, vI (d1 + 1)), (8, vI (besid (q1 hd) d1)), (9, vI 0)] [] _ _ _
                refine st_goto (tgt := 66) C dX6_spread_184 (by decide) ?_
                refine st_sub [0, 1, 2, 3, 4, 5, 6, 7] rfl ?_
                exact ih_66 q2 s2 r2 (d1 + 1) h2 (by omega) (by omega) (by first | exact BP_no g1 g3 g5 (fun z9 => by first | exact z9.1 (by assumption) | exact absurd z9.2.1 (by assumption) | exact absurd z9.2.2.1 (by omega) | exact absurd z9.2.2.2 (by assumption)) | exact BP_yes g1 g3 (by omega) g5 (by assumption) (by assumption) (by omega) (by assumption)) (by first | exact hh2 | (rw [hh2]; exact sc_x n3)) (by omega)
              · refine st_iload_n C 2 dX6_spread_87 rfl rfl ?_
                refine st_iconst C dX6_spread_88 (by decide) ?_
                refine st_icmp_ne (tgt := 106) C dX6_spread_89 (by decide) (fun c_89 => ?_) (fun c_89 => by omega)
                refine st_aload_n C 1 dX6_spread_106 rfl rfl ?_
                refine st_iload_n C 2 dX6_spread_107 rfl rfl ?_
                refine st_iload C dX6_spread_108 rfl ?_
                refine st_callS (st := []) C dX6_spread_110 [vR r, vI l, vI (q1 hd)] (k_areaAt (f := rf) (l := l) (p := (q1 hd)) (by rw [hh2]; exact sc_o n4 n5 hr) (by omega) (by omega)) w_X6_34 rfl (by decide) (by decide) (by omega) (by omega) (Nat.le_of_ble_eq_true rfl) (ko_rt ?_)
                show T x 113 [(0, vR k), (1, vR r), (2, vI l), (3, vI p9), (4, vI r2), (5, vI hd), (6, vI (q1 hd)), (7, vI d1), (8, vI (besid (q1 hd) d1))] [vI (rf (64 * l + (q1 hd)))] _ _ _
                refine st_aload_n C 1 dX6_spread_113 rfl rfl ?_
                refine st_iload_n C 2 dX6_spread_114 rfl rfl ?_
                refine st_iload C dX6_spread_115 rfl ?_
                refine st_callS (st := [vI (rf (64 * l + (q1 hd)))]) C dX6_spread_117 [vR r, vI l, vI (besid (q1 hd) d1)] (k_areaAt (f := rf) (l := l) (p := (besid (q1 hd) d1)) (by rw [hh2]; exact sc_o n4 n5 hr) (by omega) (by omega)) w_X6_34 rfl (by decide) (by decide) (by omega) (by omega) (Nat.le_of_ble_eq_true rfl) (ko_rt ?_)
                show T x 120 [(0, vR k), (1, vR r), (2, vI l), (3, vI p9), (4, vI r2), (5, vI hd), (6, vI (q1 hd)), (7, vI d1), (8, vI (besid (q1 hd) d1))] [vI (rf (64 * l + (besid (q1 hd) d1))), vI (rf (64 * l + (q1 hd)))] _ _ _
                refine st_icmp_ne (tgt := 127) C dX6_spread_120 (by decide) (fun c_120 => ?_) (fun c_120 => ?_)
                · refine st_iconst C dX6_spread_127 (by decide) ?_
                  refine st_istore C dX6_spread_128 (by decide) rfl ?_
                  show T x 130 [(0, vR k), (1, vR r), (2, vI l), (3, vI p9), (4, vI r2), (5, vI hd), (6, vI (q1 hd)), (7, vI d1), (8, vI (besid (q1 hd) d1)), (9, vI 0)] [] _ _ _
                  refine st_iload C dX6_spread_130 rfl ?_
                  refine st_if_eq (tgt := 181) C dX6_spread_132 (by decide) (fun c_132 => ?_) (fun c_132 => by omega)
                  refine st_iinc C dX6_spread_181 rfl (by decide) rfl ⟨(by omega), (by omega)⟩ ?_
                  show T x 184 [(0, vR k), (1, vR r), (2, vI l), (3, vI p9), (4, vI r2), (5, vI hd), (6, vI (q1 hd)), (7, vI (d1 + 1)), (8, vI (besid (q1 hd) d1)), (9, vI 0)] [] _ _ _
                  refine st_goto (tgt := 66) C dX6_spread_184 (by decide) ?_
                  refine st_sub [0, 1, 2, 3, 4, 5, 6, 7] rfl ?_
                  exact ih_66 q2 s2 r2 (d1 + 1) h2 (by omega) (by omega) (by first | exact BP_no g1 g3 g5 (fun z9 => by first | exact z9.1 (by assumption) | exact absurd z9.2.1 (by assumption) | exact absurd z9.2.2.1 (by omega) | exact absurd z9.2.2.2 (by assumption)) | exact BP_yes g1 g3 (by omega) g5 (by assumption) (by assumption) (by omega) (by assumption)) (by first | exact hh2 | (rw [hh2]; exact sc_x n3)) (by omega)
                · refine st_iconst C dX6_spread_123 (by decide) ?_
                  refine st_goto (tgt := 128) C dX6_spread_124 (by decide) ?_
                  refine st_istore C dX6_spread_128 (by decide) rfl ?_
                  show T x 130 [(0, vR k), (1, vR r), (2, vI l), (3, vI p9), (4, vI r2), (5, vI hd), (6, vI (q1 hd)), (7, vI d1), (8, vI (besid (q1 hd) d1)), (9, vI 1)] [] _ _ _
                  refine st_iload C dX6_spread_130 rfl ?_
                  refine st_if_eq (tgt := 181) C dX6_spread_132 (by decide) (fun c_132 => by omega) (fun c_132 => ?_)
                  refine st_iload C dX6_spread_135 rfl ?_
                  refine st_bipush C dX6_spread_137 (by decide) (by decide) ?_
                  refine st_icmp_ge (tgt := 181) C dX6_spread_139 (by decide) (fun c_139 => ?_) (fun c_139 => ?_)
                  · refine st_iinc C dX6_spread_181 rfl (by decide) rfl ⟨(by omega), (by omega)⟩ ?_
                    show T x 184 [(0, vR k), (1, vR r), (2, vI l), (3, vI p9), (4, vI r2), (5, vI hd), (6, vI (q1 hd)), (7, vI (d1 + 1)), (8, vI (besid (q1 hd) d1)), (9, vI 1)] [] _ _ _
                    refine st_goto (tgt := 66) C dX6_spread_184 (by decide) ?_
                    refine st_sub [0, 1, 2, 3, 4, 5, 6, 7] rfl ?_
                    exact ih_66 q2 s2 r2 (d1 + 1) h2 (by omega) (by omega) (by first | exact BP_no g1 g3 g5 (fun z9 => by first | exact z9.1 (by assumption) | exact absurd z9.2.1 (by assumption) | exact absurd z9.2.2.1 (by omega) | exact absurd z9.2.2.2 (by assumption)) | exact BP_yes g1 g3 (by omega) g5 (by assumption) (by assumption) (by omega) (by assumption)) (by first | exact hh2 | (rw [hh2]; exact sc_x n3)) (by omega)
                  · refine st_aload_n C 0 dX6_spread_142 rfl rfl ?_
                    refine st_getf C dX6_spread_143 fl_X6_15 (by rw [hh2]; exact sc_o n1 n2 hk) rfl ?_
                    refine st_iload C dX6_spread_146 rfl ?_
                    refine st_iald C dX6_spread_148 (by rw [hh2]; exact sc_S) (by omega) (by omega) ?_
                    refine st_iconst C dX6_spread_149 (by decide) ?_
                    refine st_icmp_ne (tgt := 181) C dX6_spread_150 (by decide) (fun c_150 => ?_) (fun c_150 => ?_)
                    · refine st_iinc C dX6_spread_181 rfl (by decide) rfl ⟨(by omega), (by omega)⟩ ?_
                      show T x 184 [(0, vR k), (1, vR r), (2, vI l), (3, vI p9), (4, vI r2), (5, vI hd), (6, vI (q1 hd)), (7, vI (d1 + 1)), (8, vI (besid (q1 hd) d1)), (9, vI 1)] [] _ _ _
                      refine st_goto (tgt := 66) C dX6_spread_184 (by decide) ?_
                      refine st_sub [0, 1, 2, 3, 4, 5, 6, 7] rfl ?_
                      exact ih_66 q2 s2 r2 (d1 + 1) h2 (by omega) (by omega) (by first | exact BP_no g1 g3 g5 (fun z9 => by first | exact z9.1 (by assumption) | exact absurd z9.2.1 (by assumption) | exact absurd z9.2.2.1 (by omega) | exact absurd z9.2.2.2 (by assumption)) | exact BP_yes g1 g3 (by omega) g5 (by assumption) (by assumption) (by omega) (by assumption)) (by first | exact hh2 | (rw [hh2]; exact sc_x n3)) (by omega)
                    · refine st_aload_n C 0 dX6_spread_153 rfl rfl ?_
                      refine st_getf C dX6_spread_154 fl_X6_15 (by rw [hh2]; exact sc_o n1 n2 hk) rfl ?_
                      refine st_iload C dX6_spread_157 rfl ?_
                      refine st_aload_n C 0 dX6_spread_159 rfl rfl ?_
                      refine st_getf C dX6_spread_160 fl_X6_15 (by rw [hh2]; exact sc_o n1 n2 hk) rfl ?_
                      refine st_iload C dX6_spread_163 rfl ?_
                      refine st_iald C dX6_spread_165 (by rw [hh2]; exact sc_S) (by omega) (by omega) ?_
                      refine st_iconst C dX6_spread_166 (by decide) ?_
                      refine st_iadd C dX6_spread_167 ⟨(by omega), (by omega)⟩ ?_
                      refine st_iast C dX6_spread_168 (by rw [hh2]; exact sc_S) (by omega) (by omega) ?_
                      refine st_aload_n C 0 dX6_spread_169 rfl rfl ?_
                      refine st_getf C dX6_spread_170 fl_X6_9 (hput_o (by omega) (by rw [hh2]; exact sc_o n1 n2 hk)) rfl ?_
                      refine st_iload C dX6_spread_173 rfl ?_
                      refine st_iload C dX6_spread_175 rfl ?_
                      refine st_iast C dX6_spread_177 (hput_o (by omega) (by rw [hh2]; exact sc_Q n3)) (by omega) (by omega) ?_
                      refine st_iinc C dX6_spread_178 rfl (by decide) rfl ⟨(by omega), (by omega)⟩ ?_
                      show T x 181 [(0, vR k), (1, vR r), (2, vI l), (3, vI p9), (4, vI (r2 + 1)), (5, vI hd), (6, vI (q1 hd)), (7, vI d1), (8, vI (besid (q1 hd) d1)), (9, vI 1)] [] _ _ _
                      refine st_iinc C dX6_spread_181 rfl (by decide) rfl ⟨(by omega), (by omega)⟩ ?_
                      show T x 184 [(0, vR k), (1, vR r), (2, vI l), (3, vI p9), (4, vI (r2 + 1)), (5, vI hd), (6, vI (q1 hd)), (7, vI (d1 + 1)), (8, vI (besid (q1 hd) d1)), (9, vI 1)] [] _ _ _
                      refine st_goto (tgt := 66) C dX6_spread_184 (by decide) ?_
                      refine st_sub [0, 1, 2, 3, 4, 5, 6, 7] rfl ?_
                      exact ih_66 (fput q2 r2 (besid (q1 hd) d1)) (fput s2 (besid (q1 hd) d1) (s2 (q1 hd) + 1)) (r2 + 1) (d1 + 1) (hput (hput h2 S (oI 64 (fput s2 (besid (q1 hd) d1) (s2 (q1 hd) + 1)))) Q (oI 64 (fput q2 r2 (besid (q1 hd) d1)))) (by omega) (by omega) (by first | exact BP_no g1 g3 g5 (fun z9 => by first | exact z9.1 (by assumption) | exact absurd z9.2.1 (by assumption) | exact absurd z9.2.2.1 (by omega) | exact absurd z9.2.2.2 (by assumption)) | exact BP_yes g1 g3 (by omega) g5 (by assumption) (by assumption) (by omega) (by assumption)) (by first | exact hh2 | (rw [hh2]; exact sc_x n3)) (by omega)
        exact loop_66 _ q1 s1 r1 0 h1 (by omega) (by omega) (BP_0 g2 (by omega)) (hh) (Nat.lt_succ_self _)
  exact loop_40 _ (fput q0 0 p9) (fput (fmix (fun _ => (-1)) s0 64) p9 0) 1 0 (hput (hput (hput h S (oI 64 (fmix (fun _ => (-1)) s0 64))) Q (oI 64 (fput q0 0 p9))) S (oI 64 (fput (fmix (fun _ => (-1)) s0 64) p9 0))) (by omega) (BI_0 hp (fun p g1 g2 => by rw [fmix_in g1 (by omega)])) (by exact sc_i n3) (Nat.lt_succ_self _)
set_option maxRecDepth 20000 in
set_option maxHeartbeats 4000000 in
theorem k_stepsTo {g : Gx} {h : HP} {k Q S : Nat} {s0 : Int → Int} {p9 : Int} (hk : h k = some (oO 5 [vR Q, vR S])) (hS : h S = some (oI 64 s0)) (hp : 0 ≤ p9 ∧ p9 ≤ 63) : Ct g yX6_stepsTo (.code yX6_stepsTo cX6_stepsTo 2 (some .int)) 1 0 0 [vR k, vI p9] h (Rt (some (vI (s0 p9))) h) := by
  refine Ct.of (by decide) (Nat.le_of_ble_eq_true rfl) (fun x hg C F => ?_)
  subst hg
  show T x 0 [(0, vR k), (1, vI p9)] [] h 0 0
  refine st_iload_n C 1 dX6_stepsTo_0 rfl rfl ?_
  refine st_if_lt (tgt := 19) C dX6_stepsTo_1 (by decide) (fun c_1 => by omega) (fun c_1 => ?_)
  refine st_iload_n C 1 dX6_stepsTo_4 rfl rfl ?_
  refine st_bipush C dX6_stepsTo_5 (by decide) (by decide) ?_
  refine st_icmp_ge (tgt := 19) C dX6_stepsTo_7 (by decide) (fun c_7 => by omega) (fun c_7 => ?_)
  refine st_aload_n C 0 dX6_stepsTo_10 rfl rfl ?_
  refine st_getf C dX6_stepsTo_11 fl_X6_15 hk rfl ?_
  refine st_iload_n C 1 dX6_stepsTo_14 rfl rfl ?_
  refine st_iald C dX6_stepsTo_15 hS (by omega) (by omega) ?_
  refine st_goto (tgt := 20) C dX6_stepsTo_16 (by decide) ?_
  exact st_ireturn C F dX6_stepsTo_20 rfl ⟨rfl, rfl⟩ (by omega) (by omega)
