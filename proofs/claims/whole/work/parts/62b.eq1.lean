/-! what a branch's two pictures have in common -/
theorem BrS.congr {bs ed co no b e t m b' e' t' m' : Int → Int} (h : BrS bs ed co no b e t m) (hb : ∀ s, 0 ≤ s → s ≤ 303 → b' s = b s) (he : ∀ s, 0 ≤ s → s ≤ 303 → e' s = e s) (ht : ∀ s, 0 ≤ s → s ≤ 303 → t' s = t s) (hm : ∀ s, 0 ≤ s → s ≤ 303 → m' s = m s) : BrS bs ed co no b' e' t' m' := fun s s1 s2 => by
  rw [hb s s1 s2, he s s1 s2, ht s s1 s2, hm s s1 s2]; exact h s s1 s2
theorem br_edits {bs ed co no b e t m : Int → Int} (h : BrS bs ed co no b e t m) : cnt (fun j => ed j ≠ -1) 304 = cnt (fun j => 0 ≤ e j) 304 := cnt_congr (fun i i1 i2 => by
  obtain ⟨-, h2, -, h4, -⟩ := h i i1 (by omega)
  rw [h2]; unfold EdV at h4; omega)
theorem br_cf {bs ed co no b e t m mf M : Int → Int} (h : BrS bs ed co no b e t m) (hM : ∀ s, 0 ≤ s → s ≤ 303 → mf s = M s) {s : Int} (s1 : 0 ≤ s) (s2 : s ≤ 303) : Cf ed bs co s (mf s) ↔ (0 ≤ e s ∧ M s ≠ b s ∧ M s ≠ e s ∧ M s ≠ t s) := by
  obtain ⟨h1, h2, h3, h4, -⟩ := h s s1 s2
  rw [h1, h2, h3, hM s s1 s2]
  unfold Cf; unfold EdV at h4
  constructor
  · rintro ⟨q1, q2, q3, q4⟩; exact ⟨by omega, q2, q3, q4⟩
  · rintro ⟨q1, q2, q3, q4⟩; exact ⟨by omega, q2, q3, q4⟩
theorem br_confs {bs ed co no b e t m mf M : Int → Int} (h : BrS bs ed co no b e t m) (hM : ∀ s, 0 ≤ s → s ≤ 303 → mf s = M s) : cnt (fun j => Cf ed bs co j (mf j)) 304 = cnt (fun j9 => (0 ≤ e j9 ∧ M j9 ≠ b j9 ∧ M j9 ≠ e j9 ∧ M j9 ≠ t j9)) 304 := cnt_congr (fun i i1 i2 => br_cf h hM i1 (by omega))
theorem br_seen {bs ed co no b e t m : Int → Int} (h : BrS bs ed co no b e t m) {s : Int} (s1 : 0 ≤ s) (s2 : s ≤ 303) : (if ed s = -1 then bs s else ed s) = if 0 ≤ e s then e s else b s := by
  obtain ⟨h1, h2, h3, h4, -⟩ := h s s1 s2
  rw [h1, h2]; unfold EdV at h4
  by_cases q : ed s = -1
  · rw [if_pos q, if_neg (by omega)]
  · rw [if_neg q, if_pos (by omega)]
/-- an edit of one spot -/
theorem BrS.edit {bs ed co no : Int → Int} {mb me mt mi : Int → Int} {i s9 v9 : Int} (h : BrS bs ed co no (fun s => mb (304 * i + s)) (fun s => me (304 * i + s)) (fun s => mt (304 * i + s)) (fun s => mi (304 * i + s))) (hs : 0 ≤ s9 ∧ s9 ≤ 303) (hv : 0 ≤ v9 ∧ v9 ≤ 9 ∧ (192 ≤ s9 → v9 ≤ 1)) :
    BrS bs (edF ed bs s9 v9) (coF co bs s9 v9) no (fun s => mb (304 * i + s)) (fun s => medF me mb (304 * i + s9) v9 (304 * i + s)) (fun s => mtoF mt mb (304 * i + s9) v9 (304 * i + s)) (fun s => mi (304 * i + s)) := fun s s1 s2 => by
  obtain ⟨h1, h2, h3, h4, h5, h6⟩ := h s s1 s2
  obtain ⟨k1, -⟩ := h s9 hs.1 hs.2
  unfold edF coF medF mtoF
  have h1' : mb (304 * i + s) = bs s := h1
  have h2' : me (304 * i + s) = ed s := h2
  have h3' : mt (304 * i + s) = co s := h3
  have k1' : mb (304 * i + s9) = bs s9 := k1
  by_cases q : s = s9
  · subst q
    simp only [fput_s]
    rw [k1']
    by_cases c : v9 = bs s
    · rw [if_pos c, if_pos (by omega)]
      rw [if_pos c, fput_s]
      exact ⟨by first | rfl | exact h1, rfl, rfl, Or.inl rfl, fun z => absurd rfl z, h6⟩
    · rw [if_neg c, if_neg (by omega), if_neg c]
      exact ⟨by first | rfl | exact h1, rfl, h3', Or.inr hv, fun _ => c, h6⟩
  · have q2 : 304 * i + s ≠ 304 * i + s9 := by omega
    have e1 : ∀ (f : Int → Int) (x : Int), fput f s9 x s = f s := fun f x => fput_o q
    have e2 : ∀ (f : Int → Int) (x : Int), fput f (304 * i + s9) x (304 * i + s) = f (304 * i + s) := fun f x => fput_o q2
    rw [e1]
    refine ⟨h1, (e2 _ _).trans h2', (e2 _ _).trans ?_, h4, h5, h6⟩
    by_cases c : v9 = bs s9
    · rw [if_pos c, e1]; exact h3'
    · rw [if_neg c]; exact h3'
/-- the edit taken away -/
theorem BrS.away {bs ed co no : Int → Int} {mb me mt mi : Int → Int} {i s9 : Int} (h : BrS bs ed co no (fun s => mb (304 * i + s)) (fun s => me (304 * i + s)) (fun s => mt (304 * i + s)) (fun s => mi (304 * i + s))) (hs : 0 ≤ s9 ∧ s9 ≤ 303) :
    BrS bs (fput ed s9 (-1)) (fput co s9 (-1)) no (fun s => mb (304 * i + s)) (fun s => medF me mb (304 * i + s9) (mb (304 * i + s9)) (304 * i + s)) (fun s => mtoF mt mb (304 * i + s9) (mb (304 * i + s9)) (304 * i + s)) (fun s => mi (304 * i + s)) := fun s s1 s2 => by
  obtain ⟨h1, h2, h3, h4, h5, h6⟩ := h s s1 s2
  unfold medF mtoF
  by_cases q : s = s9
  · subst q
    simp only [fput_s, if_true]
    exact ⟨h1, by first | rfl | trivial, by first | (rw [if_pos (by omega)]) | trivial | rfl | simp, Or.inl rfl, fun z => absurd rfl z, h6⟩
  · have q2 : 304 * i + s ≠ 304 * i + s9 := by omega
    have e1 : ∀ (f : Int → Int) (x : Int), fput f s9 x s = f s := fun f x => fput_o q
    have e2 : ∀ (f : Int → Int) (x : Int), fput f (304 * i + s9) x (304 * i + s) = f (304 * i + s) := fun f x => fput_o q2
    rw [e1, e1]
    show _ ∧ fput _ _ _ _ = _ ∧ fput _ _ _ _ = _ ∧ _
    rw [e2, e2]
    exact ⟨h1, h2, h3, h4, h5, h6⟩
/-- told of one spot -/
theorem BrS.told {bs ed co no : Int → Int} {mb me mt mi : Int → Int} {i s9 v : Int} (h : BrS bs ed co no (fun s => mb (304 * i + s)) (fun s => me (304 * i + s)) (fun s => mt (304 * i + s)) (fun s => mi (304 * i + s))) :
    BrS bs ed (fput co s9 v) no (fun s => mb (304 * i + s)) (fun s => me (304 * i + s)) (fun s => fput mt (304 * i + s9) v (304 * i + s)) (fun s => mi (304 * i + s)) := fun s s1 s2 => by
  obtain ⟨h1, h2, h3, h4, h5, h6⟩ := h s s1 s2
  refine ⟨h1, h2, ?_, h4, h5, h6⟩
  show fput mt (304 * i + s9) v (304 * i + s) = fput co s9 v s
  by_cases q : s = s9
  · subst q; rw [fput_s, fput_s]
  · rw [fput_o (by omega), fput_o q]; exact h3
/-- one branch's rows changed, in both pictures -/
theorem BrR.one {op : Int → Int} {bs ed co no : Int → Int → Int} {mop mb me mt mi mop' mb' me' mt' mi' : Int → Int} {i o : Int} {b e c n : Int → Int} (h : BrR op bs ed co no mop mb me mt mi) (hi : 0 ≤ i ∧ i ≤ 3) (ho : o = 0 ∨ o = 1) (h1 : mop' i = o) (h2 : o = 1 → BrS b e c n (fun s => mb' (304 * i + s)) (fun s => me' (304 * i + s)) (fun s => mt' (304 * i + s)) (fun s => mi' (304 * i + s)))
    (h3 : ∀ j, 0 ≤ j → j ≤ 3 → j ≠ i → mop' j = mop j ∧ ∀ s, 0 ≤ s → s ≤ 303 → mb' (304 * j + s) = mb (304 * j + s) ∧ me' (304 * j + s) = me (304 * j + s) ∧ mt' (304 * j + s) = mt (304 * j + s) ∧ mi' (304 * j + s) = mi (304 * j + s)) :
    BrR (fput op i o) (fput bs i b) (fput ed i e) (fput co i c) (fput no i n) mop' mb' me' mt' mi' := fun j j1 j2 => by
  by_cases q : j = i
  · subst q
    rw [fput_s, fput_s, fput_s, fput_s, fput_s]
    exact ⟨ho, h1, h2⟩
  · rw [fput_o q, fput_o q, fput_o q, fput_o q, fput_o q]
    obtain ⟨g1, g2, g3⟩ := h j j1 j2
    obtain ⟨k1, k2⟩ := h3 j j1 j2 q
    exact ⟨g1, k1.trans g2, fun z => (g3 z).congr (fun s s1 s2 => (k2 s s1 s2).1) (fun s s1 s2 => (k2 s s1 s2).2.1) (fun s s1 s2 => (k2 s s1 s2).2.2.1) (fun s s1 s2 => (k2 s s1 s2).2.2.2)⟩
theorem fput_id {α : Type} {f : Int → α} {i : Int} : fput f i (f i) = f := by
  funext j; unfold fput; split
  · rename_i e; rw [e]
  · rfl
theorem brN_ne {i j : Int} (hi : 0 ≤ i ∧ i ≤ 3) (hj : 0 ≤ j ∧ j ≤ 3) (q : j ≠ i) : brN i + 4 < brN j ∨ brN j + 4 < brN i := by unfold brN; omega
theorem cB.at_op {h : HP} {op : Int → Int} {bs ed co no : Int → Int → Int} {i o : Int} (c : cB h op bs ed co no) (hi : 0 ≤ i ∧ i ≤ 3) (ho : o = 0 ∨ o = 1) : cB (hput h (brN i) (oO 0 [vI o, vR (brN i + 1), vR (brN i + 2), vR (brN i + 3), vR (brN i + 4)])) (fput op i o) bs ed co no := by
  obtain ⟨f, h4, hall⟩ := c
  have hb := brN_in hi
  refine ⟨f, hput_o (by omega) h4, fun j j1 j2 => ⟨(hall j j1 j2).1, ?_⟩⟩
  by_cases q : j = i
  · subst q
    obtain ⟨-, g1, g2, g3, g4, g5, g6⟩ := hall j j1 j2
    exact ⟨by rw [fput_s]; exact hput_s, hput_o (by omega) g2, hput_o (by omega) g3, hput_o (by omega) g4, hput_o (by omega) g5, by rw [fput_s]; exact ho⟩
  · have := brN_ne hi ⟨j1, j2⟩ q
    have k := (hall j j1 j2).2.put (e := oO 0 [vI o, vR (brN i + 1), vR (brN i + 2), vR (brN i + 3), vR (brN i + 4)]) (k := brN i) (by omega)
    unfold cB1 at k ⊢
    rw [fput_o q]; exact k
theorem cB.at_1 {h : HP} {op : Int → Int} {bs ed co no : Int → Int → Int} {i : Int} {x : Int → Int} (c : cB h op bs ed co no) (hi : 0 ≤ i ∧ i ≤ 3) : cB (hput h (brN i + 1) (oI 304 x)) op (fput bs i x) ed co no := by
  obtain ⟨f, h4, hall⟩ := c
  have hb := brN_in hi
  refine ⟨f, hput_o (by omega) h4, fun j j1 j2 => ⟨(hall j j1 j2).1, ?_⟩⟩
  by_cases q : j = i
  · subst q
    obtain ⟨-, g1, g2, g3, g4, g5, g6⟩ := hall j j1 j2
    exact ⟨hput_o (by omega) g1, by rw [fput_s]; exact hput_s, hput_o (by omega) g3, hput_o (by omega) g4, hput_o (by omega) g5, g6⟩
  · have := brN_ne hi ⟨j1, j2⟩ q
    have k := (hall j j1 j2).2.put (e := oI 304 x) (k := brN i + 1) (by omega)
    unfold cB1 at k ⊢
    rw [fput_o q]; exact k
theorem cB.at_2 {h : HP} {op : Int → Int} {bs ed co no : Int → Int → Int} {i : Int} {x : Int → Int} (c : cB h op bs ed co no) (hi : 0 ≤ i ∧ i ≤ 3) : cB (hput h (brN i + 2) (oI 304 x)) op bs (fput ed i x) co no := by
  obtain ⟨f, h4, hall⟩ := c
  have hb := brN_in hi
  refine ⟨f, hput_o (by omega) h4, fun j j1 j2 => ⟨(hall j j1 j2).1, ?_⟩⟩
  by_cases q : j = i
  · subst q
    obtain ⟨-, g1, g2, g3, g4, g5, g6⟩ := hall j j1 j2
    exact ⟨hput_o (by omega) g1, hput_o (by omega) g2, by rw [fput_s]; exact hput_s, hput_o (by omega) g4, hput_o (by omega) g5, g6⟩
  · have := brN_ne hi ⟨j1, j2⟩ q
    have k := (hall j j1 j2).2.put (e := oI 304 x) (k := brN i + 2) (by omega)
    unfold cB1 at k ⊢
    rw [fput_o q]; exact k
theorem cB.at_3 {h : HP} {op : Int → Int} {bs ed co no : Int → Int → Int} {i : Int} {x : Int → Int} (c : cB h op bs ed co no) (hi : 0 ≤ i ∧ i ≤ 3) : cB (hput h (brN i + 3) (oI 304 x)) op bs ed (fput co i x) no := by
  obtain ⟨f, h4, hall⟩ := c
  have hb := brN_in hi
  refine ⟨f, hput_o (by omega) h4, fun j j1 j2 => ⟨(hall j j1 j2).1, ?_⟩⟩
  by_cases q : j = i
  · subst q
    obtain ⟨-, g1, g2, g3, g4, g5, g6⟩ := hall j j1 j2
    exact ⟨hput_o (by omega) g1, hput_o (by omega) g2, hput_o (by omega) g3, by rw [fput_s]; exact hput_s, hput_o (by omega) g5, g6⟩
  · have := brN_ne hi ⟨j1, j2⟩ q
    have k := (hall j j1 j2).2.put (e := oI 304 x) (k := brN i + 3) (by omega)
    unfold cB1 at k ⊢
    rw [fput_o q]; exact k
theorem cB.at_4 {h : HP} {op : Int → Int} {bs ed co no : Int → Int → Int} {i : Int} {x : Int → Int} (c : cB h op bs ed co no) (hi : 0 ≤ i ∧ i ≤ 3) : cB (hput h (brN i + 4) (oI 304 x)) op bs ed co (fput no i x) := by
  obtain ⟨f, h4, hall⟩ := c
  have hb := brN_in hi
  refine ⟨f, hput_o (by omega) h4, fun j j1 j2 => ⟨(hall j j1 j2).1, ?_⟩⟩
  by_cases q : j = i
  · subst q
    obtain ⟨-, g1, g2, g3, g4, g5, g6⟩ := hall j j1 j2
    exact ⟨hput_o (by omega) g1, hput_o (by omega) g2, hput_o (by omega) g3, hput_o (by omega) g4, by rw [fput_s]; exact hput_s, g6⟩
  · have := brN_ne hi ⟨j1, j2⟩ q
    have k := (hall j j1 j2).2.put (e := oI 304 x) (k := brN i + 4) (by omega)
    unfold cB1 at k ⊢
    rw [fput_o q]; exact k
/-! the maps by versions -/
theorem vA_eq {sv : Int → Int → Int} {mm : Int → Int} {nw : Int} (h : SvR sv mm nw) (hv : VMx mm nw) {s : Int} (s1 : 0 ≤ s) (s2 : s ≤ 303) : ∀ n : Nat, (n : Int) ≤ nw → vA sv s n = mm (304 * (n : Int) + s) := by
  intro n
  induction n with
  | zero => intro _; rw [show ((0 : Nat) : Int) = 0 from rfl, vA_0, show 304 * (0 : Int) + s = s by omega]; exact (hv.2 s s1 s2).symm
  | succ n ih =>
    intro hn
    have ih := ih (by omega)
    rw [vA_s (by omega), show ((n + 1 : Nat) : Int) - 1 = (n : Int) by omega, ih]
    have h1 := h ((n + 1 : Nat) : Int) s (by omega) hn s1 s2
    rw [show ((n + 1 : Nat) : Int) - 1 = (n : Int) by omega] at h1
    have hr := hv.1 ((n + 1 : Nat) : Int) (by omega) hn
    have hge : 0 ≤ mm (304 * ((n + 1 : Nat) : Int) + s) := by
      by_cases q : s ≤ 191
      · exact (hr.1 s s1 q).1
      · exact (hr.2 s (by omega) s2).1
    by_cases q : mm (304 * (n : Int) + s) = mm (304 * ((n + 1 : Nat) : Int) + s)
    · rw [if_pos q] at h1; rw [if_pos h1, q]
    · rw [if_neg q] at h1; rw [if_neg (by omega), h1]
theorem vA_at {sv : Int → Int → Int} {mm : Int → Int} {nw : Int} (h : SvR sv mm nw) (hv : VMx mm nw) {s v : Int} (s1 : 0 ≤ s) (s2 : s ≤ 303) (v1 : 0 ≤ v) (v2 : v ≤ nw) : vA sv s v = mm (304 * v + s) := by
  have := vA_eq h hv s1 s2 v.toNat (by omega)
  rwa [Int.toNat_of_nonneg v1] at this
theorem mm_ge {mm : Int → Int} {nw s v : Int} (hv : VMx mm nw) (s1 : 0 ≤ s) (s2 : s ≤ 303) (v1 : 0 ≤ v) (v2 : v ≤ nw) : 0 ≤ mm (304 * v + s) := by
  have hr := hv.1 v v1 v2
  by_cases q : s ≤ 191
  · exact (hr.1 s s1 q).1
  · exact (hr.2 s (by omega) s2).1
theorem sv_ch {sv : Int → Int → Int} {mm : Int → Int} {nw : Int} (h : SvR sv mm nw) (hv : VMx mm nw) {s : Int} (s1 : 0 ≤ s) (s2 : s ≤ 303) {j : Int} (j1 : 0 ≤ j) (j2 : j < nw) : sv (j + 1) s ≠ -1 ↔ mm (304 * (j + 1) + s) ≠ mm (304 * (j + 1 - 1) + s) := by
  have h1 := h (j + 1) s (by omega) (by omega) s1 s2
  have h2 := mm_ge hv s1 s2 (v := j + 1) (by omega) (by omega)
  by_cases q : mm (304 * (j + 1 - 1) + s) = mm (304 * (j + 1) + s)
  · rw [if_pos q] at h1; constructor
    · intro z; exact absurd h1 z
    · intro z; exact absurd q.symm z
  · rw [if_neg q] at h1; constructor
    · intro _ z; exact q z.symm
    · intro _; omega
/-! the number with k others below it -/
theorem nth_some {P : Int → Prop} : ∀ n : Nat, ∀ k : Int, 0 ≤ k → k < cntN P n → ∃ j : Int, 0 ≤ j ∧ j < n ∧ P j ∧ cnt P j = k := by
  intro n
  induction n with
  | zero => intro k h1 h2; have : cntN P 0 = 0 := rfl; omega
  | succ n ih =>
    intro k h1 h2
    by_cases q : k < cntN P n
    · obtain ⟨j, j1, j2, j3⟩ := ih k h1 q
      exact ⟨j, j1, by omega, j3⟩
    · by_cases hp : P (n : Int)
      · refine ⟨n, by omega, by omega, hp, ?_⟩
        unfold cntN at h2
        rw [if_pos hp] at h2
        show cntN P (n : Int).toNat = k
        rw [Int.toNat_natCast]; omega
      · unfold cntN at h2
        rw [if_neg hp] at h2
        exact absurd h2 (by omega)
theorem nth_in {P : Int → Prop} {n k r : Int} (hn : 0 ≤ n) (h : IsNth P n k r) : r ≠ -1 ↔ 0 ≤ k ∧ k ≤ cnt P n - 1 := by
  rcases h with ⟨g1, g2, g3, g4⟩ | ⟨g1, g2⟩
  · refine ⟨fun _ => ?_, fun _ => by omega⟩
    have h1 := cnt_in P g1
    have h2 := cnt_t (c := cnt P r) g1 g3 rfl
    have h3 := cnt_mono (P := P) (i := r + 1) (j := n) (by omega) (by omega)
    omega
  · refine ⟨fun z => absurd g1 z, fun ⟨k1, k2⟩ => ?_⟩
    obtain ⟨j, j1, j2, j3, j4⟩ := nth_some (P := P) n.toNat k k1 (by have : cntN P n.toNat = cnt P n := rfl; omega)
    exact absurd j4 (g2 j j1 (by omega) j3)
theorem nth_congr {P Q : Int → Prop} {n k r : Int} (h : ∀ i, 0 ≤ i → i < n → (P i ↔ Q i)) (hr : IsNth P n k r) : IsNth Q n k r := by
  rcases hr with ⟨g1, g2, g3, g4⟩ | ⟨g1, g2⟩
  · exact Or.inl ⟨g1, g2, (h r g1 g2).mp g3, by rw [← g4]; exact (cnt_congr (fun i i1 i2 => h i i1 (by omega))).symm⟩
  · refine Or.inr ⟨g1, fun j j1 j2 j3 z => ?_⟩
    refine g2 j j1 j2 ((h j j1 j2).mpr j3) ?_
    rw [← z]; exact cnt_congr (fun i i1 i2 => h i i1 (by omega))
theorem isn_ex (P : Int → Prop) (i : Int) (hi : 0 ≤ i) : ∃ r, IsNext P i r := by
  obtain ⟨r, hr⟩ := first_ex (fun j => P (i + j)) 64 (by omega)
  rcases hr with ⟨g1, g2, g3, g4⟩ | ⟨g1, g2⟩
  · by_cases q : i + r < 64
    · refine ⟨i + r, Or.inl ⟨by omega, q, g3, fun j j1 j2 => ?_⟩⟩
      have this : ¬ P (i + (j - i)) := g4 (j - i) (by omega) (by omega)
      rwa [show i + (j - i) = j by omega] at this
    · refine ⟨-1, Or.inr ⟨rfl, fun j j1 j2 => ?_⟩⟩
      have this : ¬ P (i + (j - i)) := g4 (j - i) (by omega) (by omega)
      rwa [show i + (j - i) = j by omega] at this
  · refine ⟨-1, Or.inr ⟨rfl, fun j j1 j2 => ?_⟩⟩
    have this : ¬ P (i + (j - i)) := g2 (j - i) (by omega) (by omega)
    rwa [show i + (j - i) = j by omega] at this
theorem isn_congr {P Q : Int → Prop} {i r : Int} (h : ∀ j, i ≤ j → j < 64 → (P j ↔ Q j)) (hr : IsNext P i r) : IsNext Q i r := by
  rcases hr with ⟨g1, g2, g3, g4⟩ | ⟨g1, g2⟩
  · exact Or.inl ⟨g1, g2, (h r g1 g2).mp g3, fun j j1 j2 z => g4 j j1 j2 ((h j j1 (by omega)).mpr z)⟩
  · exact Or.inr ⟨g1, fun j j1 j2 z => g2 j j1 j2 ((h j j1 j2).mpr z)⟩
