/-! the notes of both: lists -/
theorem toL_len {t s a : Int → Int} : ∀ n : Nat, (toL t s a n).length = n := by
  intro n
  induction n with
  | zero => rfl
  | succ n ih => show (toL t s a n ++ [_]).length = n + 1; rw [List.length_append, ih]; rfl
theorem toL_congr {t s a t' s' a' : Int → Int} : ∀ n : Nat, (∀ k : Int, 0 ≤ k → k < n → t k = t' k ∧ s k = s' k ∧ a k = a' k) → toL t s a n = toL t' s' a' n := by
  intro n
  induction n with
  | zero => intro _; rfl
  | succ n ih =>
    intro h
    show toL t s a n ++ [(t n, s n, a n)] = toL t' s' a' n ++ [(t' n, s' n, a' n)]
    rw [ih (fun k k1 k2 => h k k1 (by omega)), (h n (by omega) (by omega)).1, (h n (by omega) (by omega)).2.1, (h n (by omega) (by omega)).2.2]
theorem toL_mem {t s a : Int → Int} {x : Int × Int × Int} : ∀ n : Nat, x ∈ toL t s a n → ∃ k : Int, 0 ≤ k ∧ k < n ∧ x = (t k, s k, a k) := by
  intro n
  induction n with
  | zero => intro h; exact absurd h List.not_mem_nil
  | succ n ih =>
    intro h
    rcases List.mem_append.mp h with h | h
    · obtain ⟨k, k1, k2, k3⟩ := ih h; exact ⟨k, k1, by omega, k3⟩
    · exact ⟨n, by omega, by omega, List.mem_singleton.mp h⟩
theorem toL_at {t s a : Int → Int} {k : Int} : ∀ n : Nat, 0 ≤ k → k < n → (t k, s k, a k) ∈ toL t s a n := by
  intro n
  induction n with
  | zero => intro h1 h2; omega
  | succ n ih =>
    intro h1 h2
    by_cases q : k = n
    · subst q; exact List.mem_append_right _ List.mem_cons_self
    · exact List.mem_append_left _ (ih h1 (by omega))
theorem srt_nil : ∀ n : Nat, srt [] n = [] := by
  intro n
  induction n with
  | zero => rfl
  | succ n ih => show srt [] n ++ [] = []; rw [ih]; rfl
theorem srt_lt {N : List (Int × Int × Int)} {x : Int × Int × Int} : ∀ n : Nat, x ∈ srt N n → x ∈ N ∧ x.1 < n := by
  intro n
  induction n with
  | zero => intro h; exact absurd h List.not_mem_nil
  | succ n ih =>
    intro h
    rcases List.mem_append.mp h with h | h
    · obtain ⟨h1, h2⟩ := ih h; exact ⟨h1, by omega⟩
    · obtain ⟨h1, h2⟩ := List.mem_filter.mp h
      have h3 : x.1 = (n : Int) := by simpa using h2
      exact ⟨h1, by omega⟩
theorem srt_lo {N : List (Int × Int × Int)} {x : Int × Int × Int} : ∀ n : Nat, (n : Int) ≤ x.1 → srt (N ++ [x]) n = srt N n := by
  intro n
  induction n with
  | zero => intro _; rfl
  | succ n ih =>
    intro h
    show srt (N ++ [x]) n ++ (N ++ [x]).filter _ = srt N n ++ N.filter _
    rw [ih (by omega), List.filter_append]
    have e : [x].filter (fun q => q.1 == (n : Int)) = [] := by
      rw [List.filter_cons_of_neg]
      · rfl
      · simp; omega
    rw [e, List.append_nil]
theorem srt_eq {N : List (Int × Int × Int)} {x : Int × Int × Int} {n : Nat} (h : x.1 = n) : srt (N ++ [x]) (n + 1) = srt N (n + 1) ++ [x] := by
  show srt (N ++ [x]) n ++ (N ++ [x]).filter _ = (srt N n ++ N.filter _) ++ [x]
  rw [srt_lo n (by omega), List.filter_append, List.append_assoc]
  have e : [x].filter (fun q => q.1 == (n : Int)) = [x] := by
    rw [List.filter_cons_of_pos]
    · rfl
    · simp [h]
  rw [e]
theorem srt_hi {N : List (Int × Int × Int)} {x : Int × Int × Int} {a : Nat} (h : x.1 < a) : ∀ b : Nat, ∃ R, srt N (a + b) = srt N a ++ R ∧ srt (N ++ [x]) (a + b) = srt (N ++ [x]) a ++ R ∧ ∀ q ∈ R, (a : Int) ≤ q.1 := by
  intro b
  induction b with
  | zero => exact ⟨[], (List.append_nil _).symm, (List.append_nil _).symm, fun q hq => absurd hq List.not_mem_nil⟩
  | succ b ih =>
    obtain ⟨R, h1, h2, h3⟩ := ih
    refine ⟨R ++ N.filter (fun q => q.1 == ((a + b : Nat) : Int)), ?_, ?_, fun q hq => ?_⟩
    · show srt N (a + b) ++ N.filter (fun q => q.1 == ((a + b : Nat) : Int)) = _
      rw [h1, List.append_assoc]
    · show srt (N ++ [x]) (a + b) ++ (N ++ [x]).filter (fun q => q.1 == ((a + b : Nat) : Int)) = _
      have e : [x].filter (fun q => q.1 == ((a + b : Nat) : Int)) = [] := by
        rw [List.filter_cons_of_neg]
        · rfl
        · simp; omega
      rw [h2, List.filter_append, e, List.append_nil, List.append_assoc]
    · rcases List.mem_append.mp hq with hq | hq
      · exact h3 q hq
      · obtain ⟨-, h4⟩ := List.mem_filter.mp hq
        have h5 : q.1 = ((a + b : Nat) : Int) := by simpa using h4
        omega
theorem insP_at {tf : Int → Int} {t : Int} {m : Nat} (hm : m = 0 ∨ tf ((m : Int) - 1) ≤ t) : ∀ n : Nat, m ≤ n → (∀ k : Int, m ≤ k → k < n → t < tf k) → insP tf t n = m := by
  intro n
  induction n with
  | zero => intro h1 _; have : m = 0 := by omega
            subst this; rfl
  | succ n ih =>
    intro h1 h2
    by_cases q : m = n + 1
    · subst q
      have h3 := hm.resolve_left (by omega)
      rw [show ((n + 1 : Nat) : Int) - 1 = (n : Int) by omega] at h3
      unfold insP
      rw [if_neg (by omega)]; omega
    · unfold insP
      rw [if_pos (h2 n (by omega) (by omega))]
      exact ih (by omega) (fun k k1 k2 => h2 k k1 (by omega))
theorem insF_lo {f : Int → Int} {m c v k : Int} (h : k < m) : insF f m c v k = f k := by unfold insF shf; rw [fput_o (by omega), if_neg (by omega)]
theorem insF_at {f : Int → Int} {m c v : Int} : insF f m c v m = v := fput_s
theorem insF_hi {f : Int → Int} {m c v k : Int} (h : m < k) (h2 : k ≤ c) : insF f m c v k = f (k - 1) := by unfold insF shf; rw [fput_o (by omega), if_pos ⟨h, h2⟩]
theorem toL_ins {t s a : Int → Int} {m c vt vs va : Int} {x : Int × Int × Int} (hx : x = (vt, vs, va)) (hm : 0 ≤ m) : ∀ j : Nat, m + j ≤ c → ∃ R, toL t s a (m + j).toNat = toL t s a m.toNat ++ R ∧ toL (insF t m c vt) (insF s m c vs) (insF a m c va) (m + 1 + j).toNat = toL t s a m.toNat ++ [x] ++ R := by
  intro j
  induction j with
  | zero =>
    intro _
    refine ⟨[], by rw [List.append_nil]; congr 1; omega, ?_⟩
    rw [List.append_nil, show (m + 1 + ((0 : Nat) : Int)).toNat = m.toNat + 1 by omega]
    show toL _ _ _ m.toNat ++ [_] = _
    rw [toL_congr (t' := t) (s' := s) (a' := a) m.toNat (fun k k1 k2 => ⟨insF_lo (by omega), insF_lo (by omega), insF_lo (by omega)⟩), Int.toNat_of_nonneg hm, insF_at, insF_at, insF_at, hx]
  | succ j ih =>
    intro h
    obtain ⟨R, h1, h2⟩ := ih (by omega)
    refine ⟨R ++ [(t (m + j), s (m + j), a (m + j))], ?_, ?_⟩
    · rw [show (m + ((j + 1 : Nat) : Int)).toNat = (m + j).toNat + 1 by omega]
      show toL t s a (m + j).toNat ++ [_] = _
      rw [h1, Int.toNat_of_nonneg (by omega), List.append_assoc]
    · rw [show (m + 1 + ((j + 1 : Nat) : Int)).toNat = (m + 1 + j).toNat + 1 by omega]
      show toL _ _ _ (m + 1 + j).toNat ++ [_] = _
      rw [h2, Int.toNat_of_nonneg (by omega), insF_hi (by omega) (by omega), insF_hi (by omega) (by omega), insF_hi (by omega) (by omega), show m + 1 + (j : Int) - 1 = m + j by omega]
      simp only [List.append_assoc]
/-- a note more, in both -/
theorem NtR.add {tf sf af mn mn' : Int → Int} {d c t s a : Int} (h : NtR tf sf af mn d c) (hc : 0 ≤ c ∧ c ≤ 19) (ht : 0 ≤ t ∧ t ≤ 9999) (hs : 0 ≤ s ∧ s ≤ 191) (ha : 0 ≤ a ∧ a ≤ 9) (h0 : ∀ j, 0 ≤ j → j < c → mn' (60 * d + (3 * j)) = mn (60 * d + (3 * j)) ∧ mn' (60 * d + (3 * j) + 1) = mn (60 * d + (3 * j) + 1) ∧ mn' (60 * d + (3 * j) + 2) = mn (60 * d + (3 * j) + 2))
    (h1 : mn' (60 * d + (3 * c)) = t ∧ mn' (60 * d + (3 * c) + 1) = s ∧ mn' (60 * d + (3 * c) + 2) = a) : NtR (insF tf (insP tf t c.toNat) c t) (insF sf (insP tf t c.toNat) c s) (insF af (insP tf t c.toNat) c a) mn' d (c + 1) := by
  obtain ⟨e, hr, hr2⟩ := h
  have eN : toL (ntT mn' d) (ntS mn' d) (ntA mn' d) (c + 1).toNat = toL (ntT mn d) (ntS mn d) (ntA mn d) c.toNat ++ [(t, s, a)] := by
    rw [show (c + 1).toNat = c.toNat + 1 by omega]
    show toL _ _ _ c.toNat ++ [_] = _
    rw [toL_congr (t := ntT mn' d) (s := ntS mn' d) (a := ntA mn' d) (t' := ntT mn d) (s' := ntS mn d) (a' := ntA mn d) c.toNat (fun k k1 k2 => h0 k k1 (by omega))]
    rw [Int.toNat_of_nonneg hc.1]
    show _ ++ [(mn' (60 * d + (3 * c)), mn' (60 * d + (3 * c) + 1), mn' (60 * d + (3 * c) + 2))] = _
    rw [h1.1, h1.2.1, h1.2.2]
  obtain ⟨R, r1, r2, r3⟩ := srt_hi (N := toL (ntT mn d) (ntS mn d) (ntA mn d) c.toNat) (x := (t, s, a)) (a := t.toNat + 1) (by show t < _; omega) (9999 - t.toNat)
  rw [show t.toNat + 1 + (9999 - t.toNat) = 10000 by omega] at r1 r2
  rw [srt_eq (x := (t, s, a)) (n := t.toNat) (by show t = _; omega)] at r2
  have lo : ∀ q ∈ srt (toL (ntT mn d) (ntS mn d) (ntA mn d) c.toNat) (t.toNat + 1), q.1 ≤ t := fun q hq => by have := (srt_lt _ hq).2; omega
  generalize srt (toL (ntT mn d) (ntS mn d) (ntA mn d) c.toNat) (t.toNat + 1) = L1 at r1 r2 lo
  rw [r1] at e
  have hlen := congrArg List.length e
  rw [toL_len, List.length_append] at hlen
  have key := toL_ins (t := tf) (s := sf) (a := af) (m := (L1.length : Int)) (c := c) (vt := t) (vs := s) (va := a) rfl (by omega) (c.toNat - L1.length) (by omega)
  obtain ⟨R', k1, k2⟩ := key
  rw [show ((L1.length : Int) + ((c.toNat - L1.length : Nat) : Int)).toNat = c.toNat by omega, e] at k1
  rw [show ((L1.length : Int) + 1 + ((c.toNat - L1.length : Nat) : Int)).toNat = (c + 1).toNat by omega] at k2
  have hl2 : L1.length = (toL tf sf af (L1.length : Int).toNat).length := by rw [toL_len, Int.toNat_natCast]
  obtain ⟨z1, z2⟩ := List.append_inj k1 hl2
  rw [← z1, ← z2] at k2
  have hP : insP tf t c.toNat = (L1.length : Int) := by
    refine insP_at ?_ c.toNat (by omega) (fun k q1 q2 => ?_)
    · by_cases q : L1.length = 0
      · exact Or.inl q
      · refine Or.inr ?_
        have hm := toL_at (t := tf) (s := sf) (a := af) (k := (L1.length : Int) - 1) (L1.length : Int).toNat (by omega) (by omega)
        rw [← z1] at hm
        exact lo _ hm
    · have hj := toL_ins (t := tf) (s := sf) (a := af) (m := (L1.length : Int)) (c := c) (vt := t) (vs := s) (va := a) rfl (by omega) (c.toNat - L1.length) (by omega)
      have hidx : (toL tf sf af c.toNat)[k.toNat]? = some (tf k, sf k, af k) := by
        have gen : ∀ n : Nat, k < n → (toL tf sf af n)[k.toNat]? = some (tf k, sf k, af k) := by
          intro n
          induction n with
          | zero => intro h; omega
          | succ n ih =>
            intro h
            show (toL tf sf af n ++ [_])[k.toNat]? = _
            by_cases q : k = n
            · rw [List.getElem?_append_right (by rw [toL_len]; omega), toL_len, show k.toNat - n = 0 by omega, q]; rfl
            · rw [List.getElem?_append_left (by rw [toL_len]; omega)]; exact ih (by omega)
        exact gen c.toNat (by omega)
      rw [e, List.getElem?_append_right (by omega)] at hidx
      have hmem := List.mem_of_getElem? hidx
      have := r3 _ hmem
      have h9 : ((t.toNat + 1 : Nat) : Int) ≤ tf k := this
      omega
  refine ⟨?_, fun j j1 j2 => ?_, fun j j1 j2 => ?_⟩
  · rw [eN, r2, hP, k2]
  · by_cases q : j = c
    · subst q
      show (0 ≤ mn' _ ∧ mn' _ ≤ 9999) ∧ (0 ≤ mn' _ ∧ mn' _ ≤ 191) ∧ 0 ≤ mn' _ ∧ mn' _ ≤ 9
      rw [h1.1, h1.2.1, h1.2.2]; exact ⟨ht, hs, ha⟩
    · have h2 := h0 j j1 (by omega)
      show (0 ≤ mn' _ ∧ mn' _ ≤ 9999) ∧ (0 ≤ mn' _ ∧ mn' _ ≤ 191) ∧ 0 ≤ mn' _ ∧ mn' _ ≤ 9
      rw [h2.1, h2.2.1, h2.2.2]; exact hr j j1 (by omega)
  · rw [hP]
    by_cases q : j = (L1.length : Int)
    · rw [q, insF_at, insF_at, insF_at]; exact ⟨ht, hs, ha⟩
    · by_cases q2 : j < (L1.length : Int)
      · rw [insF_lo q2, insF_lo q2, insF_lo q2]; exact hr2 j j1 (by omega)
      · rw [insF_hi (by omega) (by omega), insF_hi (by omega) (by omega), insF_hi (by omega) (by omega)]; exact hr2 (j - 1) (by omega) (by omega)
/-! bringing home: both fold over the sorted list -/
def stC (bs : Int → Int) (ld : Int) (q : (Int → Int) × (Int → Int) × (Int → Int) × Int) (x : Int × Int × Int) : (Int → Int) × (Int → Int) × (Int → Int) × Int := if q.2.2.1 x.2.1 ≤ x.1 - ld then (edF q.1 bs x.2.1 x.2.2, coF q.2.1 bs x.2.1 x.2.2, fput q.2.2.1 x.2.1 (x.1 - ld), q.2.2.2 + 1) else q
def stM (mb : Int → Int) (b ld : Int) (q : MS) (x : Int × Int × Int) : MS := if q.2.2.1 (304 * b + x.2.1) ≤ x.1 - ld then (medF q.1 mb (304 * b + x.2.1) x.2.2, mtoF q.2.1 mb (304 * b + x.2.1) x.2.2, fput q.2.2.1 (304 * b + x.2.1) (x.1 - ld), q.2.2.2 + 1) else q
theorem brS_fold {tf sf af bs ed co no : Int → Int} {ld : Int} : ∀ n : Nat, brS tf sf af bs ed co no ld n = (toL tf sf af n).foldl (stC bs ld) (ed, co, no, 0) := by
  intro n
  induction n with
  | zero => rfl
  | succ n ih =>
    show _ = (toL tf sf af n ++ [_]).foldl _ _
    rw [List.foldl_append, ← ih]
    rfl
theorem mfl_fold {mb mn : Int → Int} {b ld d B : Int} {q : MS} : ∀ n : Nat, mfl mb mn b ld d B n q = ((toL (ntT mn d) (ntS mn d) (ntA mn d) n).filter (fun x => x.1 == B)).foldl (stM mb b ld) q := by
  intro n
  induction n with
  | zero => rfl
  | succ n ih =>
    show (if mn (60 * d + (3 * (n : Int))) = B then mst mb mn b ld (60 * d + (3 * (n : Int))) (mfl mb mn b ld d B n q) else mfl mb mn b ld d B n q) = ((toL (ntT mn d) (ntS mn d) (ntA mn d) n ++ [_]).filter _).foldl _ _
    rw [List.filter_append, List.foldl_append, ← ih]
    by_cases e : mn (60 * d + (3 * (n : Int))) = B
    · rw [if_pos e, List.filter_cons_of_pos (by simpa [ntT] using e)]; rfl
    · rw [if_neg e, List.filter_cons_of_neg (by simpa [ntT] using e)]; rfl
theorem mfo_fold {mb mn : Int → Int} {b ld d : Int} {c : Nat} {q : MS} : ∀ n : Nat, mfo mb mn b ld d c n q = (srt (toL (ntT mn d) (ntS mn d) (ntA mn d) c) n).foldl (stM mb b ld) q := by
  intro n
  induction n with
  | zero => rfl
  | succ n ih =>
    show mfl mb mn b ld d (n : Int) c (mfo mb mn b ld d c n q) = (srt _ n ++ _).foldl _ _
    rw [List.foldl_append, ← ih, mfl_fold]
/-- the two states of a bringing -/
def HomR (bs mb me0 mt0 mi0 : Int → Int) (i : Int) (q : (Int → Int) × (Int → Int) × (Int → Int) × Int) (q' : MS) : Prop := BrS bs q.1 q.2.1 q.2.2.1 (fun s => mb (304 * i + s)) (fun s => q'.1 (304 * i + s)) (fun s => q'.2.1 (304 * i + s)) (fun s => q'.2.2.1 (304 * i + s)) ∧ q.2.2.2 = q'.2.2.2 ∧
  ∀ j, (j < 304 * i ∨ 304 * i + 303 < j) → q'.1 j = me0 j ∧ q'.2.1 j = mt0 j ∧ q'.2.2.1 j = mi0 j
theorem HomR.step {bs mb me0 mt0 mi0 : Int → Int} {i ld : Int} {q : (Int → Int) × (Int → Int) × (Int → Int) × Int} {q' : MS} {x : Int × Int × Int} (h : HomR bs mb me0 mt0 mi0 i q q') (hl : -9999 ≤ ld ∧ ld ≤ 9999) (hx : (0 ≤ x.1 ∧ x.1 ≤ 9999) ∧ (0 ≤ x.2.1 ∧ x.2.1 ≤ 191) ∧ 0 ≤ x.2.2 ∧ x.2.2 ≤ 9) : HomR bs mb me0 mt0 mi0 i (stC bs ld q x) (stM mb i ld q' x) := by
  obtain ⟨t, s, a⟩ := x
  obtain ⟨e, c, n, k⟩ := q
  obtain ⟨e', c', n', k'⟩ := q'
  obtain ⟨h1, h2, h3⟩ := h
  obtain ⟨hx1, hx2, hx3⟩ := hx
  have hx1 : 0 ≤ t ∧ t ≤ 9999 := hx1
  have hx2 : 0 ≤ s ∧ s ≤ 191 := hx2
  have hx3 : 0 ≤ a ∧ a ≤ 9 := hx3
  have h1 : BrS bs e c n (fun s => mb (304 * i + s)) (fun s => e' (304 * i + s)) (fun s => c' (304 * i + s)) (fun s => n' (304 * i + s)) := h1
  have hn : n s = n' (304 * i + s) ∨ (n s = -100000 ∧ n' (304 * i + s) = -1000000) := (h1 s hx2.1 (by omega)).2.2.2.2.2
  show HomR bs mb me0 mt0 mi0 i (if n s ≤ t - ld then (edF e bs s a, coF c bs s a, fput n s (t - ld), k + 1) else (e, c, n, k)) (if n' (304 * i + s) ≤ t - ld then (medF e' mb (304 * i + s) a, mtoF c' mb (304 * i + s) a, fput n' (304 * i + s) (t - ld), k' + 1) else (e', c', n', k'))
  by_cases q : n s ≤ t - ld
  · rw [if_pos q, if_pos (by omega)]
    have hb := BrS.edit (s9 := s) (v9 := a) h1 (by omega) (by omega)
    refine ⟨fun s' s1 s2 => ?_, by show k + 1 = k' + 1; have : k = k' := h2; omega, fun j hj => ?_⟩
    · obtain ⟨b1, b2, b3, b4, b5, b6⟩ := hb s' s1 s2
      refine ⟨b1, b2, b3, b4, b5, ?_⟩
      show fput n s (t - ld) s' = fput n' (304 * i + s) (t - ld) (304 * i + s') ∨ _
      by_cases z : s' = s
      · subst z; rw [fput_s, fput_s]; exact Or.inl rfl
      · show _ ∨ (fput n s (t - ld) s' = -100000 ∧ fput n' (304 * i + s) (t - ld) (304 * i + s') = -1000000)
        rw [fput_o z, fput_o (by omega)]; exact b6
    · obtain ⟨z1, z2, z3⟩ := h3 j hj
      exact ⟨(fput_o (by omega)).trans z1, (fput_o (by omega)).trans z2, (fput_o (by omega)).trans z3⟩
  · rw [if_neg q, if_neg (by omega)]
    exact ⟨h1, h2, h3⟩
theorem HomR.fold {bs mb me0 mt0 mi0 : Int → Int} {i ld : Int} (hl : -9999 ≤ ld ∧ ld ≤ 9999) : ∀ (L : List (Int × Int × Int)) (q : (Int → Int) × (Int → Int) × (Int → Int) × Int) (q' : MS), (∀ x ∈ L, (0 ≤ x.1 ∧ x.1 ≤ 9999) ∧ (0 ≤ x.2.1 ∧ x.2.1 ≤ 191) ∧ 0 ≤ x.2.2 ∧ x.2.2 ≤ 9) → HomR bs mb me0 mt0 mi0 i q q' → HomR bs mb me0 mt0 mi0 i (L.foldl (stC bs ld) q) (L.foldl (stM mb i ld) q') := by
  intro L
  induction L with
  | nil => intro q q' _ h; exact h
  | cons x L ih =>
    intro q q' hx h
    exact ih _ _ (fun y hy => hx y (List.mem_cons_of_mem _ hy)) (h.step hl (hx x List.mem_cons_self))
theorem hom_all {tf sf af mn bs ed co no mb me mt mi : Int → Int} {i d c ld : Int} (hn : NtR tf sf af mn d c) (hc : 0 ≤ c) (hl : -9999 ≤ ld ∧ ld ≤ 9999) (h : BrS bs ed co no (fun s => mb (304 * i + s)) (fun s => me (304 * i + s)) (fun s => mt (304 * i + s)) (fun s => mi (304 * i + s))) :
    HomR bs mb me mt mi i (brS tf sf af bs ed co no ld c.toNat) (mfo mb mn i ld d c.toNat 10000 (me, mt, mi, 0)) := by
  rw [brS_fold, mfo_fold, hn.1]
  refine HomR.fold hl _ _ _ (fun x hx => ?_) ⟨h, rfl, fun j _ => ⟨rfl, rfl, rfl⟩⟩
  obtain ⟨k, k1, k2, rfl⟩ := toL_mem _ (srt_lt _ hx).1
  exact hn.2.1 k k1 (by omega)
/-! the devices' cells -/
theorem dvN_ne {i j : Int} (hi : 0 ≤ i ∧ i ≤ 2) (hj : 0 ≤ j ∧ j ≤ 2) (q : j ≠ i) : dvN i + 3 < dvN j ∨ dvN j + 3 < dvN i := by unfold dvN; omega
theorem fput_fput {α : Type} {f : Int → α} {k : Int} {x y : α} : fput (fput f k x) k y = fput f k y := by
  funext j; unfold fput; split <;> rfl
theorem cD.at_0 {h : HP} {dc d : Int} {ct ld : Int → Int} {tf sf af : Int → Int → Int} {c e : Int} (c9 : cD h dc ct ld tf sf af) (hdc : 0 ≤ dc ∧ dc ≤ 3) (hd : 0 ≤ d ∧ d < dc) : cD (hput h (dvN d) (oO 1 [vI c, vI e, vR (dvN d + 1), vR (dvN d + 2), vR (dvN d + 3)])) dc (fput ct d c) (fput ld d e) tf sf af := by
  obtain ⟨⟨f, f1, f2, f3⟩, h1, h2⟩ := c9
  have hb := dvN_in (i := d) (by omega)
  refine ⟨⟨f, hput_o (by omega) f1, f2, f3⟩, fun j j1 j2 => ?_, fun j j1 j2 => ?_⟩
  · by_cases q : j = d
    · subst q
      obtain ⟨g1, g2, g3, g4⟩ := h1 j j1 j2
      exact ⟨by rw [fput_s, fput_s]; exact hput_s, hput_o (by omega) g2, hput_o (by omega) g3, hput_o (by omega) g4⟩
    · have := dvN_ne (i := d) (j := j) (by omega) (by omega) q
      have k := (h1 j j1 j2).put (e := (oO 1 [vI c, vI e, vR (dvN d + 1), vR (dvN d + 2), vR (dvN d + 3)])) (k := dvN d) (by omega)
      unfold cD1 at k ⊢
      rw [fput_o q, fput_o q]; exact k
  · have := dvN_ne (i := d) (j := j) (by omega) (by omega) (by omega)
    obtain ⟨g1, g2, g3, g4⟩ := h2 j j1 j2
    exact ⟨hput_o (by omega) g1, hput_o (by omega) g2, hput_o (by omega) g3, hput_o (by omega) g4⟩
theorem cD.at_1 {h : HP} {dc d : Int} {ct ld : Int → Int} {tf sf af : Int → Int → Int} {x : Int → Int} (c9 : cD h dc ct ld tf sf af) (hdc : 0 ≤ dc ∧ dc ≤ 3) (hd : 0 ≤ d ∧ d < dc) : cD (hput h (dvN d + 1) (oI 20 x)) dc ct ld (fput tf d x) sf af := by
  obtain ⟨⟨f, f1, f2, f3⟩, h1, h2⟩ := c9
  have hb := dvN_in (i := d) (by omega)
  refine ⟨⟨f, hput_o (by omega) f1, f2, f3⟩, fun j j1 j2 => ?_, fun j j1 j2 => ?_⟩
  · by_cases q : j = d
    · subst q
      obtain ⟨g1, g2, g3, g4⟩ := h1 j j1 j2
      exact ⟨hput_o (by omega) g1, by rw [fput_s]; exact hput_s, hput_o (by omega) g3, hput_o (by omega) g4⟩
    · have := dvN_ne (i := d) (j := j) (by omega) (by omega) q
      have k := (h1 j j1 j2).put (e := (oI 20 x)) (k := dvN d + 1) (by omega)
      unfold cD1 at k ⊢
      rw [fput_o q]; exact k
  · have := dvN_ne (i := d) (j := j) (by omega) (by omega) (by omega)
    obtain ⟨g1, g2, g3, g4⟩ := h2 j j1 j2
    exact ⟨hput_o (by omega) g1, hput_o (by omega) g2, hput_o (by omega) g3, hput_o (by omega) g4⟩
theorem cD.at_2 {h : HP} {dc d : Int} {ct ld : Int → Int} {tf sf af : Int → Int → Int} {x : Int → Int} (c9 : cD h dc ct ld tf sf af) (hdc : 0 ≤ dc ∧ dc ≤ 3) (hd : 0 ≤ d ∧ d < dc) : cD (hput h (dvN d + 2) (oI 20 x)) dc ct ld tf (fput sf d x) af := by
  obtain ⟨⟨f, f1, f2, f3⟩, h1, h2⟩ := c9
  have hb := dvN_in (i := d) (by omega)
  refine ⟨⟨f, hput_o (by omega) f1, f2, f3⟩, fun j j1 j2 => ?_, fun j j1 j2 => ?_⟩
  · by_cases q : j = d
    · subst q
      obtain ⟨g1, g2, g3, g4⟩ := h1 j j1 j2
      exact ⟨hput_o (by omega) g1, hput_o (by omega) g2, by rw [fput_s]; exact hput_s, hput_o (by omega) g4⟩
    · have := dvN_ne (i := d) (j := j) (by omega) (by omega) q
      have k := (h1 j j1 j2).put (e := (oI 20 x)) (k := dvN d + 2) (by omega)
      unfold cD1 at k ⊢
      rw [fput_o q]; exact k
  · have := dvN_ne (i := d) (j := j) (by omega) (by omega) (by omega)
    obtain ⟨g1, g2, g3, g4⟩ := h2 j j1 j2
    exact ⟨hput_o (by omega) g1, hput_o (by omega) g2, hput_o (by omega) g3, hput_o (by omega) g4⟩
theorem cD.at_3 {h : HP} {dc d : Int} {ct ld : Int → Int} {tf sf af : Int → Int → Int} {x : Int → Int} (c9 : cD h dc ct ld tf sf af) (hdc : 0 ≤ dc ∧ dc ≤ 3) (hd : 0 ≤ d ∧ d < dc) : cD (hput h (dvN d + 3) (oI 20 x)) dc ct ld tf sf (fput af d x) := by
  obtain ⟨⟨f, f1, f2, f3⟩, h1, h2⟩ := c9
  have hb := dvN_in (i := d) (by omega)
  refine ⟨⟨f, hput_o (by omega) f1, f2, f3⟩, fun j j1 j2 => ?_, fun j j1 j2 => ?_⟩
  · by_cases q : j = d
    · subst q
      obtain ⟨g1, g2, g3, g4⟩ := h1 j j1 j2
      exact ⟨hput_o (by omega) g1, hput_o (by omega) g2, hput_o (by omega) g3, by rw [fput_s]; exact hput_s⟩
    · have := dvN_ne (i := d) (j := j) (by omega) (by omega) q
      have k := (h1 j j1 j2).put (e := (oI 20 x)) (k := dvN d + 3) (by omega)
      unfold cD1 at k ⊢
      rw [fput_o q]; exact k
  · have := dvN_ne (i := d) (j := j) (by omega) (by omega) (by omega)
    obtain ⟨g1, g2, g3, g4⟩ := h2 j j1 j2
    exact ⟨hput_o (by omega) g1, hput_o (by omega) g2, hput_o (by omega) g3, hput_o (by omega) g4⟩
theorem NtR_0 {tf sf af mn : Int → Int} {d : Int} : NtR tf sf af mn d 0 := ⟨(srt_nil 10000).symm, fun j j1 j2 => absurd j2 (by omega), fun j j1 j2 => absurd j2 (by omega)⟩
/-- one device changed -/
theorem DvR.one {ct ld : Int → Int} {tf sf af : Int → Int → Int} {mn my mh mn' my' mh' : Int → Int} {dc d c e : Int} {t s a : Int → Int} (h : DvR ct ld tf sf af mn my mh dc) (hdc : dc ≤ 3) (hd : 0 ≤ d ∧ d < dc) (hc : 0 ≤ c ∧ c ≤ 20) (h1 : my' d = c) (h2 : mh' d = e) (h3 : NtR t s a mn' d c) (h4 : ∀ j, 0 ≤ j → j ≤ 2 → j ≠ d → my' j = my j ∧ mh' j = mh j) (h5 : ∀ j k, 0 ≤ j → j ≤ 2 → j ≠ d → 60 * j ≤ k → k < 60 * j + 60 → mn' k = mn k) :
    DvR (fput ct d c) (fput ld d e) (fput tf d t) (fput sf d s) (fput af d a) mn' my' mh' dc := by
  refine ⟨fun j j1 j2 => ?_, fun j j1 j2 => ?_⟩
  · by_cases q : j = d
    · subst q
      rw [fput_s, fput_s, fput_s, fput_s, fput_s]
      exact ⟨h1, h2, hc, h3⟩
    · rw [fput_o q, fput_o q, fput_o q, fput_o q, fput_o q]
      obtain ⟨g1, g2, g3, g4, g5, g6⟩ := h.1 j j1 j2
      obtain ⟨k1, k2⟩ := h4 j j1 (by omega) q
      refine ⟨k1.trans g1, k2.trans g2, g3, ?_, fun i i1 i2 => ?_, g6⟩
      · rw [toL_congr (t := ntT mn' j) (s := ntS mn' j) (a := ntA mn' j) (t' := ntT mn j) (s' := ntS mn j) (a' := ntA mn j) (ct j).toNat (fun i i1 i2 => ⟨h5 j _ j1 (by omega) q (by omega) (by omega), h5 j _ j1 (by omega) q (by omega) (by omega), h5 j _ j1 (by omega) q (by omega) (by omega)⟩)]
        exact g4
      · have := g5 i i1 i2
        show (0 ≤ mn' _ ∧ mn' _ ≤ 9999) ∧ (0 ≤ mn' _ ∧ mn' _ ≤ 191) ∧ 0 ≤ mn' _ ∧ mn' _ ≤ 9
        rw [h5 j _ j1 (by omega) q (by omega) (by omega), h5 j _ j1 (by omega) q (by omega) (by omega), h5 j _ j1 (by omega) q (by omega) (by omega)]
        exact this
  · obtain ⟨k1, k2⟩ := h4 j (by omega) j2 (by omega)
    obtain ⟨g1, g2⟩ := h.2 j j1 j2
    exact ⟨k1.trans g1, k2.trans g2⟩
