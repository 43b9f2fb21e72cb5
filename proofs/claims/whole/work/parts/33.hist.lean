def stN (v : Int) : Nat := (100 + 2 * v).toNat
def vAt (sv : Int → Int → Int) (s : Int) : Nat → Int
  | 0 => 0
  | n + 1 => if sv ((n : Int) + 1) s = -1 then vAt sv s n else sv ((n : Int) + 1) s
/-- what the steps up to v leave of a spot -/
def vA (sv : Int → Int → Int) (s v : Int) : Int := vAt sv s v.toNat
theorem vA_0 {sv : Int → Int → Int} {s : Int} : vA sv s 0 = 0 := rfl
theorem vA_s {sv : Int → Int → Int} {s v : Int} (hv : 0 < v) : vA sv s v = if sv v s = -1 then vA sv s (v - 1) else sv v s := by
  have e1 : v.toNat = (v - 1).toNat + 1 := by omega
  unfold vA
  rw [e1]
  show (if sv (((v - 1).toNat : Int) + 1) s = -1 then _ else _) = _
  rw [show (((v - 1).toNat : Nat) : Int) + 1 = v by omega]
theorem vA_t {sv : Int → Int → Int} {s v i : Int} (hi : 0 < i) (he : vA sv s v = vA sv s i) (hc : sv i s = -1) : vA sv s v = vA sv s (i - 1) := by
  rw [he, vA_s hi, if_pos hc]
theorem vA_f {sv : Int → Int → Int} {s v i : Int} (hi : 0 < i) (he : vA sv s v = vA sv s i) (hc : sv i s ≠ -1) : sv i s = vA sv s v := by
  rw [he, vA_s hi, if_neg hc]
theorem vA_z {sv : Int → Int → Int} {s v i : Int} (hi : i = 0) (he : vA sv s v = vA sv s i) : 0 = vA sv s v := by
  rw [he, hi, vA_0]
/-- the history's cells, to be read -/
def HisR (h : HP) (k S G : Nat) (nw mcn : Int) (sf : Int → Option Nat) (sv : Int → Int → Int) : Prop :=
  h k = some (oO 2 [vI nw, vR S, vR G, vI mcn]) ∧ h S = some (oA 7 41 sf) ∧ ∀ v, 1 ≤ v → v ≤ nw → sf v = some (stN v) ∧ h (stN v) = some (oO 6 [vR (stN v + 1)]) ∧ h (stN v + 1) = some (oI 304 (sv v))
set_option maxRecDepth 20000 in
set_option maxHeartbeats 4000000 in
theorem k_broughtBy {g : Gx} {h : HP} {k S G : Nat} {nw mcn : Int} {sf : Int → Option Nat} {sv : Int → Int → Int} {v9 s9 : Int} (hR : HisR h k S G nw mcn sf sv) (hn : 0 ≤ nw ∧ nw ≤ 40) (hv : 1 ≤ v9 ∧ v9 ≤ nw) (hs : 0 ≤ s9 ∧ s9 ≤ 303) : Ct g yX3_broughtBy (.code yX3_broughtBy cX3_broughtBy 4 (some .int)) 1 0 0 [vR k, vI v9, vI s9] h (Rt (some (vI (sv v9 s9))) h) := by
  refine Ct.of (by decide) (Nat.le_of_ble_eq_true rfl) (fun x hg C F => ?_)
  subst hg
  obtain ⟨hk, hS, hst⟩ := id hR
  obtain ⟨e1, e2, e3⟩ := hst v9 (by omega) (by omega)
  show T x 0 [(0, vR k), (1, vI v9), (2, vI s9)] [] h 0 0
  refine st_iload_n C 1 dX3_broughtBy_0 rfl rfl ?_
  refine st_if_lt (tgt := 10) C dX3_broughtBy_1 (by decide) (fun c_1 => by omega) (fun c_1 => ?_)
  refine st_iload_n C 1 dX3_broughtBy_4 rfl rfl ?_
  refine st_bipush C dX3_broughtBy_5 (by decide) (by decide) ?_
  refine st_icmp_le (tgt := 12) C dX3_broughtBy_7 (by decide) (fun c_7 => ?_) (fun c_7 => by omega)
  refine st_aload_n C 0 dX3_broughtBy_12 rfl rfl ?_
  refine st_getf C dX3_broughtBy_13 fl_X3_17 hk rfl ?_
  refine st_iload_n C 1 dX3_broughtBy_16 rfl rfl ?_
  refine st_aald C dX3_broughtBy_17 RX7 (fun _ => rfl) hS (by omega) (by omega) ?_
  rw [e1]
  show T x 18 [(0, vR k), (1, vI v9), (2, vI s9)] [vR (stN v9)] _ _ _
  refine st_astore_n C 3 dX3_broughtBy_18 rfl (by decide) rfl ?_
  show T x 19 [(0, vR k), (1, vI v9), (2, vI s9), (3, vR (stN v9))] [] _ _ _
  refine st_aload_n C 3 dX3_broughtBy_19 rfl rfl ?_
  refine st_ifnonnull_r (tgt := 27) C dX3_broughtBy_20 (by decide) ?_
  refine st_aload_n C 3 dX3_broughtBy_27 rfl rfl ?_
  refine st_getf C dX3_broughtBy_28 fl_X3_35 e2 rfl ?_
  refine st_iload_n C 2 dX3_broughtBy_31 rfl rfl ?_
  refine st_iald C dX3_broughtBy_32 e3 (by omega) (by omega) ?_
  exact st_ireturn C F dX3_broughtBy_33 rfl ⟨rfl, rfl⟩ (by omega) (by omega)
set_option maxRecDepth 20000 in
set_option maxHeartbeats 4000000 in
theorem k_valueAt {g : Gx} {h : HP} {k S G : Nat} {nw mcn : Int} {sf : Int → Option Nat} {sv : Int → Int → Int} {v9 s9 : Int} (hR : HisR h k S G nw mcn sf sv) (hn : 0 ≤ nw ∧ nw ≤ 40) (hv : 0 ≤ v9 ∧ v9 ≤ nw) (hs : 0 ≤ s9 ∧ s9 ≤ 303) : Ct g yX3_valueAt (.code yX3_valueAt cX3_valueAt 5 (some .int)) 2 0 0 [vR k, vI s9, vI v9] h (Rt (some (vI (vA sv s9 v9))) h) := by
  refine Ct.of (by decide) (Nat.le_of_ble_eq_true rfl) (fun x hg C F => ?_)
  subst hg
  obtain ⟨hk, hS, hst⟩ := id hR
  show T x 0 [(0, vR k), (1, vI s9), (2, vI v9)] [] h 0 0
  refine st_iload_n C 2 dX3_valueAt_0 rfl rfl ?_
  refine st_istore_n C 3 dX3_valueAt_1 rfl (by decide) rfl ?_
  show T x 2 [(0, vR k), (1, vI s9), (2, vI v9), (3, vI v9)] [] _ _ _
  have loop_2 : ∀ (n_2 : Nat) (i : Int), (0 ≤ i) → (i ≤ v9) → (vA sv s9 v9 = vA sv s9 i) → i.toNat < n_2 → T x 2 [(0, vR k), (1, vI s9), (2, vI v9), (3, vI i)] [] h 0 0 := by
    intro n_2
    induction n_2 with
    | zero => intro i g1 g2 g3 hm_2; exact absurd hm_2 (Nat.not_lt_zero _)
    | succ n_2 ih_2 =>
      intro i g1 g2 g3 hm_2
      refine st_iload_n C 3 dX3_valueAt_2 rfl rfl ?_
      refine st_if_le (tgt := 29) C dX3_valueAt_3 (by decide) (fun c_3 => ?_) (fun c_3 => ?_)
      · refine st_iconst C dX3_valueAt_29 (by decide) ?_
        exact st_ireturn C F dX3_valueAt_30 rfl (rt_i (vA_z (by omega) g3) rfl) (by omega) (by omega)
      · refine st_aload_n C 0 dX3_valueAt_6 rfl rfl ?_
        refine st_iload_n C 3 dX3_valueAt_7 rfl rfl ?_
        refine st_iload_n C 1 dX3_valueAt_8 rfl rfl ?_
        refine st_callV (st := []) C dX3_valueAt_9 [vI i, vI s9] (k_broughtBy (v9 := i) (s9 := s9) hR (by omega) (by omega) (by omega)) hk w_X3_38 rfl (by decide) (by decide) (by omega) (by omega) (Nat.le_of_ble_eq_true rfl) (ko_rt ?_)
        show T x 12 [(0, vR k), (1, vI s9), (2, vI v9), (3, vI i)] [vI (sv i s9)] _ _ _
        refine st_istore C dX3_valueAt_12 (by decide) rfl ?_
        show T x 14 [(0, vR k), (1, vI s9), (2, vI v9), (3, vI i), (4, vI (sv i s9))] [] _ _ _
        refine st_iload C dX3_valueAt_14 rfl ?_
        refine st_iconst C dX3_valueAt_16 (by decide) ?_
        refine st_icmp_eq (tgt := 23) C dX3_valueAt_17 (by decide) (fun c_17 => ?_) (fun c_17 => ?_)
        · refine st_iinc C dX3_valueAt_23 rfl (by decide) rfl ⟨(by omega), (by omega)⟩ ?_
          show T x 26 [(0, vR k), (1, vI s9), (2, vI v9), (3, vI (i + (-1))), (4, vI (sv i s9))] [] _ _ _
          refine st_goto (tgt := 2) C dX3_valueAt_26 (by decide) ?_
          refine st_sub [0, 1, 2, 3] rfl ?_
          exact ih_2 (i + (-1)) (by omega) (by omega) (vA_t (by omega) g3 (by assumption)) (by omega)
        · refine st_iload C dX3_valueAt_20 rfl ?_
          exact st_ireturn C F dX3_valueAt_22 rfl (rt_i (vA_f (by omega) g3 (by assumption)) rfl) (by omega) (by omega)
  exact loop_2 _ v9 (by omega) (by omega) (rfl) (Nat.lt_succ_self _)
theorem HisR.put {h : HP} {k S G tr : Nat} {nw mcn : Int} {sf : Int → Option Nat} {sv : Int → Int → Int} {e : PE} (hR : HisR h k S G nw mcn sf sv) (n1 : k ≠ tr) (n2 : S ≠ tr) (n3 : ∀ v, 1 ≤ v → v ≤ nw → stN v ≠ tr ∧ stN v + 1 ≠ tr) : HisR (hput h tr e) k S G nw mcn sf sv := by
  obtain ⟨h1, h2, h3⟩ := hR
  exact ⟨hput_o n1 h1, hput_o n2 h2, fun v g1 g2 => ⟨(h3 v g1 g2).1, hput_o (n3 v g1 g2).1 (h3 v g1 g2).2.1, hput_o (n3 v g1 g2).2 (h3 v g1 g2).2.2⟩⟩
theorem stN_ge {v : Int} (h : 1 ≤ v) : 102 ≤ stN v := by unfold stN; omega
set_option maxRecDepth 20000 in
set_option maxHeartbeats 4000000 in
theorem k_writeAt {g : Gx} {h : HP} {k S G : Nat} {nw mcn : Int} {sf : Int → Option Nat} {sv : Int → Int → Int} {v9 : Int} {tr : Nat} {tf : Int → Int} (hR : HisR h k S G nw mcn sf sv) (hn : 0 ≤ nw ∧ nw ≤ 40) (hv : 0 ≤ v9 ∧ v9 ≤ nw) (ht : h tr = some (oI 304 tf)) (n1 : k ≠ tr) (n2 : S ≠ tr) (n3 : tr < 100) : Ct g yX3_writeAt (.code yX3_writeAt cX3_writeAt 4 none) 3 0 0 [vR k, vI v9, vR tr] h (Rt none (hput h tr (oI 304 (fmix (fun s => vA sv s v9) tf 304)))) := by
  refine Ct.of (by decide) (Nat.le_of_ble_eq_true rfl) (fun x hg C F => ?_)
  subst hg
  obtain ⟨hk, hS, hst⟩ := id hR
  show T x 0 [(0, vR k), (1, vI v9), (2, vR tr)] [] h 0 0
  refine st_iconst C dX3_writeAt_0 (by decide) ?_
  refine st_istore_n C 3 dX3_writeAt_1 rfl (by decide) rfl ?_
  show T x 2 [(0, vR k), (1, vI v9), (2, vR tr), (3, vI 0)] [] _ _ _
  have loop_2 : ∀ (n_2 : Nat) (i : Int) (h1 : HP), (0 ≤ i) → (i ≤ 304) → (h1 = hput h tr (oI 304 (fmix (fun s => vA sv s v9) tf i))) → (304 - i).toNat < n_2 → T x 2 [(0, vR k), (1, vI v9), (2, vR tr), (3, vI i)] [] h1 0 0 := by
    intro n_2
    induction n_2 with
    | zero => intro i h1 g1 g2 hh hm_2; exact absurd hm_2 (Nat.not_lt_zero _)
    | succ n_2 ih_2 =>
      intro i h1 g1 g2 hh hm_2
      have hR1 : HisR h1 k S G nw mcn sf sv := by rw [hh]; exact hR.put (by omega) (by omega) (fun v q1 q2 => by have := stN_ge q1; omega)
      refine st_iload_n C 3 dX3_writeAt_2 rfl rfl ?_
      refine st_sipush C dX3_writeAt_3 (by decide) (by decide) ?_
      refine st_icmp_ge (tgt := 24) C dX3_writeAt_6 (by decide) (fun c_6 => ?_) (fun c_6 => ?_)
      · exact st_return C F dX3_writeAt_24 rfl (rt_n (by rw [hh, show i = 304 by omega])) (by omega) (by omega)
      · refine st_aload_n C 2 dX3_writeAt_9 rfl rfl ?_
        refine st_iload_n C 3 dX3_writeAt_10 rfl rfl ?_
        refine st_aload_n C 0 dX3_writeAt_11 rfl rfl ?_
        refine st_iload_n C 3 dX3_writeAt_12 rfl rfl ?_
        refine st_iload_n C 1 dX3_writeAt_13 rfl rfl ?_
        refine st_callV (st := [vI i, vR tr]) C dX3_writeAt_14 [vI i, vI v9] (k_valueAt (s9 := i) (v9 := v9) hR1 (by omega) (by omega) (by omega)) (by rw [hh]; exact hput_o (by omega) hk) w_X3_42 rfl (by decide) (by decide) (by omega) (by omega) (Nat.le_of_ble_eq_true rfl) (ko_rt ?_)
        show T x 17 [(0, vR k), (1, vI v9), (2, vR tr), (3, vI i)] [vI (vA sv i v9), vI i, vR tr] _ _ _
        refine st_iast C dX3_writeAt_17 (by rw [hh]; exact hput_s) (by omega) (by omega) ?_
        refine st_iinc C dX3_writeAt_18 rfl (by decide) rfl ⟨(by omega), (by omega)⟩ ?_
        show T x 21 [(0, vR k), (1, vI v9), (2, vR tr), (3, vI (i + 1))] [] _ _ _
        refine st_goto (tgt := 2) C dX3_writeAt_21 (by decide) ?_
        exact ih_2 (i + 1) (hput h1 tr (oI 304 (fput (fmix (fun s => vA sv s v9) tf i) i (vA sv i v9)))) (by omega) (by omega) (by rw [hh, hput_hput, fmix_s g1 rfl]) (by omega)
  exact loop_2 _ 0 h (by omega) (by omega) (by rw [fmix_0]; exact (hput_self ht).symm) (Nat.lt_succ_self _)
theorem cnt1_t {P : Int → Prop} {i c : Int} (h : 1 ≤ i) (hp : P (i - 1)) (hc : c = cnt P (i - 1)) : c + 1 = cnt P (i + 1 - 1) := by
  have := cnt_t (by omega : 0 ≤ i - 1) hp hc
  rw [show i + 1 - 1 = i - 1 + 1 by omega]; exact this
theorem cnt1_f {P : Int → Prop} {i c : Int} (h : 1 ≤ i) (hp : ¬ P (i - 1)) (hc : c = cnt P (i - 1)) : c = cnt P (i + 1 - 1) := by
  have := cnt_f (by omega : 0 ≤ i - 1) hp hc
  rw [show i + 1 - 1 = i - 1 + 1 by omega]; exact this
theorem nth1_f {P : Int → Prop} {i k : Int} (h3 : ∀ j, 0 ≤ j → j < i - 1 → P j → cnt P j ≠ k) (hp : ¬ P (i - 1)) : ∀ j, 0 ≤ j → j < i + 1 - 1 → P j → cnt P j ≠ k := fun j h8 h9 hj => nth_f h3 hp j h8 (by omega) hj
theorem nth1_t {P : Int → Prop} {i k c : Int} (h3 : ∀ j, 0 ≤ j → j < i - 1 → P j → cnt P j ≠ k) (hc : c = cnt P (i - 1)) (hk : c ≠ k) : ∀ j, 0 ≤ j → j < i + 1 - 1 → P j → cnt P j ≠ k := fun j h8 h9 hj => nth_t h3 hc hk j h8 (by omega) hj
set_option maxRecDepth 20000 in
set_option maxHeartbeats 4000000 in
theorem k_changeCount {g : Gx} {h : HP} {k S G : Nat} {nw mcn : Int} {sf : Int → Option Nat} {sv : Int → Int → Int} {s9 : Int} (hR : HisR h k S G nw mcn sf sv) (hn : 0 ≤ nw ∧ nw ≤ 40) (hs : 0 ≤ s9 ∧ s9 ≤ 303) : Ct g yX3_changeCount (.code yX3_changeCount cX3_changeCount 4 (some .int)) 2 0 0 [vR k, vI s9] h (Rt (some (vI (cnt (fun j => sv (j + 1) s9 ≠ -1) nw))) h) := by
  refine Ct.of (by decide) (Nat.le_of_ble_eq_true rfl) (fun x hg C F => ?_)
  subst hg
  obtain ⟨hk, hS, hst⟩ := id hR
  show T x 0 [(0, vR k), (1, vI s9)] [] h 0 0
  refine st_iconst C dX3_changeCount_0 (by decide) ?_
  refine st_istore_n C 2 dX3_changeCount_1 rfl (by decide) rfl ?_
  show T x 2 [(0, vR k), (1, vI s9), (2, vI 0)] [] _ _ _
  refine st_iconst C dX3_changeCount_2 (by decide) ?_
  refine st_istore_n C 3 dX3_changeCount_3 rfl (by decide) rfl ?_
  show T x 4 [(0, vR k), (1, vI s9), (2, vI 0), (3, vI 1)] [] _ _ _
  have loop_4 : ∀ (n_4 : Nat) (c1 : Int) (i : Int), (1 ≤ i) → (i ≤ nw + 1) → (0 ≤ c1 ∧ c1 ≤ i) → (c1 = cnt (fun j => sv (j + 1) s9 ≠ -1) (i - 1)) → (nw + 1 - i).toNat < n_4 → T x 4 [(0, vR k), (1, vI s9), (2, vI c1), (3, vI i)] [] h 0 0 := by
    intro n_4
    induction n_4 with
    | zero => intro c1 i g1 g2 g3 g4 hm_4; exact absurd hm_4 (Nat.not_lt_zero _)
    | succ n_4 ih_4 =>
      intro c1 i g1 g2 g3 g4 hm_4
      refine st_iload_n C 3 dX3_changeCount_4 rfl rfl ?_
      refine st_aload_n C 0 dX3_changeCount_5 rfl rfl ?_
      refine st_getf C dX3_changeCount_6 fl_X3_9 hk rfl ?_
      refine st_icmp_gt (tgt := 31) C dX3_changeCount_9 (by decide) (fun c_9 => ?_) (fun c_9 => ?_)
      · refine st_iload_n C 2 dX3_changeCount_31 rfl rfl ?_
        exact st_ireturn C F dX3_changeCount_32 rfl (rt_i (cntE g4 (by omega)) rfl) (by omega) (by omega)
      · refine st_aload_n C 0 dX3_changeCount_12 rfl rfl ?_
        refine st_iload_n C 3 dX3_changeCount_13 rfl rfl ?_
        refine st_iload_n C 1 dX3_changeCount_14 rfl rfl ?_
        refine st_callV (st := []) C dX3_changeCount_15 [vI i, vI s9] (k_broughtBy (v9 := i) (s9 := s9) hR (by omega) (by omega) (by omega)) hk w_X3_38 rfl (by decide) (by decide) (by omega) (by omega) (Nat.le_of_ble_eq_true rfl) (ko_rt ?_)
        show T x 18 [(0, vR k), (1, vI s9), (2, vI c1), (3, vI i)] [vI (sv i s9)] _ _ _
        refine st_iconst C dX3_changeCount_18 (by decide) ?_
        refine st_icmp_eq (tgt := 25) C dX3_changeCount_19 (by decide) (fun c_19 => ?_) (fun c_19 => ?_)
        · refine st_iinc C dX3_changeCount_25 rfl (by decide) rfl ⟨(by omega), (by omega)⟩ ?_
          show T x 28 [(0, vR k), (1, vI s9), (2, vI c1), (3, vI (i + 1))] [] _ _ _
          refine st_goto (tgt := 4) C dX3_changeCount_28 (by decide) ?_
          exact ih_4 c1 (i + 1) (by omega) (by omega) (by omega) (by first | exact cnt1_t g1 (by show sv (i - 1 + 1) s9 ≠ -1; rw [Int.sub_add_cancel]; assumption) g4 | exact cnt1_f g1 (fun z => z (by show sv (i - 1 + 1) s9 = -1; rw [Int.sub_add_cancel]; assumption)) g4) (by omega)
        · refine st_iinc C dX3_changeCount_22 rfl (by decide) rfl ⟨(by omega), (by omega)⟩ ?_
          show T x 25 [(0, vR k), (1, vI s9), (2, vI (c1 + 1)), (3, vI i)] [] _ _ _
          refine st_iinc C dX3_changeCount_25 rfl (by decide) rfl ⟨(by omega), (by omega)⟩ ?_
          show T x 28 [(0, vR k), (1, vI s9), (2, vI (c1 + 1)), (3, vI (i + 1))] [] _ _ _
          refine st_goto (tgt := 4) C dX3_changeCount_28 (by decide) ?_
          exact ih_4 (c1 + 1) (i + 1) (by omega) (by omega) (by omega) (by first | exact cnt1_t g1 (by show sv (i - 1 + 1) s9 ≠ -1; rw [Int.sub_add_cancel]; assumption) g4 | exact cnt1_f g1 (fun z => z (by show sv (i - 1 + 1) s9 = -1; rw [Int.sub_add_cancel]; assumption)) g4) (by omega)
  exact loop_4 _ 0 1 (by omega) (by omega) (by omega) (cnt_0) (Nat.lt_succ_self _)
set_option maxRecDepth 20000 in
set_option maxHeartbeats 4000000 in
theorem k_changeAt {g : Gx} {h : HP} {k S G : Nat} {nw mcn : Int} {sf : Int → Option Nat} {sv : Int → Int → Int} {s9 k9 r9 : Int} (hR : HisR h k S G nw mcn sf sv) (hn : 0 ≤ nw ∧ nw ≤ 40) (hs : 0 ≤ s9 ∧ s9 ≤ 303) (hr : IsNth (fun j => sv (j + 1) s9 ≠ -1) nw k9 r9) : Ct g yX3_changeAt (.code yX3_changeAt cX3_changeAt 5 (some .int)) 2 0 0 [vR k, vI s9, vI k9] h (Rt (some (vI (if r9 = -1 then -1 else r9 + 1))) h) := by
  refine Ct.of (by decide) (Nat.le_of_ble_eq_true rfl) (fun x hg C F => ?_)
  subst hg
  obtain ⟨hk, hS, hst⟩ := id hR
  show T x 0 [(0, vR k), (1, vI s9), (2, vI k9)] [] h 0 0
  refine st_iconst C dX3_changeAt_0 (by decide) ?_
  refine st_istore_n C 3 dX3_changeAt_1 rfl (by decide) rfl ?_
  show T x 2 [(0, vR k), (1, vI s9), (2, vI k9), (3, vI 0)] [] _ _ _
  refine st_iconst C dX3_changeAt_2 (by decide) ?_
  refine st_istore C dX3_changeAt_3 (by decide) rfl ?_
  show T x 5 [(0, vR k), (1, vI s9), (2, vI k9), (3, vI 0), (4, vI 1)] [] _ _ _
  have loop_5 : ∀ (n_5 : Nat) (c1 : Int) (i : Int), (1 ≤ i) → (i ≤ nw + 1) → (0 ≤ c1 ∧ c1 ≤ i) → (c1 = cnt (fun j => sv (j + 1) s9 ≠ -1) (i - 1)) → (∀ j, 0 ≤ j → j < i - 1 → (fun j => sv (j + 1) s9 ≠ -1) j → cnt (fun j => sv (j + 1) s9 ≠ -1) j ≠ k9) → (nw + 1 - i).toNat < n_5 → T x 5 [(0, vR k), (1, vI s9), (2, vI k9), (3, vI c1), (4, vI i)] [] h 0 0 := by
    intro n_5
    induction n_5 with
    | zero => intro c1 i g1 g2 g3 g4 g5 hm_5; exact absurd hm_5 (Nat.not_lt_zero _)
    | succ n_5 ih_5 =>
      intro c1 i g1 g2 g3 g4 g5 hm_5
      refine st_iload C dX3_changeAt_5 rfl ?_
      refine st_aload_n C 0 dX3_changeAt_7 rfl rfl ?_
      refine st_getf C dX3_changeAt_8 fl_X3_9 hk rfl ?_
      refine st_icmp_gt (tgt := 42) C dX3_changeAt_11 (by decide) (fun c_11 => ?_) (fun c_11 => ?_)
      · refine st_iconst C dX3_changeAt_42 (by decide) ?_
        exact st_ireturn C F dX3_changeAt_43 rfl (rt_i (by have e9 := nth_no (by omega) g5 hr; rw [if_pos e9.symm]) rfl) (by omega) (by omega)
      · refine st_aload_n C 0 dX3_changeAt_14 rfl rfl ?_
        refine st_iload C dX3_changeAt_15 rfl ?_
        refine st_iload_n C 1 dX3_changeAt_17 rfl rfl ?_
        refine st_callV (st := []) C dX3_changeAt_18 [vI i, vI s9] (k_broughtBy (v9 := i) (s9 := s9) hR (by omega) (by omega) (by omega)) hk w_X3_38 rfl (by decide) (by decide) (by omega) (by omega) (Nat.le_of_ble_eq_true rfl) (ko_rt ?_)
        show T x 21 [(0, vR k), (1, vI s9), (2, vI k9), (3, vI c1), (4, vI i)] [vI (sv i s9)] _ _ _
        refine st_iconst C dX3_changeAt_21 (by decide) ?_
        refine st_icmp_eq (tgt := 36) C dX3_changeAt_22 (by decide) (fun c_22 => ?_) (fun c_22 => ?_)
        · refine st_iinc C dX3_changeAt_36 rfl (by decide) rfl ⟨(by omega), (by omega)⟩ ?_
          show T x 39 [(0, vR k), (1, vI s9), (2, vI k9), (3, vI c1), (4, vI (i + 1))] [] _ _ _
          refine st_goto (tgt := 5) C dX3_changeAt_39 (by decide) ?_
          exact ih_5 c1 (i + 1) (by omega) (by omega) (by omega) (by first | exact cnt1_t g1 (by show sv (i - 1 + 1) s9 ≠ -1; rw [Int.sub_add_cancel]; assumption) g4 | exact cnt1_f g1 (fun z => z (by show sv (i - 1 + 1) s9 = -1; rw [Int.sub_add_cancel]; assumption)) g4) (by first | exact nth1_t g5 g4 (by assumption) | exact nth1_f g5 (fun z => z (by show sv (i - 1 + 1) s9 = -1; rw [Int.sub_add_cancel]; assumption))) (by omega)
        · refine st_iload_n C 3 dX3_changeAt_25 rfl rfl ?_
          refine st_iload_n C 2 dX3_changeAt_26 rfl rfl ?_
          refine st_icmp_ne (tgt := 33) C dX3_changeAt_27 (by decide) (fun c_27 => ?_) (fun c_27 => ?_)
          · refine st_iinc C dX3_changeAt_33 rfl (by decide) rfl ⟨(by omega), (by omega)⟩ ?_
            show T x 36 [(0, vR k), (1, vI s9), (2, vI k9), (3, vI (c1 + 1)), (4, vI i)] [] _ _ _
            refine st_iinc C dX3_changeAt_36 rfl (by decide) rfl ⟨(by omega), (by omega)⟩ ?_
            show T x 39 [(0, vR k), (1, vI s9), (2, vI k9), (3, vI (c1 + 1)), (4, vI (i + 1))] [] _ _ _
            refine st_goto (tgt := 5) C dX3_changeAt_39 (by decide) ?_
            exact ih_5 (c1 + 1) (i + 1) (by omega) (by omega) (by omega) (by first | exact cnt1_t g1 (by show sv (i - 1 + 1) s9 ≠ -1; rw [Int.sub_add_cancel]; assumption) g4 | exact cnt1_f g1 (fun z => z (by show sv (i - 1 + 1) s9 = -1; rw [Int.sub_add_cancel]; assumption)) g4) (by first | exact nth1_t g5 g4 (by assumption) | exact nth1_f g5 (fun z => z (by show sv (i - 1 + 1) s9 = -1; rw [Int.sub_add_cancel]; assumption))) (by omega)
          · refine st_iload C dX3_changeAt_30 rfl ?_
            exact st_ireturn C F dX3_changeAt_32 rfl (rt_i (by have e9 := nth_at (by omega) (by omega) (by show sv (i - 1 + 1) s9 ≠ -1; rw [Int.sub_add_cancel]; assumption) g4 (by omega) g5 hr; rw [if_neg (by omega)]; omega) rfl) (by omega) (by omega)
  exact loop_5 _ 0 1 (by omega) (by omega) (by omega) (cnt_0) (nth_0) (Nat.lt_succ_self _)
set_option maxRecDepth 20000 in
set_option maxHeartbeats 4000000 in
theorem k_hFull_f {g : Gx} {h : HP} {k S G : Nat} {nw mcn : Int} (hk : h k = some (oO 2 [vI nw, vR S, vR G, vI mcn])) (hP : nw ≤ 39) : Ct g yX3_isFull (.code yX3_isFull cX3_isFull 1 (some .boolean)) 1 0 0 [vR k] h (Rt (some (vI 0)) h) := by
  refine Ct.of (by decide) (Nat.le_of_ble_eq_true rfl) (fun x hg C F => ?_)
  subst hg
  show T x 0 [(0, vR k)] [] h 0 0
  refine st_aload_n C 0 dX3_isFull_0 rfl rfl ?_
  refine st_getf C dX3_isFull_1 fl_X3_9 hk rfl ?_
  refine st_bipush C dX3_isFull_4 (by decide) (by decide) ?_
  refine st_icmp_lt (tgt := 13) C dX3_isFull_6 (by decide) (fun c_6 => ?_) (fun c_6 => by omega)
  refine st_iconst C dX3_isFull_13 (by decide) ?_
  exact st_zreturn C F dX3_isFull_14 rfl (by omega) ⟨rfl, rfl⟩ (by omega) (by omega)
set_option maxRecDepth 20000 in
set_option maxHeartbeats 4000000 in
theorem k_hFull_t {g : Gx} {h : HP} {k S G : Nat} {nw mcn : Int} (hk : h k = some (oO 2 [vI nw, vR S, vR G, vI mcn])) (hP : 40 ≤ nw) : Ct g yX3_isFull (.code yX3_isFull cX3_isFull 1 (some .boolean)) 1 0 0 [vR k] h (Rt (some (vI 1)) h) := by
  refine Ct.of (by decide) (Nat.le_of_ble_eq_true rfl) (fun x hg C F => ?_)
  subst hg
  show T x 0 [(0, vR k)] [] h 0 0
  refine st_aload_n C 0 dX3_isFull_0 rfl rfl ?_
  refine st_getf C dX3_isFull_1 fl_X3_9 hk rfl ?_
  refine st_bipush C dX3_isFull_4 (by decide) (by decide) ?_
  refine st_icmp_lt (tgt := 13) C dX3_isFull_6 (by decide) (fun c_6 => by omega) (fun c_6 => ?_)
  refine st_iconst C dX3_isFull_9 (by decide) ?_
  refine st_goto (tgt := 14) C dX3_isFull_10 (by decide) ?_
  exact st_zreturn C F dX3_isFull_14 rfl (by omega) ⟨rfl, rfl⟩ (by omega) (by omega)
/-- the heap behind History.add -/
def addH (h : HP) (k S G p q : Nat) (nw mcn : Int) (sf : Int → Option Nat) (bf af : Int → Int) : HP :=
  hput (hput (hput (hput (hput h k (oO 2 [vI (nw + 1), vR S, vR G, vI mcn])) (stN (nw + 1)) (oO 6 [vN])) (stN (nw + 1) + 1) (oI 304 (fmix (stpF bf af) (fun _ => 0) 304))) (stN (nw + 1)) (oO 6 [vR (stN (nw + 1) + 1)])) S (oA 7 41 (fput sf (nw + 1) (some (stN (nw + 1)))))
set_option maxRecDepth 20000 in
set_option maxHeartbeats 4000000 in
theorem k_hAdd {g : Gx} {h : HP} {k S G : Nat} {nw mcn : Int} {p q : Nat} {sf : Int → Option Nat} {bf af : Int → Int} (hk : h k = some (oO 2 [vI nw, vR S, vR G, vI mcn])) (hS : h S = some (oA 7 41 sf)) (hn : 0 ≤ nw ∧ nw ≤ 39) (hf0 : h (stN (nw + 1)) = none) (hf1 : h (stN (nw + 1) + 1) = none) (hp : h p = some (oI 304 bf)) (hq : h q = some (oI 304 af)) (n1 : k < 100) (n2 : S < 100) (n3 : p < 100) (n4 : q < 100) (n5 : S ≠ k) (n6 : p ≠ k) (n7 : q ≠ k) : Ct g yX3_add (.code yX3_add cX3_add 3 none) 2 2 305 [vR k, vR p, vR q] h (Rt none (addH h k S G p q nw mcn sf bf af)) := by
  refine Ct.of (by decide) (Nat.le_of_ble_eq_true rfl) (fun x hg C F => ?_)
  subst hg
  have hge : 102 ≤ stN (nw + 1) := stN_ge (by omega)
  show T x 0 [(0, vR k), (1, vR p), (2, vR q)] [] h 0 0
  refine st_aload_n C 0 dX3_add_0 rfl rfl ?_
  have b_1 : ¬ (40 ≤ nw) := by omega
  refine st_callV (st := []) C dX3_add_1 [] (k_hFull_f hk (by omega)) hk w_X3_28 rfl (by decide) (by decide) (by omega) (by omega) (Nat.le_of_ble_eq_true rfl) (ko_rt ?_)
  show T x 4 [(0, vR k), (1, vR p), (2, vR q)] [vI 0] _ _ _
  refine st_if_eq (tgt := 8) C dX3_add_4 (by decide) (fun c_4 => ?_) (fun c_4 => by omega)
  refine st_aload_n C 0 dX3_add_8 rfl rfl ?_
  refine st_dup C dX3_add_9 rfl ?_
  refine st_getf C dX3_add_10 fl_X3_9 hk rfl ?_
  refine st_iconst C dX3_add_13 (by decide) ?_
  refine st_iadd C dX3_add_14 ⟨(by omega), (by omega)⟩ ?_
  refine st_putf C dX3_add_15 fp_X3_9 (fun q => by cases q) hk (Nat.le_of_ble_eq_true rfl) fit_int ?_
  show T x 18 [(0, vR k), (1, vR p), (2, vR q)] [] (hput h k (oO 2 [vI (nw + 1), vR S, vR G, vI mcn])) _ _
  refine st_aload_n C 0 dX3_add_18 rfl rfl ?_
  refine st_getf C dX3_add_19 fl_X3_17 hput_s rfl ?_
  refine st_aload_n C 0 dX3_add_22 rfl rfl ?_
  refine st_getf C dX3_add_23 fl_X3_9 hput_s rfl ?_
  refine st_new C dX3_add_26 (stN (nw + 1)) nw_X3_15 (hput_o (by omega) hf0) (by omega) (by show _ + 1 ≤ _; omega) ?_
  show T x 29 [(0, vR k), (1, vR p), (2, vR q)] [vR (stN (nw + 1)), vI (nw + 1), vR S] (hput (hput h k (oO 2 [vI (nw + 1), vR S, vR G, vI mcn])) (stN (nw + 1)) (oO 6 [vN])) (0 + 1) (0 + 1)
  refine st_dup C dX3_add_29 rfl ?_
  refine st_aload_n C 1 dX3_add_30 rfl rfl ?_
  refine st_aload_n C 2 dX3_add_31 rfl rfl ?_
  refine st_callI (st := [vR (stN (nw + 1)), vI (nw + 1), vR S]) C dX3_add_32 [vR p, vR q] (k_Step (k := (stN (nw + 1))) (p := p) (q := q) hput_s (hput_o (by omega) (hput_o (by omega) hf1)) (hput_o (by omega) (hput_o (by omega) hp)) (hput_o (by omega) (hput_o (by omega) hq)) (by omega) (by omega) (by omega) (by omega)) (fun _ _ q => by cases q.1) w_X3_32 rfl (by decide) (by decide) (by omega) (by omega) (Nat.le_of_ble_eq_true rfl) (ko_rn ?_)
  show T x 35 [(0, vR k), (1, vR p), (2, vR q)] [vR (stN (nw + 1)), vI (nw + 1), vR S] (hput (hput (hput (hput h k (oO 2 [vI (nw + 1), vR S, vR G, vI mcn])) (stN (nw + 1)) (oO 6 [vN])) (stN (nw + 1) + 1) (oI 304 (fmix (stpF bf af) (fun _ => 0) 304))) (stN (nw + 1)) (oO 6 [vR (stN (nw + 1) + 1)])) _ _
  refine st_aast (r := (RX7, TX7, 1)) C dX3_add_35 (fun _ => rfl) rfl (hput_o (by omega) (hput_o (by omega) (hput_o (by omega) (hput_o (by omega) hS)))) hput_s (by omega) (by omega) ?_
  exact st_return C F dX3_add_36 rfl ⟨rfl, rfl⟩ (by omega) (by omega)
set_option maxRecDepth 20000 in
set_option maxHeartbeats 4000000 in
theorem k_remember {g : Gx} {h : HP} {k S G : Nat} {nw mcn : Int} {gf : Int → Int} (hk : h k = some (oO 2 [vI nw, vR S, vR G, vI mcn])) (hG : h G = some (oI 40 gf)) (hm : 0 ≤ mcn ∧ mcn ≤ 39) (n1 : G ≠ k) : Ct g yX3_rememberMerge (.code yX3_rememberMerge cX3_rememberMerge 1 none) 1 0 0 [vR k] h (Rt none (hput (hput h G (oI 40 (fput gf mcn nw))) k (oO 2 [vI nw, vR S, vR G, vI (mcn + 1)]))) := by
  refine Ct.of (by decide) (Nat.le_of_ble_eq_true rfl) (fun x hg C F => ?_)
  subst hg
  show T x 0 [(0, vR k)] [] h 0 0
  refine st_aload_n C 0 dX3_rememberMerge_0 rfl rfl ?_
  refine st_getf C dX3_rememberMerge_1 fl_X3_25 hk rfl ?_
  refine st_bipush C dX3_rememberMerge_4 (by decide) (by decide) ?_
  refine st_icmp_ge (tgt := 32) C dX3_rememberMerge_6 (by decide) (fun c_6 => by omega) (fun c_6 => ?_)
  refine st_aload_n C 0 dX3_rememberMerge_9 rfl rfl ?_
  refine st_getf C dX3_rememberMerge_10 fl_X3_21 hk rfl ?_
  refine st_aload_n C 0 dX3_rememberMerge_13 rfl rfl ?_
  refine st_getf C dX3_rememberMerge_14 fl_X3_25 hk rfl ?_
  refine st_aload_n C 0 dX3_rememberMerge_17 rfl rfl ?_
  refine st_getf C dX3_rememberMerge_18 fl_X3_9 hk rfl ?_
  refine st_iast C dX3_rememberMerge_21 hG (by omega) (by omega) ?_
  refine st_aload_n C 0 dX3_rememberMerge_22 rfl rfl ?_
  refine st_dup C dX3_rememberMerge_23 rfl ?_
  refine st_getf C dX3_rememberMerge_24 fl_X3_25 (hput_o (by omega) hk) rfl ?_
  refine st_iconst C dX3_rememberMerge_27 (by decide) ?_
  refine st_iadd C dX3_rememberMerge_28 ⟨(by omega), (by omega)⟩ ?_
  refine st_putf C dX3_rememberMerge_29 fp_X3_25 (fun q => by cases q) (hput_o (by omega) hk) (Nat.le_of_ble_eq_true rfl) fit_int ?_
  show T x 32 [(0, vR k)] [] (hput (hput h G (oI 40 (fput gf mcn nw))) k (oO 2 [vI nw, vR S, vR G, vI (mcn + 1)])) _ _
  exact st_return C F dX3_rememberMerge_32 rfl ⟨rfl, rfl⟩ (by omega) (by omega)
set_option maxRecDepth 20000 in
set_option maxHeartbeats 4000000 in
theorem k_forget {g : Gx} {h : HP} {k S G : Nat} {nw mcn : Int} (hk : h k = some (oO 2 [vI nw, vR S, vR G, vI mcn])) (hm : 1 ≤ mcn ∧ mcn ≤ 40) : Ct g yX3_forgetMerge (.code yX3_forgetMerge cX3_forgetMerge 1 none) 1 0 0 [vR k] h (Rt none (hput h k (oO 2 [vI nw, vR S, vR G, vI (mcn - 1)]))) := by
  refine Ct.of (by decide) (Nat.le_of_ble_eq_true rfl) (fun x hg C F => ?_)
  subst hg
  show T x 0 [(0, vR k)] [] h 0 0
  refine st_aload_n C 0 dX3_forgetMerge_0 rfl rfl ?_
  refine st_getf C dX3_forgetMerge_1 fl_X3_25 hk rfl ?_
  refine st_if_le (tgt := 17) C dX3_forgetMerge_4 (by decide) (fun c_4 => by omega) (fun c_4 => ?_)
  refine st_aload_n C 0 dX3_forgetMerge_7 rfl rfl ?_
  refine st_dup C dX3_forgetMerge_8 rfl ?_
  refine st_getf C dX3_forgetMerge_9 fl_X3_25 hk rfl ?_
  refine st_iconst C dX3_forgetMerge_12 (by decide) ?_
  refine st_isub C dX3_forgetMerge_13 ⟨(by omega), (by omega)⟩ ?_
  refine st_putf C dX3_forgetMerge_14 fp_X3_25 (fun q => by cases q) hk (Nat.le_of_ble_eq_true rfl) fit_int ?_
  show T x 17 [(0, vR k)] [] (hput h k (oO 2 [vI nw, vR S, vR G, vI (mcn - 1)])) _ _
  exact st_return C F dX3_forgetMerge_17 rfl ⟨rfl, rfl⟩ (by omega) (by omega)
set_option maxRecDepth 20000 in
set_option maxHeartbeats 4000000 in
theorem k_lastMerge {g : Gx} {h : HP} {k S G : Nat} {nw mcn : Int} {gf : Int → Int} (hk : h k = some (oO 2 [vI nw, vR S, vR G, vI mcn])) (hG : h G = some (oI 40 gf)) (hm : 0 ≤ mcn ∧ mcn ≤ 40) : Ct g yX3_lastMerge (.code yX3_lastMerge cX3_lastMerge 1 (some .int)) 1 0 0 [vR k] h (Rt (some (vI (if mcn = 0 then -1 else gf (mcn - 1)))) h) := by
  refine Ct.of (by decide) (Nat.le_of_ble_eq_true rfl) (fun x hg C F => ?_)
  subst hg
  show T x 0 [(0, vR k)] [] h 0 0
  refine st_aload_n C 0 dX3_lastMerge_0 rfl rfl ?_
  refine st_getf C dX3_lastMerge_1 fl_X3_25 hk rfl ?_
  refine st_if_le (tgt := 30) C dX3_lastMerge_4 (by decide) (fun c_4 => ?_) (fun c_4 => ?_)
  · refine st_iconst C dX3_lastMerge_30 (by decide) ?_
    exact st_ireturn C F dX3_lastMerge_31 rfl (rt_i (by first | rw [if_neg (by omega)] | rw [if_pos (by omega)]) rfl) (by omega) (by omega)
  · refine st_aload_n C 0 dX3_lastMerge_7 rfl rfl ?_
    refine st_getf C dX3_lastMerge_8 fl_X3_25 hk rfl ?_
    refine st_bipush C dX3_lastMerge_11 (by decide) (by decide) ?_
    refine st_icmp_gt (tgt := 30) C dX3_lastMerge_13 (by decide) (fun c_13 => by omega) (fun c_13 => ?_)
    refine st_aload_n C 0 dX3_lastMerge_16 rfl rfl ?_
    refine st_getf C dX3_lastMerge_17 fl_X3_21 hk rfl ?_
    refine st_aload_n C 0 dX3_lastMerge_20 rfl rfl ?_
    refine st_getf C dX3_lastMerge_21 fl_X3_25 hk rfl ?_
    refine st_iconst C dX3_lastMerge_24 (by decide) ?_
    refine st_isub C dX3_lastMerge_25 ⟨(by omega), (by omega)⟩ ?_
    refine st_iald C dX3_lastMerge_26 hG (by omega) (by omega) ?_
    refine st_goto (tgt := 31) C dX3_lastMerge_27 (by decide) ?_
    exact st_ireturn C F dX3_lastMerge_31 rfl (rt_i (by first | rw [if_neg (by omega)] | rw [if_pos (by omega)]) rfl) (by omega) (by omega)
