set_option maxRecDepth 20000 in
set_option maxHeartbeats 4000000 in
theorem k_firstBroken {g : Gx} {h : HP} {rc dc : Int} {rk ra rb : Int → Int} {rn : Int → Nat} {r : Nat} {rf : Int → Int} {r9 : Int} (hs : cS h rc dc) (hR : cR h rc rk ra rb rn) (hrc : 0 ≤ rc ∧ rc ≤ 6) (hok : ∀ i, 0 ≤ i → i < rc → RuleOk (rk i) (ra i) (rb i)) (hX : cX h) (hr : h r = some (oI 304 rf)) (n4 : r ≠ 14) (n5 : r ≠ 15) (hF : IsFirst (fun i => ¬ RuleHolds (rk i) (ra i) (rb i) rf) rc r9) : Ct g yX10_firstBroken (.code yX10_firstBroken cX10_firstBroken 4 (some .int)) 6 0 0 [vR 0, vR r] h (RtS (vI r9) h 14 15 (fun _ => True)) := by
  refine Ct.of (by decide) (Nat.le_of_ble_eq_true rfl) (fun x hg C F => ?_)
  subst hg
  obtain ⟨ruf, hrf, hrr⟩ := id hR
  obtain ⟨hx9, ⟨qa, hx14⟩, sa, hx15⟩ := id hX
  show T x 0 [(0, vR 0), (1, vR r)] [] h 0 0
  refine st_iconst C dX10_firstBroken_0 (by decide) ?_
  refine st_istore_n C 2 dX10_firstBroken_1 rfl (by decide) rfl ?_
  show T x 2 [(0, vR 0), (1, vR r), (2, vI 0)] [] _ _ _
  have loop_2 : ∀ (n_2 : Nat) (q1 : Int → Int) (s1 : Int → Int) (i : Int) (h1 : HP), (0 ≤ i) → (i ≤ rc) → (∀ j, 0 ≤ j → j < i → ¬ ¬ RuleHolds (rk j) (ra j) (rb j) rf) → (h1 = sc h 14 15 q1 s1) → (rc - i).toNat < n_2 → T x 2 [(0, vR 0), (1, vR r), (2, vI i)] [] h1 0 0 := by
    intro n_2
    induction n_2 with
    | zero => intro q1 s1 i h1 g1 g2 g3 hh hm_2; exact absurd hm_2 (Nat.not_lt_zero _)
    | succ n_2 ih_2 =>
      intro q1 s1 i h1 g1 g2 g3 hh hm_2
      refine st_iload_n C 2 dX10_firstBroken_2 rfl rfl ?_
      refine st_aload_n C 0 dX10_firstBroken_3 rfl rfl ?_
      refine st_getf C dX10_firstBroken_4 fl_X10_22 (by rw [hh]; exact sc_o (by omega) (by omega) hs) rfl ?_
      refine st_icmp_ge (tgt := 47) C dX10_firstBroken_7 (by decide) (fun c_7 => ?_) (fun c_7 => ?_)
      · refine st_iconst C dX10_firstBroken_47 (by decide) ?_
        exact st_ireturn C F dX10_firstBroken_48 rfl (rs_i (first_no (by omega) g3 hF) hh trivial) (by omega) (by omega)
      · refine st_iload_n C 2 dX10_firstBroken_10 rfl rfl ?_
        refine st_bipush C dX10_firstBroken_11 (by decide) (by decide) ?_
        refine st_icmp_ge (tgt := 47) C dX10_firstBroken_13 (by decide) (fun c_13 => by omega) (fun c_13 => ?_)
        refine st_aload_n C 0 dX10_firstBroken_16 rfl rfl ?_
        refine st_getf C dX10_firstBroken_17 fl_X10_18 (by rw [hh]; exact sc_o (by omega) (by omega) hs) rfl ?_
        refine st_iload_n C 2 dX10_firstBroken_20 rfl rfl ?_
        refine st_aald C dX10_firstBroken_21 RX5 (fun _ => rfl) (by rw [hh]; exact sc_o (by omega) (by omega) hrf) (by omega) (by omega) ?_
        obtain ⟨u1, u2, u3⟩ := hrr i (by omega) (by omega)
        rw [u1]
        show T x 22 [(0, vR 0), (1, vR r), (2, vI i)] [vR (rn i)] _ _ _
        refine st_astore_n C 3 dX10_firstBroken_22 rfl (by decide) rfl ?_
        show T x 23 [(0, vR 0), (1, vR r), (2, vI i), (3, vR (rn i))] [] _ _ _
        refine st_aload_n C 3 dX10_firstBroken_23 rfl rfl ?_
        refine st_ifnull_r C dX10_firstBroken_24 ?_
        refine st_aload_n C 3 dX10_firstBroken_27 rfl rfl ?_
        refine st_aload_n C 1 dX10_firstBroken_28 rfl rfl ?_
        refine st_aload_n C 0 dX10_firstBroken_29 rfl rfl ?_
        refine st_getf C dX10_firstBroken_30 fl_X10_65 (by rw [hh]; exact sc_o (by omega) (by omega) hs) rfl ?_
        by_cases b_33 : RuleHolds (rk i) (ra i) (rb i) rf
        · refine st_callV (st := []) C dX10_firstBroken_33 [vR r, vR 9] (k_holdsIn_t (k9 := (rk i)) (a9 := (ra i)) (b9 := (rb i)) (rf := rf) (by rw [hh]; exact sc_o (by omega) (by omega) u3) (by rw [hh]; exact sc_o (by omega) (by omega) hr) (by rw [hh]; exact sc_o (by omega) (by omega) hx9) (by rw [hh]; exact sc_Q (by omega)) (by rw [hh]; exact sc_S) (by omega) (by omega) (by omega) (by omega) (by omega) (by omega) (by omega) (hok i (by omega) (by omega)) b_33) (by rw [hh]; exact sc_o (by omega) (by omega) u3) w_X10_88 rfl (by decide) (by decide) (by omega) (by omega) (Nat.le_of_ble_eq_true rfl) (ko_rs (fun q2 s2 _ => ?_))
          show T x 36 [(0, vR 0), (1, vR r), (2, vI i), (3, vR (rn i))] [vI 1] _ _ _
          refine st_if_ne (tgt := 41) C dX10_firstBroken_36 (by decide) (fun c_36 => ?_) (fun c_36 => by omega)
          refine st_iinc C dX10_firstBroken_41 rfl (by decide) rfl ⟨(by omega), (by omega)⟩ ?_
          show T x 44 [(0, vR 0), (1, vR r), (2, vI (i + 1)), (3, vR (rn i))] [] _ _ _
          refine st_goto (tgt := 2) C dX10_firstBroken_44 (by decide) ?_
          refine st_sub [0, 1, 2] rfl ?_
          exact ih_2 q2 s2 (i + 1) (sc h1 14 15 q2 s2) (by omega) (by omega) (no_s (P := (fun i => ¬ RuleHolds (rk i) (ra i) (rb i) rf)) g3 (fun z9 => z9 (by assumption))) (by rw [hh]; exact sc_sc (by omega)) (by omega)
        · refine st_callV (st := []) C dX10_firstBroken_33 [vR r, vR 9] (k_holdsIn_f (k9 := (rk i)) (a9 := (ra i)) (b9 := (rb i)) (rf := rf) (by rw [hh]; exact sc_o (by omega) (by omega) u3) (by rw [hh]; exact sc_o (by omega) (by omega) hr) (by rw [hh]; exact sc_o (by omega) (by omega) hx9) (by rw [hh]; exact sc_Q (by omega)) (by rw [hh]; exact sc_S) (by omega) (by omega) (by omega) (by omega) (by omega) (by omega) (by omega) (hok i (by omega) (by omega)) b_33) (by rw [hh]; exact sc_o (by omega) (by omega) u3) w_X10_88 rfl (by decide) (by decide) (by omega) (by omega) (Nat.le_of_ble_eq_true rfl) (ko_rs (fun q2 s2 _ => ?_))
          show T x 36 [(0, vR 0), (1, vR r), (2, vI i), (3, vR (rn i))] [vI 0] _ _ _
          refine st_if_ne (tgt := 41) C dX10_firstBroken_36 (by decide) (fun c_36 => by omega) (fun c_36 => ?_)
          refine st_iload_n C 2 dX10_firstBroken_39 rfl rfl ?_
          exact st_ireturn C F dX10_firstBroken_40 rfl (rs_i (first_at g1 (by omega) g3 (by assumption) hF) (by rw [hh]; exact sc_sc (by omega)) trivial) (by omega) (by omega)
  exact loop_2 _ qa sa 0 h (by omega) (by omega) (fun j q1 q2 => absurd q2 (by omega)) (sc_0 hx14 hx15) (Nat.lt_succ_self _)
set_option maxRecDepth 20000 in
set_option maxHeartbeats 4000000 in
theorem s_version {g : Gx} {h : HP} {rc dc : Int} {nw mcn : Int} {sv : Int → Int → Int} {gf : Int → Int} (hs : cS h rc dc) (hH : cH h nw mcn sv gf) (hnw : 0 ≤ nw ∧ nw ≤ 40) : Ct g yX10_version (.code yX10_version cX10_version 1 (some .int)) 1 1 6 [vR 0] h (Rt (some (vI nw)) h) := by
  refine Ct.of (by decide) (Nat.le_of_ble_eq_true rfl) (fun x hg C F => ?_)
  subst hg
  obtain ⟨stf, hHR, hH12, hHn⟩ := id hH
  have hH6 := hHR.1
  have hH11 := hHR.2.1
  show T x 0 [(0, vR 0)] [] h 0 0
  refine st_aload_n C 0 dX10_version_0 rfl rfl ?_
  refine st_getf C dX10_version_1 fl_X10_44 hs rfl ?_
  refine st_getf C dX10_version_4 fl_X10_213 hH6 rfl ?_
  exact st_ireturn C F dX10_version_7 rfl (by first | exact ⟨by with_reducible rfl, by with_reducible rfl⟩ | (exfalso; omega) | exact absurd (by assumption) hQ | exact absurd hQ (by assumption)) (by omega) (by omega)
set_option maxRecDepth 20000 in
set_option maxHeartbeats 4000000 in
theorem s_value_x1 {g : Gx} {h : HP} {rc dc : Int} {nw mcn : Int} {sv : Int → Int → Int} {gf : Int → Int} {s9 v9 : Int} (hs : cS h rc dc) (hH : cH h nw mcn sv gf) (hnw : 0 ≤ nw ∧ nw ≤ 40) (hQ : ¬ ((0 ≤ s9 ∧ s9 ≤ 303) ∧ 0 ≤ v9 ∧ v9 ≤ nw)) : Ct g yX10_value (.code yX10_value cX10_value 3 (some .int)) 7 1 6 [vR 0, vI s9, vI v9] h (Th "java/lang/IllegalArgumentException" h) := by
  refine Ct.of (by decide) (Nat.le_of_ble_eq_true rfl) (fun x hg C F => ?_)
  subst hg
  obtain ⟨stf, hHR, hH12, hHn⟩ := id hH
  have hH6 := hHR.1
  have hH11 := hHR.2.1
  show T x 0 [(0, vR 0), (1, vI s9), (2, vI v9)] [] h 0 0
  refine st_iload_n C 1 dX10_value_0 rfl rfl ?_
  by_cases b_1 : 0 ≤ s9 ∧ s9 ≤ 303
  · refine st_callS (st := []) C dX10_value_1 [vI s9] (k_isSpot_t (v9 := s9)  b_1) w_X10_138 rfl (by decide) (by decide) (by omega) (by omega) (Nat.le_of_ble_eq_true rfl) (ko_rt ?_)
    show T x 4 [(0, vR 0), (1, vI s9), (2, vI v9)] [vI 1] _ _ _
    refine st_if_eq (tgt := 25) C dX10_value_4 (by decide) (fun c_4 => by omega) (fun c_4 => ?_)
    refine st_iload_n C 2 dX10_value_7 rfl rfl ?_
    refine st_aload_n C 0 dX10_value_8 rfl rfl ?_
    refine st_getf C dX10_value_9 fl_X10_44 hs rfl ?_
    refine st_getf C dX10_value_12 fl_X10_213 hH6 rfl ?_
    by_cases b_15 : 0 ≤ v9 ∧ v9 ≤ nw
    · refine st_callS (st := []) C dX10_value_15 [vI v9, vI nw] (k_isWithin_t (v9 := v9) (m9 := nw)  b_15) w_X10_118 rfl (by decide) (by decide) (by omega) (by omega) (Nat.le_of_ble_eq_true rfl) (ko_rt ?_)
      show T x 18 [(0, vR 0), (1, vI s9), (2, vI v9)] [vI 1] _ _ _
      refine st_if_eq (tgt := 25) C dX10_value_18 (by decide) (fun c_18 => by omega) (fun c_18 => ?_)
      refine st_iconst C dX10_value_21 (by decide) ?_
      refine st_goto (tgt := 26) C dX10_value_22 (by decide) ?_
      refine st_callS (st := []) C dX10_value_26 [vI 1] k_need_t w_X10_81 rfl (by decide) (by decide) (by omega) (by omega) (Nat.le_of_ble_eq_true rfl) (ko_rn ?_)
      show T x 29 [(0, vR 0), (1, vI s9), (2, vI v9)] [] _ _ _
      refine st_aload_n C 0 dX10_value_29 rfl rfl ?_
      refine st_getf C dX10_value_30 fl_X10_44 hs rfl ?_
      refine st_iload_n C 1 dX10_value_33 rfl rfl ?_
      refine st_iload_n C 2 dX10_value_34 rfl rfl ?_
      refine st_callV (st := []) C dX10_value_35 [vI s9, vI v9] (k_valueAt (nw := nw) (mcn := mcn) (sf := stf) (sv := sv) (s9 := s9) (v9 := v9) hHR hnw (by omega) (by omega)) hH6 w_X10_216 rfl (by decide) (by decide) (by omega) (by omega) (Nat.le_of_ble_eq_true rfl) (ko_rt ?_)
      show T x 38 [(0, vR 0), (1, vI s9), (2, vI v9)] [vI (vA sv s9 v9)] _ _ _
      exact st_ireturn C F dX10_value_38 rfl (by first | exact ⟨by with_reducible rfl, by with_reducible rfl⟩ | (exfalso; omega) | exact absurd (by assumption) hQ | exact absurd hQ (by assumption)) (by omega) (by omega)
    · refine st_callS (st := []) C dX10_value_15 [vI v9, vI nw] (k_isWithin_f (v9 := v9) (m9 := nw)  b_15) w_X10_118 rfl (by decide) (by decide) (by omega) (by omega) (Nat.le_of_ble_eq_true rfl) (ko_rt ?_)
      show T x 18 [(0, vR 0), (1, vI s9), (2, vI v9)] [vI 0] _ _ _
      refine st_if_eq (tgt := 25) C dX10_value_18 (by decide) (fun c_18 => ?_) (fun c_18 => by omega)
      refine st_iconst C dX10_value_25 (by decide) ?_
      refine st_callS (st := []) C dX10_value_26 [vI 0] k_need_f w_X10_81 rfl (by decide) (by decide) (by omega) (by omega) (Nat.le_of_ble_eq_true rfl) (ko_th ?_)
      exact st_out C F (by first | exact ⟨rfl, rfl⟩ | (exfalso; omega) | exact absurd (by assumption) hQ | exact absurd hQ (by assumption)) (by omega) (by omega)
  · refine st_callS (st := []) C dX10_value_1 [vI s9] (k_isSpot_f (v9 := s9)  b_1) w_X10_138 rfl (by decide) (by decide) (by omega) (by omega) (Nat.le_of_ble_eq_true rfl) (ko_rt ?_)
    show T x 4 [(0, vR 0), (1, vI s9), (2, vI v9)] [vI 0] _ _ _
    refine st_if_eq (tgt := 25) C dX10_value_4 (by decide) (fun c_4 => ?_) (fun c_4 => by omega)
    refine st_iconst C dX10_value_25 (by decide) ?_
    refine st_callS (st := []) C dX10_value_26 [vI 0] k_need_f w_X10_81 rfl (by decide) (by decide) (by omega) (by omega) (Nat.le_of_ble_eq_true rfl) (ko_th ?_)
    exact st_out C F (by first | exact ⟨rfl, rfl⟩ | (exfalso; omega) | exact absurd (by assumption) hQ | exact absurd hQ (by assumption)) (by omega) (by omega)
set_option maxRecDepth 20000 in
set_option maxHeartbeats 4000000 in
theorem s_value {g : Gx} {h : HP} {rc dc : Int} {nw mcn : Int} {sv : Int → Int → Int} {gf : Int → Int} {s9 v9 : Int} (hs : cS h rc dc) (hH : cH h nw mcn sv gf) (hnw : 0 ≤ nw ∧ nw ≤ 40) (hQ : (0 ≤ s9 ∧ s9 ≤ 303) ∧ 0 ≤ v9 ∧ v9 ≤ nw) : Ct g yX10_value (.code yX10_value cX10_value 3 (some .int)) 7 1 6 [vR 0, vI s9, vI v9] h (Rt (some (vI (vA sv s9 v9))) h) := by
  refine Ct.of (by decide) (Nat.le_of_ble_eq_true rfl) (fun x hg C F => ?_)
  subst hg
  obtain ⟨stf, hHR, hH12, hHn⟩ := id hH
  have hH6 := hHR.1
  have hH11 := hHR.2.1
  show T x 0 [(0, vR 0), (1, vI s9), (2, vI v9)] [] h 0 0
  refine st_iload_n C 1 dX10_value_0 rfl rfl ?_
  have b_1 : 0 ≤ s9 ∧ s9 ≤ 303 := by omega
  refine st_callS (st := []) C dX10_value_1 [vI s9] (k_isSpot_t (v9 := s9)  b_1) w_X10_138 rfl (by decide) (by decide) (by omega) (by omega) (Nat.le_of_ble_eq_true rfl) (ko_rt ?_)
  show T x 4 [(0, vR 0), (1, vI s9), (2, vI v9)] [vI 1] _ _ _
  refine st_if_eq (tgt := 25) C dX10_value_4 (by decide) (fun c_4 => by omega) (fun c_4 => ?_)
  refine st_iload_n C 2 dX10_value_7 rfl rfl ?_
  refine st_aload_n C 0 dX10_value_8 rfl rfl ?_
  refine st_getf C dX10_value_9 fl_X10_44 hs rfl ?_
  refine st_getf C dX10_value_12 fl_X10_213 hH6 rfl ?_
  have b_15 : 0 ≤ v9 ∧ v9 ≤ nw := by omega
  refine st_callS (st := []) C dX10_value_15 [vI v9, vI nw] (k_isWithin_t (v9 := v9) (m9 := nw)  b_15) w_X10_118 rfl (by decide) (by decide) (by omega) (by omega) (Nat.le_of_ble_eq_true rfl) (ko_rt ?_)
  show T x 18 [(0, vR 0), (1, vI s9), (2, vI v9)] [vI 1] _ _ _
  refine st_if_eq (tgt := 25) C dX10_value_18 (by decide) (fun c_18 => by omega) (fun c_18 => ?_)
  refine st_iconst C dX10_value_21 (by decide) ?_
  refine st_goto (tgt := 26) C dX10_value_22 (by decide) ?_
  refine st_callS (st := []) C dX10_value_26 [vI 1] k_need_t w_X10_81 rfl (by decide) (by decide) (by omega) (by omega) (Nat.le_of_ble_eq_true rfl) (ko_rn ?_)
  show T x 29 [(0, vR 0), (1, vI s9), (2, vI v9)] [] _ _ _
  refine st_aload_n C 0 dX10_value_29 rfl rfl ?_
  refine st_getf C dX10_value_30 fl_X10_44 hs rfl ?_
  refine st_iload_n C 1 dX10_value_33 rfl rfl ?_
  refine st_iload_n C 2 dX10_value_34 rfl rfl ?_
  refine st_callV (st := []) C dX10_value_35 [vI s9, vI v9] (k_valueAt (nw := nw) (mcn := mcn) (sf := stf) (sv := sv) (s9 := s9) (v9 := v9) hHR hnw (by omega) (by omega)) hH6 w_X10_216 rfl (by decide) (by decide) (by omega) (by omega) (Nat.le_of_ble_eq_true rfl) (ko_rt ?_)
  show T x 38 [(0, vR 0), (1, vI s9), (2, vI v9)] [vI (vA sv s9 v9)] _ _ _
  exact st_ireturn C F dX10_value_38 rfl (by first | exact ⟨by with_reducible rfl, by with_reducible rfl⟩ | (exfalso; omega) | exact absurd (by assumption) hQ | exact absurd hQ (by assumption)) (by omega) (by omega)
set_option maxRecDepth 20000 in
set_option maxHeartbeats 4000000 in
theorem s_changes_x1 {g : Gx} {h : HP} {rc dc : Int} {nw mcn : Int} {sv : Int → Int → Int} {gf : Int → Int} {s9 : Int} (hs : cS h rc dc) (hH : cH h nw mcn sv gf) (hnw : 0 ≤ nw ∧ nw ≤ 40) (hQ : ¬ (0 ≤ s9 ∧ s9 ≤ 303)) : Ct g yX10_changes (.code yX10_changes cX10_changes 2 (some .int)) 7 1 6 [vR 0, vI s9] h (Th "java/lang/IllegalArgumentException" h) := by
  refine Ct.of (by decide) (Nat.le_of_ble_eq_true rfl) (fun x hg C F => ?_)
  subst hg
  obtain ⟨stf, hHR, hH12, hHn⟩ := id hH
  have hH6 := hHR.1
  have hH11 := hHR.2.1
  show T x 0 [(0, vR 0), (1, vI s9)] [] h 0 0
  refine st_iload_n C 1 dX10_changes_0 rfl rfl ?_
  by_cases b_1 : 0 ≤ s9 ∧ s9 ≤ 303
  · refine st_callS (st := []) C dX10_changes_1 [vI s9] (k_isSpot_t (v9 := s9)  b_1) w_X10_138 rfl (by decide) (by decide) (by omega) (by omega) (Nat.le_of_ble_eq_true rfl) (ko_rt ?_)
    show T x 4 [(0, vR 0), (1, vI s9)] [vI 1] _ _ _
    refine st_callS (st := []) C dX10_changes_4 [vI 1] k_need_t w_X10_81 rfl (by decide) (by decide) (by omega) (by omega) (Nat.le_of_ble_eq_true rfl) (ko_rn ?_)
    show T x 7 [(0, vR 0), (1, vI s9)] [] _ _ _
    refine st_aload_n C 0 dX10_changes_7 rfl rfl ?_
    refine st_getf C dX10_changes_8 fl_X10_44 hs rfl ?_
    refine st_iload_n C 1 dX10_changes_11 rfl rfl ?_
    refine st_callV (st := []) C dX10_changes_12 [vI s9] (k_changeCount (nw := nw) (mcn := mcn) (sf := stf) (sv := sv) (s9 := s9) hHR hnw (by omega)) hH6 w_X10_219 rfl (by decide) (by decide) (by omega) (by omega) (Nat.le_of_ble_eq_true rfl) (ko_rt ?_)
    show T x 15 [(0, vR 0), (1, vI s9)] [vI (cnt (fun j => sv (j + 1) s9 ≠ -1) nw)] _ _ _
    exact st_ireturn C F dX10_changes_15 rfl (by first | exact ⟨by with_reducible rfl, by with_reducible rfl⟩ | (exfalso; omega) | exact absurd (by assumption) hQ | exact absurd hQ (by assumption)) (by omega) (by omega)
  · refine st_callS (st := []) C dX10_changes_1 [vI s9] (k_isSpot_f (v9 := s9)  b_1) w_X10_138 rfl (by decide) (by decide) (by omega) (by omega) (Nat.le_of_ble_eq_true rfl) (ko_rt ?_)
    show T x 4 [(0, vR 0), (1, vI s9)] [vI 0] _ _ _
    refine st_callS (st := []) C dX10_changes_4 [vI 0] k_need_f w_X10_81 rfl (by decide) (by decide) (by omega) (by omega) (Nat.le_of_ble_eq_true rfl) (ko_th ?_)
    exact st_out C F (by first | exact ⟨rfl, rfl⟩ | (exfalso; omega) | exact absurd (by assumption) hQ | exact absurd hQ (by assumption)) (by omega) (by omega)
set_option maxRecDepth 20000 in
set_option maxHeartbeats 4000000 in
theorem s_changes {g : Gx} {h : HP} {rc dc : Int} {nw mcn : Int} {sv : Int → Int → Int} {gf : Int → Int} {s9 : Int} (hs : cS h rc dc) (hH : cH h nw mcn sv gf) (hnw : 0 ≤ nw ∧ nw ≤ 40) (hQ : 0 ≤ s9 ∧ s9 ≤ 303) : Ct g yX10_changes (.code yX10_changes cX10_changes 2 (some .int)) 7 1 6 [vR 0, vI s9] h (Rt (some (vI (cnt (fun j => sv (j + 1) s9 ≠ -1) nw))) h) := by
  refine Ct.of (by decide) (Nat.le_of_ble_eq_true rfl) (fun x hg C F => ?_)
  subst hg
  obtain ⟨stf, hHR, hH12, hHn⟩ := id hH
  have hH6 := hHR.1
  have hH11 := hHR.2.1
  show T x 0 [(0, vR 0), (1, vI s9)] [] h 0 0
  refine st_iload_n C 1 dX10_changes_0 rfl rfl ?_
  have b_1 : 0 ≤ s9 ∧ s9 ≤ 303 := by omega
  refine st_callS (st := []) C dX10_changes_1 [vI s9] (k_isSpot_t (v9 := s9)  b_1) w_X10_138 rfl (by decide) (by decide) (by omega) (by omega) (Nat.le_of_ble_eq_true rfl) (ko_rt ?_)
  show T x 4 [(0, vR 0), (1, vI s9)] [vI 1] _ _ _
  refine st_callS (st := []) C dX10_changes_4 [vI 1] k_need_t w_X10_81 rfl (by decide) (by decide) (by omega) (by omega) (Nat.le_of_ble_eq_true rfl) (ko_rn ?_)
  show T x 7 [(0, vR 0), (1, vI s9)] [] _ _ _
  refine st_aload_n C 0 dX10_changes_7 rfl rfl ?_
  refine st_getf C dX10_changes_8 fl_X10_44 hs rfl ?_
  refine st_iload_n C 1 dX10_changes_11 rfl rfl ?_
  refine st_callV (st := []) C dX10_changes_12 [vI s9] (k_changeCount (nw := nw) (mcn := mcn) (sf := stf) (sv := sv) (s9 := s9) hHR hnw (by omega)) hH6 w_X10_219 rfl (by decide) (by decide) (by omega) (by omega) (Nat.le_of_ble_eq_true rfl) (ko_rt ?_)
  show T x 15 [(0, vR 0), (1, vI s9)] [vI (cnt (fun j => sv (j + 1) s9 ≠ -1) nw)] _ _ _
  exact st_ireturn C F dX10_changes_15 rfl (by first | exact ⟨by with_reducible rfl, by with_reducible rfl⟩ | (exfalso; omega) | exact absurd (by assumption) hQ | exact absurd hQ (by assumption)) (by omega) (by omega)
set_option maxRecDepth 20000 in
set_option maxHeartbeats 4000000 in
theorem s_changed_x1 {g : Gx} {h : HP} {rc dc : Int} {nw mcn : Int} {sv : Int → Int → Int} {gf : Int → Int} {s9 k9 r9 : Int} (hs : cS h rc dc) (hH : cH h nw mcn sv gf) (hnw : 0 ≤ nw ∧ nw ≤ 40) (hQ : ¬ (0 ≤ s9 ∧ s9 ≤ 303)) (hr : IsNth (fun j => sv (j + 1) s9 ≠ -1) nw k9 r9) : Ct g yX10_changed (.code yX10_changed cX10_changed 4 (some .int)) 7 1 6 [vR 0, vI s9, vI k9] h (Th "java/lang/IllegalArgumentException" h) := by
  refine Ct.of (by decide) (Nat.le_of_ble_eq_true rfl) (fun x hg C F => ?_)
  subst hg
  obtain ⟨stf, hHR, hH12, hHn⟩ := id hH
  have hH6 := hHR.1
  have hH11 := hHR.2.1
  show T x 0 [(0, vR 0), (1, vI s9), (2, vI k9)] [] h 0 0
  refine st_iload_n C 1 dX10_changed_0 rfl rfl ?_
  by_cases b_1 : 0 ≤ s9 ∧ s9 ≤ 303
  · refine st_callS (st := []) C dX10_changed_1 [vI s9] (k_isSpot_t (v9 := s9)  b_1) w_X10_138 rfl (by decide) (by decide) (by omega) (by omega) (Nat.le_of_ble_eq_true rfl) (ko_rt ?_)
    show T x 4 [(0, vR 0), (1, vI s9), (2, vI k9)] [vI 1] _ _ _
    refine st_callS (st := []) C dX10_changed_4 [vI 1] k_need_t w_X10_81 rfl (by decide) (by decide) (by omega) (by omega) (Nat.le_of_ble_eq_true rfl) (ko_rn ?_)
    show T x 7 [(0, vR 0), (1, vI s9), (2, vI k9)] [] _ _ _
    refine st_aload_n C 0 dX10_changed_7 rfl rfl ?_
    refine st_getf C dX10_changed_8 fl_X10_44 hs rfl ?_
    refine st_iload_n C 1 dX10_changed_11 rfl rfl ?_
    refine st_iload_n C 2 dX10_changed_12 rfl rfl ?_
    refine st_callV (st := []) C dX10_changed_13 [vI s9, vI k9] (k_changeAt (nw := nw) (mcn := mcn) (sf := stf) (sv := sv) (s9 := s9) (k9 := k9) (r9 := r9) hHR hnw (by omega) hr) hH6 w_X10_222 rfl (by decide) (by decide) (by omega) (by omega) (Nat.le_of_ble_eq_true rfl) (ko_rt ?_)
    show T x 16 [(0, vR 0), (1, vI s9), (2, vI k9)] [vI (if r9 = -1 then -1 else r9 + 1)] _ _ _
    refine st_istore_n C 3 dX10_changed_16 rfl (by decide) rfl ?_
    show T x 17 [(0, vR 0), (1, vI s9), (2, vI k9), (3, vI (if r9 = -1 then -1 else r9 + 1))] [] _ _ _
    refine st_iload_n C 3 dX10_changed_17 rfl rfl ?_
    refine st_iconst C dX10_changed_18 (by decide) ?_
    refine st_icmp_ne (tgt := 30) C dX10_changed_19 (by decide) (fun c_19 => ?_) (fun c_19 => ?_)
    · refine st_iload_n C 3 dX10_changed_30 rfl rfl ?_
      exact st_ireturn C F dX10_changed_31 rfl (by first | exact ⟨by with_reducible rfl, by with_reducible rfl⟩ | (exfalso; omega) | exact absurd (by assumption) hQ | exact absurd hQ (by assumption)) (by omega) (by omega)
    · exact st_throw C F dX10_changed_22 dX10_changed_25 dX10_changed_26 dX10_changed_29 xw_X10_154 (by decide) (by first | exact ⟨rfl, rfl⟩ | (exfalso; omega) | exact absurd (by assumption) hQ | exact absurd hQ (by assumption)) (by omega) (by omega)
  · refine st_callS (st := []) C dX10_changed_1 [vI s9] (k_isSpot_f (v9 := s9)  b_1) w_X10_138 rfl (by decide) (by decide) (by omega) (by omega) (Nat.le_of_ble_eq_true rfl) (ko_rt ?_)
    show T x 4 [(0, vR 0), (1, vI s9), (2, vI k9)] [vI 0] _ _ _
    refine st_callS (st := []) C dX10_changed_4 [vI 0] k_need_f w_X10_81 rfl (by decide) (by decide) (by omega) (by omega) (Nat.le_of_ble_eq_true rfl) (ko_th ?_)
    exact st_out C F (by first | exact ⟨rfl, rfl⟩ | (exfalso; omega) | exact absurd (by assumption) hQ | exact absurd hQ (by assumption)) (by omega) (by omega)
set_option maxRecDepth 20000 in
set_option maxHeartbeats 4000000 in
theorem s_changed_x2 {g : Gx} {h : HP} {rc dc : Int} {nw mcn : Int} {sv : Int → Int → Int} {gf : Int → Int} {s9 k9 r9 : Int} (hs : cS h rc dc) (hH : cH h nw mcn sv gf) (hnw : 0 ≤ nw ∧ nw ≤ 40) (hq : 0 ≤ s9 ∧ s9 ≤ 303) (hr : IsNth (fun j => sv (j + 1) s9 ≠ -1) nw k9 r9) (hQ : r9 = -1) : Ct g yX10_changed (.code yX10_changed cX10_changed 4 (some .int)) 7 1 6 [vR 0, vI s9, vI k9] h (Th "java/util/NoSuchElementException" h) := by
  refine Ct.of (by decide) (Nat.le_of_ble_eq_true rfl) (fun x hg C F => ?_)
  subst hg
  obtain ⟨stf, hHR, hH12, hHn⟩ := id hH
  have hH6 := hHR.1
  have hH11 := hHR.2.1
  show T x 0 [(0, vR 0), (1, vI s9), (2, vI k9)] [] h 0 0
  refine st_iload_n C 1 dX10_changed_0 rfl rfl ?_
  have b_1 : 0 ≤ s9 ∧ s9 ≤ 303 := by omega
  refine st_callS (st := []) C dX10_changed_1 [vI s9] (k_isSpot_t (v9 := s9)  b_1) w_X10_138 rfl (by decide) (by decide) (by omega) (by omega) (Nat.le_of_ble_eq_true rfl) (ko_rt ?_)
  show T x 4 [(0, vR 0), (1, vI s9), (2, vI k9)] [vI 1] _ _ _
  refine st_callS (st := []) C dX10_changed_4 [vI 1] k_need_t w_X10_81 rfl (by decide) (by decide) (by omega) (by omega) (Nat.le_of_ble_eq_true rfl) (ko_rn ?_)
  show T x 7 [(0, vR 0), (1, vI s9), (2, vI k9)] [] _ _ _
  refine st_aload_n C 0 dX10_changed_7 rfl rfl ?_
  refine st_getf C dX10_changed_8 fl_X10_44 hs rfl ?_
  refine st_iload_n C 1 dX10_changed_11 rfl rfl ?_
  refine st_iload_n C 2 dX10_changed_12 rfl rfl ?_
  refine st_callV (st := []) C dX10_changed_13 [vI s9, vI k9] (k_changeAt (nw := nw) (mcn := mcn) (sf := stf) (sv := sv) (s9 := s9) (k9 := k9) (r9 := r9) hHR hnw (by omega) hr) hH6 w_X10_222 rfl (by decide) (by decide) (by omega) (by omega) (Nat.le_of_ble_eq_true rfl) (ko_rt ?_)
  show T x 16 [(0, vR 0), (1, vI s9), (2, vI k9)] [vI (if r9 = -1 then -1 else r9 + 1)] _ _ _
  refine st_istore_n C 3 dX10_changed_16 rfl (by decide) rfl ?_
  show T x 17 [(0, vR 0), (1, vI s9), (2, vI k9), (3, vI (if r9 = -1 then -1 else r9 + 1))] [] _ _ _
  refine st_iload_n C 3 dX10_changed_17 rfl rfl ?_
  refine st_iconst C dX10_changed_18 (by decide) ?_
  refine st_icmp_ne (tgt := 30) C dX10_changed_19 (by decide) (fun c_19 => ?_) (fun c_19 => ?_)
  · refine st_iload_n C 3 dX10_changed_30 rfl rfl ?_
    exact st_ireturn C F dX10_changed_31 rfl (by first | exact ⟨rfl, rfl⟩ | exact absurd (if_pos hQ) (by assumption)) (by omega) (by omega)
  · exact st_throw C F dX10_changed_22 dX10_changed_25 dX10_changed_26 dX10_changed_29 xw_X10_154 (by decide) (by first | exact ⟨rfl, rfl⟩ | exact absurd (if_pos hQ) (by assumption)) (by omega) (by omega)
set_option maxRecDepth 20000 in
set_option maxHeartbeats 4000000 in
theorem s_changed {g : Gx} {h : HP} {rc dc : Int} {nw mcn : Int} {sv : Int → Int → Int} {gf : Int → Int} {s9 k9 r9 : Int} (hs : cS h rc dc) (hH : cH h nw mcn sv gf) (hnw : 0 ≤ nw ∧ nw ≤ 40) (hq : 0 ≤ s9 ∧ s9 ≤ 303) (hr : IsNth (fun j => sv (j + 1) s9 ≠ -1) nw k9 r9) (hQ : r9 ≠ -1) : Ct g yX10_changed (.code yX10_changed cX10_changed 4 (some .int)) 7 1 6 [vR 0, vI s9, vI k9] h (Rt (some (vI (r9 + 1))) h) := by
  refine Ct.of (by decide) (Nat.le_of_ble_eq_true rfl) (fun x hg C F => ?_)
  subst hg
  obtain ⟨stf, hHR, hH12, hHn⟩ := id hH
  have hH6 := hHR.1
  have hH11 := hHR.2.1
  show T x 0 [(0, vR 0), (1, vI s9), (2, vI k9)] [] h 0 0
  refine st_iload_n C 1 dX10_changed_0 rfl rfl ?_
  have b_1 : 0 ≤ s9 ∧ s9 ≤ 303 := by omega
  refine st_callS (st := []) C dX10_changed_1 [vI s9] (k_isSpot_t (v9 := s9)  b_1) w_X10_138 rfl (by decide) (by decide) (by omega) (by omega) (Nat.le_of_ble_eq_true rfl) (ko_rt ?_)
  show T x 4 [(0, vR 0), (1, vI s9), (2, vI k9)] [vI 1] _ _ _
  refine st_callS (st := []) C dX10_changed_4 [vI 1] k_need_t w_X10_81 rfl (by decide) (by decide) (by omega) (by omega) (Nat.le_of_ble_eq_true rfl) (ko_rn ?_)
  show T x 7 [(0, vR 0), (1, vI s9), (2, vI k9)] [] _ _ _
  refine st_aload_n C 0 dX10_changed_7 rfl rfl ?_
  refine st_getf C dX10_changed_8 fl_X10_44 hs rfl ?_
  refine st_iload_n C 1 dX10_changed_11 rfl rfl ?_
  refine st_iload_n C 2 dX10_changed_12 rfl rfl ?_
  refine st_callV (st := []) C dX10_changed_13 [vI s9, vI k9] (k_changeAt (nw := nw) (mcn := mcn) (sf := stf) (sv := sv) (s9 := s9) (k9 := k9) (r9 := r9) hHR hnw (by omega) hr) hH6 w_X10_222 rfl (by decide) (by decide) (by omega) (by omega) (Nat.le_of_ble_eq_true rfl) (ko_rt ?_)
  show T x 16 [(0, vR 0), (1, vI s9), (2, vI k9)] [vI (if r9 = -1 then -1 else r9 + 1)] _ _ _
  refine st_istore_n C 3 dX10_changed_16 rfl (by decide) rfl ?_
  show T x 17 [(0, vR 0), (1, vI s9), (2, vI k9), (3, vI (if r9 = -1 then -1 else r9 + 1))] [] _ _ _
  refine st_iload_n C 3 dX10_changed_17 rfl rfl ?_
  refine st_iconst C dX10_changed_18 (by decide) ?_
  refine st_icmp_ne (tgt := 30) C dX10_changed_19 (by decide) (fun c_19 => ?_) (fun c_19 => ?_)
  · refine st_iload_n C 3 dX10_changed_30 rfl rfl ?_
    exact st_ireturn C F dX10_changed_31 rfl (by first | exact rt_i (if_neg hQ) rfl | (exfalso; have zz : (if r9 = -1 then -1 else r9 + 1) = -1 := (by assumption); rw [if_neg hQ] at zz; rcases hr with q | q <;> omega)) (by omega) (by omega)
  · exact st_throw C F dX10_changed_22 dX10_changed_25 dX10_changed_26 dX10_changed_29 xw_X10_154 (by decide) (by first | exact rt_i (if_neg hQ) rfl | (exfalso; have zz : (if r9 = -1 then -1 else r9 + 1) = -1 := (by assumption); rw [if_neg hQ] at zz; rcases hr with q | q <;> omega)) (by omega) (by omega)
set_option maxRecDepth 20000 in
set_option maxHeartbeats 4000000 in
theorem s_made {g : Gx} {h : HP} {rc dc : Int} {mf : Int → Int} {mk : Int} {tl : Int → Int} (hs : cS h rc dc) (hM : cM h mf) (hL : cL h mk tl) : Ct g yX10_made (.code yX10_made cX10_made 1 (some .int)) 1 1 6 [vR 0] h (Rt (some (vI mk)) h) := by
  refine Ct.of (by decide) (Nat.le_of_ble_eq_true rfl) (fun x hg C F => ?_)
  subst hg
  show T x 0 [(0, vR 0)] [] h 0 0
  refine st_aload_n C 0 dX10_made_0 rfl rfl ?_
  refine st_getf C dX10_made_1 fl_X10_51 hs rfl ?_
  refine st_getf C dX10_made_4 fl_X10_246 hL.1 rfl ?_
  exact st_ireturn C F dX10_made_7 rfl (by first | exact ⟨by with_reducible rfl, by with_reducible rfl⟩ | (exfalso; omega) | exact absurd (by assumption) hQ | exact absurd hQ (by assumption)) (by omega) (by omega)
set_option maxRecDepth 20000 in
set_option maxHeartbeats 4000000 in
theorem s_isKept0_t {g : Gx} {h : HP} {rc dc : Int} {mk : Int} {tl : Int → Int} {l x9 y9 : Int} (hs : cS h rc dc) (hL : cL h mk tl) (hl : 0 ≤ l ∧ l ≤ 2) (hx : 0 ≤ x9 ∧ x9 ≤ 7) (hy : 0 ≤ y9 ∧ y9 ≤ 7) (hQ : tl (85 * l + 0 + 8 * y9 + x9) ≠ -1) : Ct g yX10_isKept (.code yX10_isKept cX10_isKept 5 (some .boolean)) 7 1 6 [vR 0, vI 1, vI l, vI x9, vI y9] h (Rt (some (vI 1)) h) := by
  refine Ct.of (by decide) (Nat.le_of_ble_eq_true rfl) (fun x hg C F => ?_)
  subst hg
  have hok : TileOk 1 l x9 y9 := by unfold TileOk; omega
  show T x 0 [(0, vR 0), (1, vI 1), (2, vI l), (3, vI x9), (4, vI y9)] [] h 0 0
  refine st_iload_n C 1 dX10_isKept_0 rfl rfl ?_
  refine st_iload_n C 2 dX10_isKept_1 rfl rfl ?_
  refine st_iload_n C 3 dX10_isKept_2 rfl rfl ?_
  refine st_iload C dX10_isKept_3 rfl ?_
  by_cases b_5 : TileOk 1 l x9 y9
  · refine st_callS (st := []) C dX10_isKept_5 [vI 1, vI l, vI x9, vI y9] (k_isTile_t (s9 := 1) (l := l) (x9 := x9) (y9 := y9)  b_5) w_X10_232 rfl (by decide) (by decide) (by omega) (by omega) (Nat.le_of_ble_eq_true rfl) (ko_rt ?_)
    show T x 8 [(0, vR 0), (1, vI 1), (2, vI l), (3, vI x9), (4, vI y9)] [vI 1] _ _ _
    refine st_callS (st := []) C dX10_isKept_8 [vI 1] k_need_t w_X10_81 rfl (by decide) (by decide) (by omega) (by omega) (Nat.le_of_ble_eq_true rfl) (ko_rn ?_)
    show T x 11 [(0, vR 0), (1, vI 1), (2, vI l), (3, vI x9), (4, vI y9)] [] _ _ _
    refine st_aload_n C 0 dX10_isKept_11 rfl rfl ?_
    refine st_getf C dX10_isKept_12 fl_X10_51 hs rfl ?_
    refine st_iload_n C 1 dX10_isKept_15 rfl rfl ?_
    refine st_callS (st := [vR 7]) C dX10_isKept_16 [vI 1] k_levelOf0 w_X10_236 rfl (by decide) (by decide) (by omega) (by omega) (Nat.le_of_ble_eq_true rfl) (ko_rt ?_)
    show T x 19 [(0, vR 0), (1, vI 1), (2, vI l), (3, vI x9), (4, vI y9)] [vI 0, vR 7] _ _ _
    refine st_iload_n C 2 dX10_isKept_19 rfl rfl ?_
    refine st_iload_n C 3 dX10_isKept_20 rfl rfl ?_
    refine st_iload C dX10_isKept_21 rfl ?_
    by_cases b_23 : tl (85 * l + 0 + 8 * y9 + x9) ≠ -1
    · refine st_callV (st := []) C dX10_isKept_23 [vI 0, vI l, vI x9, vI y9] (k_holds0_t (af := tl) (l := l) (x9 := x9) (y9 := y9) hL.1 hL.2 (by omega) (by omega) (by omega) b_23) hL.1 w_X10_243 rfl (by decide) (by decide) (by omega) (by omega) (Nat.le_of_ble_eq_true rfl) (ko_rt ?_)
      show T x 26 [(0, vR 0), (1, vI 1), (2, vI l), (3, vI x9), (4, vI y9)] [vI 1] _ _ _
      exact st_zreturn C F dX10_isKept_26 rfl (by omega) (by first | exact absurd hok (by assumption) | exact ⟨by with_reducible rfl, by with_reducible rfl⟩ | exact absurd (by assumption) hQ | exact absurd hQ (by assumption)) (by omega) (by omega)
    · refine st_callV (st := []) C dX10_isKept_23 [vI 0, vI l, vI x9, vI y9] (k_holds0_f (af := tl) (l := l) (x9 := x9) (y9 := y9) hL.1 hL.2 (by omega) (by omega) (by omega) b_23) hL.1 w_X10_243 rfl (by decide) (by decide) (by omega) (by omega) (Nat.le_of_ble_eq_true rfl) (ko_rt ?_)
      show T x 26 [(0, vR 0), (1, vI 1), (2, vI l), (3, vI x9), (4, vI y9)] [vI 0] _ _ _
      exact st_zreturn C F dX10_isKept_26 rfl (by omega) (by first | exact absurd hok (by assumption) | exact ⟨by with_reducible rfl, by with_reducible rfl⟩ | exact absurd (by assumption) hQ | exact absurd hQ (by assumption)) (by omega) (by omega)
  · refine st_callS (st := []) C dX10_isKept_5 [vI 1, vI l, vI x9, vI y9] (k_isTile_f (s9 := 1) (l := l) (x9 := x9) (y9 := y9)  b_5) w_X10_232 rfl (by decide) (by decide) (by omega) (by omega) (Nat.le_of_ble_eq_true rfl) (ko_rt ?_)
    show T x 8 [(0, vR 0), (1, vI 1), (2, vI l), (3, vI x9), (4, vI y9)] [vI 0] _ _ _
    refine st_callS (st := []) C dX10_isKept_8 [vI 0] k_need_f w_X10_81 rfl (by decide) (by decide) (by omega) (by omega) (Nat.le_of_ble_eq_true rfl) (ko_th ?_)
    exact st_out C F (by first | exact absurd hok (by assumption) | exact ⟨by with_reducible rfl, by with_reducible rfl⟩ | exact absurd (by assumption) hQ | exact absurd hQ (by assumption)) (by omega) (by omega)
set_option maxRecDepth 20000 in
set_option maxHeartbeats 4000000 in
theorem s_isKept0_f {g : Gx} {h : HP} {rc dc : Int} {mk : Int} {tl : Int → Int} {l x9 y9 : Int} (hs : cS h rc dc) (hL : cL h mk tl) (hl : 0 ≤ l ∧ l ≤ 2) (hx : 0 ≤ x9 ∧ x9 ≤ 7) (hy : 0 ≤ y9 ∧ y9 ≤ 7) (hQ : ¬ (tl (85 * l + 0 + 8 * y9 + x9) ≠ -1)) : Ct g yX10_isKept (.code yX10_isKept cX10_isKept 5 (some .boolean)) 7 1 6 [vR 0, vI 1, vI l, vI x9, vI y9] h (Rt (some (vI 0)) h) := by
  refine Ct.of (by decide) (Nat.le_of_ble_eq_true rfl) (fun x hg C F => ?_)
  subst hg
  have hok : TileOk 1 l x9 y9 := by unfold TileOk; omega
  show T x 0 [(0, vR 0), (1, vI 1), (2, vI l), (3, vI x9), (4, vI y9)] [] h 0 0
  refine st_iload_n C 1 dX10_isKept_0 rfl rfl ?_
  refine st_iload_n C 2 dX10_isKept_1 rfl rfl ?_
  refine st_iload_n C 3 dX10_isKept_2 rfl rfl ?_
  refine st_iload C dX10_isKept_3 rfl ?_
  by_cases b_5 : TileOk 1 l x9 y9
  · refine st_callS (st := []) C dX10_isKept_5 [vI 1, vI l, vI x9, vI y9] (k_isTile_t (s9 := 1) (l := l) (x9 := x9) (y9 := y9)  b_5) w_X10_232 rfl (by decide) (by decide) (by omega) (by omega) (Nat.le_of_ble_eq_true rfl) (ko_rt ?_)
    show T x 8 [(0, vR 0), (1, vI 1), (2, vI l), (3, vI x9), (4, vI y9)] [vI 1] _ _ _
    refine st_callS (st := []) C dX10_isKept_8 [vI 1] k_need_t w_X10_81 rfl (by decide) (by decide) (by omega) (by omega) (Nat.le_of_ble_eq_true rfl) (ko_rn ?_)
    show T x 11 [(0, vR 0), (1, vI 1), (2, vI l), (3, vI x9), (4, vI y9)] [] _ _ _
    refine st_aload_n C 0 dX10_isKept_11 rfl rfl ?_
    refine st_getf C dX10_isKept_12 fl_X10_51 hs rfl ?_
    refine st_iload_n C 1 dX10_isKept_15 rfl rfl ?_
    refine st_callS (st := [vR 7]) C dX10_isKept_16 [vI 1] k_levelOf0 w_X10_236 rfl (by decide) (by decide) (by omega) (by omega) (Nat.le_of_ble_eq_true rfl) (ko_rt ?_)
    show T x 19 [(0, vR 0), (1, vI 1), (2, vI l), (3, vI x9), (4, vI y9)] [vI 0, vR 7] _ _ _
    refine st_iload_n C 2 dX10_isKept_19 rfl rfl ?_
    refine st_iload_n C 3 dX10_isKept_20 rfl rfl ?_
    refine st_iload C dX10_isKept_21 rfl ?_
    by_cases b_23 : tl (85 * l + 0 + 8 * y9 + x9) ≠ -1
    · refine st_callV (st := []) C dX10_isKept_23 [vI 0, vI l, vI x9, vI y9] (k_holds0_t (af := tl) (l := l) (x9 := x9) (y9 := y9) hL.1 hL.2 (by omega) (by omega) (by omega) b_23) hL.1 w_X10_243 rfl (by decide) (by decide) (by omega) (by omega) (Nat.le_of_ble_eq_true rfl) (ko_rt ?_)
      show T x 26 [(0, vR 0), (1, vI 1), (2, vI l), (3, vI x9), (4, vI y9)] [vI 1] _ _ _
      exact st_zreturn C F dX10_isKept_26 rfl (by omega) (by first | exact absurd hok (by assumption) | exact ⟨by with_reducible rfl, by with_reducible rfl⟩ | exact absurd (by assumption) hQ | exact absurd hQ (by assumption)) (by omega) (by omega)
    · refine st_callV (st := []) C dX10_isKept_23 [vI 0, vI l, vI x9, vI y9] (k_holds0_f (af := tl) (l := l) (x9 := x9) (y9 := y9) hL.1 hL.2 (by omega) (by omega) (by omega) b_23) hL.1 w_X10_243 rfl (by decide) (by decide) (by omega) (by omega) (Nat.le_of_ble_eq_true rfl) (ko_rt ?_)
      show T x 26 [(0, vR 0), (1, vI 1), (2, vI l), (3, vI x9), (4, vI y9)] [vI 0] _ _ _
      exact st_zreturn C F dX10_isKept_26 rfl (by omega) (by first | exact absurd hok (by assumption) | exact ⟨by with_reducible rfl, by with_reducible rfl⟩ | exact absurd (by assumption) hQ | exact absurd hQ (by assumption)) (by omega) (by omega)
  · refine st_callS (st := []) C dX10_isKept_5 [vI 1, vI l, vI x9, vI y9] (k_isTile_f (s9 := 1) (l := l) (x9 := x9) (y9 := y9)  b_5) w_X10_232 rfl (by decide) (by decide) (by omega) (by omega) (Nat.le_of_ble_eq_true rfl) (ko_rt ?_)
    show T x 8 [(0, vR 0), (1, vI 1), (2, vI l), (3, vI x9), (4, vI y9)] [vI 0] _ _ _
    refine st_callS (st := []) C dX10_isKept_8 [vI 0] k_need_f w_X10_81 rfl (by decide) (by decide) (by omega) (by omega) (Nat.le_of_ble_eq_true rfl) (ko_th ?_)
    exact st_out C F (by first | exact absurd hok (by assumption) | exact ⟨by with_reducible rfl, by with_reducible rfl⟩ | exact absurd (by assumption) hQ | exact absurd hQ (by assumption)) (by omega) (by omega)
set_option maxRecDepth 20000 in
set_option maxHeartbeats 4000000 in
theorem s_tile0_f {g : Gx} {h : HP} {rc dc : Int} {mf : Int → Int} {mk : Int} {tl : Int → Int} {l x9 y9 : Int} (hs : cS h rc dc) (hM : cM h mf) (hL : cL h mk tl) (hl : 0 ≤ l ∧ l ≤ 2) (hx : 0 ≤ x9 ∧ x9 ≤ 7) (hy : 0 ≤ y9 ∧ y9 ≤ 7) (hmk : 0 ≤ mk ∧ mk < 1000000) (hQ : ¬ (tl (85 * l + 0 + 8 * y9 + x9) = -1)) : Ct g yX10_tile (.code yX10_tile cX10_tile 5 (some .int)) 7 1 6 [vR 0, vI 1, vI l, vI x9, vI y9] h (Rt (some (vI (tl (85 * l + 0 + 8 * y9 + x9)))) h) := by
  refine Ct.of (by decide) (Nat.le_of_ble_eq_true rfl) (fun x hg C F => ?_)
  subst hg
  have hok : TileOk 1 l x9 y9 := by unfold TileOk; omega
  show T x 0 [(0, vR 0), (1, vI 1), (2, vI l), (3, vI x9), (4, vI y9)] [] h 0 0
  refine st_iload_n C 1 dX10_tile_0 rfl rfl ?_
  refine st_iload_n C 2 dX10_tile_1 rfl rfl ?_
  refine st_iload_n C 3 dX10_tile_2 rfl rfl ?_
  refine st_iload C dX10_tile_3 rfl ?_
  by_cases b_5 : TileOk 1 l x9 y9
  · refine st_callS (st := []) C dX10_tile_5 [vI 1, vI l, vI x9, vI y9] (k_isTile_t (s9 := 1) (l := l) (x9 := x9) (y9 := y9)  b_5) w_X10_232 rfl (by decide) (by decide) (by omega) (by omega) (Nat.le_of_ble_eq_true rfl) (ko_rt ?_)
    show T x 8 [(0, vR 0), (1, vI 1), (2, vI l), (3, vI x9), (4, vI y9)] [vI 1] _ _ _
    refine st_callS (st := []) C dX10_tile_8 [vI 1] k_need_t w_X10_81 rfl (by decide) (by decide) (by omega) (by omega) (Nat.le_of_ble_eq_true rfl) (ko_rn ?_)
    show T x 11 [(0, vR 0), (1, vI 1), (2, vI l), (3, vI x9), (4, vI y9)] [] _ _ _
    refine st_aload_n C 0 dX10_tile_11 rfl rfl ?_
    refine st_getf C dX10_tile_12 fl_X10_51 hs rfl ?_
    refine st_aload_n C 0 dX10_tile_15 rfl rfl ?_
    refine st_getf C dX10_tile_16 fl_X10_9 hs rfl ?_
    refine st_iload_n C 1 dX10_tile_19 rfl rfl ?_
    refine st_callS (st := [vR 1, vR 7]) C dX10_tile_20 [vI 1] k_levelOf0 w_X10_236 rfl (by decide) (by decide) (by omega) (by omega) (Nat.le_of_ble_eq_true rfl) (ko_rt ?_)
    show T x 23 [(0, vR 0), (1, vI 1), (2, vI l), (3, vI x9), (4, vI y9)] [vI 0, vR 1, vR 7] _ _ _
    refine st_iload_n C 2 dX10_tile_23 rfl rfl ?_
    refine st_iload_n C 3 dX10_tile_24 rfl rfl ?_
    refine st_iload C dX10_tile_25 rfl ?_
    by_cases b_27 : tl (85 * l + 0 + 8 * y9 + x9) = -1
    · refine st_callV (st := []) C dX10_tile_27 [vR 1, vI 0, vI l, vI x9, vI y9] (k_ask0_t (mk := mk) (af := tl) (mf := mf) (l := l) (x9 := x9) (y9 := y9) hL.1 hL.2 hM (by omega) (by omega) (by omega) (by omega) (by omega) (by omega) b_27 (by omega)) hL.1 w_X10_239 rfl (by decide) (by decide) (by omega) (by omega) (Nat.le_of_ble_eq_true rfl) (ko_rt ?_)
      show T x 30 [(0, vR 0), (1, vI 1), (2, vI l), (3, vI x9), (4, vI y9)] [vI (mcaV mf l 1 x9 y9)] (hput (hput h 13 (oI 255 (fput tl (85 * l + 0 + 8 * y9 + x9) (mcaV mf l 1 x9 y9)))) 7 (oO 7 [vI (mk + 1), vR 13])) _ _
      exact st_ireturn C F dX10_tile_30 rfl (by first | exact absurd hok (by assumption) | exact ⟨by with_reducible rfl, by with_reducible rfl⟩ | exact absurd (by assumption) hQ | exact absurd hQ (by assumption)) (by omega) (by omega)
    · refine st_callV (st := []) C dX10_tile_27 [vR 1, vI 0, vI l, vI x9, vI y9] (k_ask0_f (mk := mk) (af := tl) (mf := mf) (l := l) (x9 := x9) (y9 := y9) hL.1 hL.2 hM (by omega) (by omega) (by omega) (by omega) (by omega) (by omega) b_27) hL.1 w_X10_239 rfl (by decide) (by decide) (by omega) (by omega) (Nat.le_of_ble_eq_true rfl) (ko_rt ?_)
      show T x 30 [(0, vR 0), (1, vI 1), (2, vI l), (3, vI x9), (4, vI y9)] [vI (tl (85 * l + 0 + 8 * y9 + x9))] _ _ _
      exact st_ireturn C F dX10_tile_30 rfl (by first | exact absurd hok (by assumption) | exact ⟨by with_reducible rfl, by with_reducible rfl⟩ | exact absurd (by assumption) hQ | exact absurd hQ (by assumption)) (by omega) (by omega)
  · refine st_callS (st := []) C dX10_tile_5 [vI 1, vI l, vI x9, vI y9] (k_isTile_f (s9 := 1) (l := l) (x9 := x9) (y9 := y9)  b_5) w_X10_232 rfl (by decide) (by decide) (by omega) (by omega) (Nat.le_of_ble_eq_true rfl) (ko_rt ?_)
    show T x 8 [(0, vR 0), (1, vI 1), (2, vI l), (3, vI x9), (4, vI y9)] [vI 0] _ _ _
    refine st_callS (st := []) C dX10_tile_8 [vI 0] k_need_f w_X10_81 rfl (by decide) (by decide) (by omega) (by omega) (Nat.le_of_ble_eq_true rfl) (ko_th ?_)
    exact st_out C F (by first | exact absurd hok (by assumption) | exact ⟨by with_reducible rfl, by with_reducible rfl⟩ | exact absurd (by assumption) hQ | exact absurd hQ (by assumption)) (by omega) (by omega)
set_option maxRecDepth 20000 in
set_option maxHeartbeats 4000000 in
theorem s_tile0_t {g : Gx} {h : HP} {rc dc : Int} {mf : Int → Int} {mk : Int} {tl : Int → Int} {l x9 y9 : Int} (hs : cS h rc dc) (hM : cM h mf) (hL : cL h mk tl) (hl : 0 ≤ l ∧ l ≤ 2) (hx : 0 ≤ x9 ∧ x9 ≤ 7) (hy : 0 ≤ y9 ∧ y9 ≤ 7) (hmk : 0 ≤ mk ∧ mk < 1000000) (hQ : tl (85 * l + 0 + 8 * y9 + x9) = -1) : Ct g yX10_tile (.code yX10_tile cX10_tile 5 (some .int)) 7 1 6 [vR 0, vI 1, vI l, vI x9, vI y9] h (Rt (some (vI (mcaV mf l 1 x9 y9))) (hput (hput h 13 (oI 255 (fput tl (85 * l + 0 + 8 * y9 + x9) (mcaV mf l 1 x9 y9)))) 7 (oO 7 [vI (mk + 1), vR 13]))) := by
  refine Ct.of (by decide) (Nat.le_of_ble_eq_true rfl) (fun x hg C F => ?_)
  subst hg
  have hok : TileOk 1 l x9 y9 := by unfold TileOk; omega
  show T x 0 [(0, vR 0), (1, vI 1), (2, vI l), (3, vI x9), (4, vI y9)] [] h 0 0
  refine st_iload_n C 1 dX10_tile_0 rfl rfl ?_
  refine st_iload_n C 2 dX10_tile_1 rfl rfl ?_
  refine st_iload_n C 3 dX10_tile_2 rfl rfl ?_
  refine st_iload C dX10_tile_3 rfl ?_
  by_cases b_5 : TileOk 1 l x9 y9
  · refine st_callS (st := []) C dX10_tile_5 [vI 1, vI l, vI x9, vI y9] (k_isTile_t (s9 := 1) (l := l) (x9 := x9) (y9 := y9)  b_5) w_X10_232 rfl (by decide) (by decide) (by omega) (by omega) (Nat.le_of_ble_eq_true rfl) (ko_rt ?_)
    show T x 8 [(0, vR 0), (1, vI 1), (2, vI l), (3, vI x9), (4, vI y9)] [vI 1] _ _ _
    refine st_callS (st := []) C dX10_tile_8 [vI 1] k_need_t w_X10_81 rfl (by decide) (by decide) (by omega) (by omega) (Nat.le_of_ble_eq_true rfl) (ko_rn ?_)
    show T x 11 [(0, vR 0), (1, vI 1), (2, vI l), (3, vI x9), (4, vI y9)] [] _ _ _
    refine st_aload_n C 0 dX10_tile_11 rfl rfl ?_
    refine st_getf C dX10_tile_12 fl_X10_51 hs rfl ?_
    refine st_aload_n C 0 dX10_tile_15 rfl rfl ?_
    refine st_getf C dX10_tile_16 fl_X10_9 hs rfl ?_
    refine st_iload_n C 1 dX10_tile_19 rfl rfl ?_
    refine st_callS (st := [vR 1, vR 7]) C dX10_tile_20 [vI 1] k_levelOf0 w_X10_236 rfl (by decide) (by decide) (by omega) (by omega) (Nat.le_of_ble_eq_true rfl) (ko_rt ?_)
    show T x 23 [(0, vR 0), (1, vI 1), (2, vI l), (3, vI x9), (4, vI y9)] [vI 0, vR 1, vR 7] _ _ _
    refine st_iload_n C 2 dX10_tile_23 rfl rfl ?_
    refine st_iload_n C 3 dX10_tile_24 rfl rfl ?_
    refine st_iload C dX10_tile_25 rfl ?_
    by_cases b_27 : tl (85 * l + 0 + 8 * y9 + x9) = -1
    · refine st_callV (st := []) C dX10_tile_27 [vR 1, vI 0, vI l, vI x9, vI y9] (k_ask0_t (mk := mk) (af := tl) (mf := mf) (l := l) (x9 := x9) (y9 := y9) hL.1 hL.2 hM (by omega) (by omega) (by omega) (by omega) (by omega) (by omega) b_27 (by omega)) hL.1 w_X10_239 rfl (by decide) (by decide) (by omega) (by omega) (Nat.le_of_ble_eq_true rfl) (ko_rt ?_)
      show T x 30 [(0, vR 0), (1, vI 1), (2, vI l), (3, vI x9), (4, vI y9)] [vI (mcaV mf l 1 x9 y9)] (hput (hput h 13 (oI 255 (fput tl (85 * l + 0 + 8 * y9 + x9) (mcaV mf l 1 x9 y9)))) 7 (oO 7 [vI (mk + 1), vR 13])) _ _
      exact st_ireturn C F dX10_tile_30 rfl (by first | exact absurd hok (by assumption) | exact ⟨by with_reducible rfl, by with_reducible rfl⟩ | exact absurd (by assumption) hQ | exact absurd hQ (by assumption)) (by omega) (by omega)
    · refine st_callV (st := []) C dX10_tile_27 [vR 1, vI 0, vI l, vI x9, vI y9] (k_ask0_f (mk := mk) (af := tl) (mf := mf) (l := l) (x9 := x9) (y9 := y9) hL.1 hL.2 hM (by omega) (by omega) (by omega) (by omega) (by omega) (by omega) b_27) hL.1 w_X10_239 rfl (by decide) (by decide) (by omega) (by omega) (Nat.le_of_ble_eq_true rfl) (ko_rt ?_)
      show T x 30 [(0, vR 0), (1, vI 1), (2, vI l), (3, vI x9), (4, vI y9)] [vI (tl (85 * l + 0 + 8 * y9 + x9))] _ _ _
      exact st_ireturn C F dX10_tile_30 rfl (by first | exact absurd hok (by assumption) | exact ⟨by with_reducible rfl, by with_reducible rfl⟩ | exact absurd (by assumption) hQ | exact absurd hQ (by assumption)) (by omega) (by omega)
  · refine st_callS (st := []) C dX10_tile_5 [vI 1, vI l, vI x9, vI y9] (k_isTile_f (s9 := 1) (l := l) (x9 := x9) (y9 := y9)  b_5) w_X10_232 rfl (by decide) (by decide) (by omega) (by omega) (Nat.le_of_ble_eq_true rfl) (ko_rt ?_)
    show T x 8 [(0, vR 0), (1, vI 1), (2, vI l), (3, vI x9), (4, vI y9)] [vI 0] _ _ _
    refine st_callS (st := []) C dX10_tile_8 [vI 0] k_need_f w_X10_81 rfl (by decide) (by decide) (by omega) (by omega) (Nat.le_of_ble_eq_true rfl) (ko_th ?_)
    exact st_out C F (by first | exact absurd hok (by assumption) | exact ⟨by with_reducible rfl, by with_reducible rfl⟩ | exact absurd (by assumption) hQ | exact absurd hQ (by assumption)) (by omega) (by omega)
set_option maxRecDepth 20000 in
set_option maxHeartbeats 4000000 in
theorem s_isKept1_t {g : Gx} {h : HP} {rc dc : Int} {mk : Int} {tl : Int → Int} {l x9 y9 : Int} (hs : cS h rc dc) (hL : cL h mk tl) (hl : 0 ≤ l ∧ l ≤ 2) (hx : 0 ≤ x9 ∧ x9 ≤ 3) (hy : 0 ≤ y9 ∧ y9 ≤ 3) (hQ : tl (85 * l + 64 + 4 * y9 + x9) ≠ -1) : Ct g yX10_isKept (.code yX10_isKept cX10_isKept 5 (some .boolean)) 7 1 6 [vR 0, vI 2, vI l, vI x9, vI y9] h (Rt (some (vI 1)) h) := by
  refine Ct.of (by decide) (Nat.le_of_ble_eq_true rfl) (fun x hg C F => ?_)
  subst hg
  have hok : TileOk 2 l x9 y9 := by unfold TileOk; omega
  show T x 0 [(0, vR 0), (1, vI 2), (2, vI l), (3, vI x9), (4, vI y9)] [] h 0 0
  refine st_iload_n C 1 dX10_isKept_0 rfl rfl ?_
  refine st_iload_n C 2 dX10_isKept_1 rfl rfl ?_
  refine st_iload_n C 3 dX10_isKept_2 rfl rfl ?_
  refine st_iload C dX10_isKept_3 rfl ?_
  by_cases b_5 : TileOk 2 l x9 y9
  · refine st_callS (st := []) C dX10_isKept_5 [vI 2, vI l, vI x9, vI y9] (k_isTile_t (s9 := 2) (l := l) (x9 := x9) (y9 := y9)  b_5) w_X10_232 rfl (by decide) (by decide) (by omega) (by omega) (Nat.le_of_ble_eq_true rfl) (ko_rt ?_)
    show T x 8 [(0, vR 0), (1, vI 2), (2, vI l), (3, vI x9), (4, vI y9)] [vI 1] _ _ _
    refine st_callS (st := []) C dX10_isKept_8 [vI 1] k_need_t w_X10_81 rfl (by decide) (by decide) (by omega) (by omega) (Nat.le_of_ble_eq_true rfl) (ko_rn ?_)
    show T x 11 [(0, vR 0), (1, vI 2), (2, vI l), (3, vI x9), (4, vI y9)] [] _ _ _
    refine st_aload_n C 0 dX10_isKept_11 rfl rfl ?_
    refine st_getf C dX10_isKept_12 fl_X10_51 hs rfl ?_
    refine st_iload_n C 1 dX10_isKept_15 rfl rfl ?_
    refine st_callS (st := [vR 7]) C dX10_isKept_16 [vI 2] k_levelOf1 w_X10_236 rfl (by decide) (by decide) (by omega) (by omega) (Nat.le_of_ble_eq_true rfl) (ko_rt ?_)
    show T x 19 [(0, vR 0), (1, vI 2), (2, vI l), (3, vI x9), (4, vI y9)] [vI 1, vR 7] _ _ _
    refine st_iload_n C 2 dX10_isKept_19 rfl rfl ?_
    refine st_iload_n C 3 dX10_isKept_20 rfl rfl ?_
    refine st_iload C dX10_isKept_21 rfl ?_
    by_cases b_23 : tl (85 * l + 64 + 4 * y9 + x9) ≠ -1
    · refine st_callV (st := []) C dX10_isKept_23 [vI 1, vI l, vI x9, vI y9] (k_holds1_t (af := tl) (l := l) (x9 := x9) (y9 := y9) hL.1 hL.2 (by omega) (by omega) (by omega) b_23) hL.1 w_X10_243 rfl (by decide) (by decide) (by omega) (by omega) (Nat.le_of_ble_eq_true rfl) (ko_rt ?_)
      show T x 26 [(0, vR 0), (1, vI 2), (2, vI l), (3, vI x9), (4, vI y9)] [vI 1] _ _ _
      exact st_zreturn C F dX10_isKept_26 rfl (by omega) (by first | exact absurd hok (by assumption) | exact ⟨by with_reducible rfl, by with_reducible rfl⟩ | exact absurd (by assumption) hQ | exact absurd hQ (by assumption)) (by omega) (by omega)
    · refine st_callV (st := []) C dX10_isKept_23 [vI 1, vI l, vI x9, vI y9] (k_holds1_f (af := tl) (l := l) (x9 := x9) (y9 := y9) hL.1 hL.2 (by omega) (by omega) (by omega) b_23) hL.1 w_X10_243 rfl (by decide) (by decide) (by omega) (by omega) (Nat.le_of_ble_eq_true rfl) (ko_rt ?_)
      show T x 26 [(0, vR 0), (1, vI 2), (2, vI l), (3, vI x9), (4, vI y9)] [vI 0] _ _ _
      exact st_zreturn C F dX10_isKept_26 rfl (by omega) (by first | exact absurd hok (by assumption) | exact ⟨by with_reducible rfl, by with_reducible rfl⟩ | exact absurd (by assumption) hQ | exact absurd hQ (by assumption)) (by omega) (by omega)
  · refine st_callS (st := []) C dX10_isKept_5 [vI 2, vI l, vI x9, vI y9] (k_isTile_f (s9 := 2) (l := l) (x9 := x9) (y9 := y9)  b_5) w_X10_232 rfl (by decide) (by decide) (by omega) (by omega) (Nat.le_of_ble_eq_true rfl) (ko_rt ?_)
    show T x 8 [(0, vR 0), (1, vI 2), (2, vI l), (3, vI x9), (4, vI y9)] [vI 0] _ _ _
    refine st_callS (st := []) C dX10_isKept_8 [vI 0] k_need_f w_X10_81 rfl (by decide) (by decide) (by omega) (by omega) (Nat.le_of_ble_eq_true rfl) (ko_th ?_)
    exact st_out C F (by first | exact absurd hok (by assumption) | exact ⟨by with_reducible rfl, by with_reducible rfl⟩ | exact absurd (by assumption) hQ | exact absurd hQ (by assumption)) (by omega) (by omega)
set_option maxRecDepth 20000 in
set_option maxHeartbeats 4000000 in
theorem s_isKept1_f {g : Gx} {h : HP} {rc dc : Int} {mk : Int} {tl : Int → Int} {l x9 y9 : Int} (hs : cS h rc dc) (hL : cL h mk tl) (hl : 0 ≤ l ∧ l ≤ 2) (hx : 0 ≤ x9 ∧ x9 ≤ 3) (hy : 0 ≤ y9 ∧ y9 ≤ 3) (hQ : ¬ (tl (85 * l + 64 + 4 * y9 + x9) ≠ -1)) : Ct g yX10_isKept (.code yX10_isKept cX10_isKept 5 (some .boolean)) 7 1 6 [vR 0, vI 2, vI l, vI x9, vI y9] h (Rt (some (vI 0)) h) := by
  refine Ct.of (by decide) (Nat.le_of_ble_eq_true rfl) (fun x hg C F => ?_)
  subst hg
  have hok : TileOk 2 l x9 y9 := by unfold TileOk; omega
  show T x 0 [(0, vR 0), (1, vI 2), (2, vI l), (3, vI x9), (4, vI y9)] [] h 0 0
  refine st_iload_n C 1 dX10_isKept_0 rfl rfl ?_
  refine st_iload_n C 2 dX10_isKept_1 rfl rfl ?_
  refine st_iload_n C 3 dX10_isKept_2 rfl rfl ?_
  refine st_iload C dX10_isKept_3 rfl ?_
  by_cases b_5 : TileOk 2 l x9 y9
  · refine st_callS (st := []) C dX10_isKept_5 [vI 2, vI l, vI x9, vI y9] (k_isTile_t (s9 := 2) (l := l) (x9 := x9) (y9 := y9)  b_5) w_X10_232 rfl (by decide) (by decide) (by omega) (by omega) (Nat.le_of_ble_eq_true rfl) (ko_rt ?_)
    show T x 8 [(0, vR 0), (1, vI 2), (2, vI l), (3, vI x9), (4, vI y9)] [vI 1] _ _ _
    refine st_callS (st := []) C dX10_isKept_8 [vI 1] k_need_t w_X10_81 rfl (by decide) (by decide) (by omega) (by omega) (Nat.le_of_ble_eq_true rfl) (ko_rn ?_)
    show T x 11 [(0, vR 0), (1, vI 2), (2, vI l), (3, vI x9), (4, vI y9)] [] _ _ _
    refine st_aload_n C 0 dX10_isKept_11 rfl rfl ?_
    refine st_getf C dX10_isKept_12 fl_X10_51 hs rfl ?_
    refine st_iload_n C 1 dX10_isKept_15 rfl rfl ?_
    refine st_callS (st := [vR 7]) C dX10_isKept_16 [vI 2] k_levelOf1 w_X10_236 rfl (by decide) (by decide) (by omega) (by omega) (Nat.le_of_ble_eq_true rfl) (ko_rt ?_)
    show T x 19 [(0, vR 0), (1, vI 2), (2, vI l), (3, vI x9), (4, vI y9)] [vI 1, vR 7] _ _ _
    refine st_iload_n C 2 dX10_isKept_19 rfl rfl ?_
    refine st_iload_n C 3 dX10_isKept_20 rfl rfl ?_
    refine st_iload C dX10_isKept_21 rfl ?_
    by_cases b_23 : tl (85 * l + 64 + 4 * y9 + x9) ≠ -1
    · refine st_callV (st := []) C dX10_isKept_23 [vI 1, vI l, vI x9, vI y9] (k_holds1_t (af := tl) (l := l) (x9 := x9) (y9 := y9) hL.1 hL.2 (by omega) (by omega) (by omega) b_23) hL.1 w_X10_243 rfl (by decide) (by decide) (by omega) (by omega) (Nat.le_of_ble_eq_true rfl) (ko_rt ?_)
      show T x 26 [(0, vR 0), (1, vI 2), (2, vI l), (3, vI x9), (4, vI y9)] [vI 1] _ _ _
      exact st_zreturn C F dX10_isKept_26 rfl (by omega) (by first | exact absurd hok (by assumption) | exact ⟨by with_reducible rfl, by with_reducible rfl⟩ | exact absurd (by assumption) hQ | exact absurd hQ (by assumption)) (by omega) (by omega)
    · refine st_callV (st := []) C dX10_isKept_23 [vI 1, vI l, vI x9, vI y9] (k_holds1_f (af := tl) (l := l) (x9 := x9) (y9 := y9) hL.1 hL.2 (by omega) (by omega) (by omega) b_23) hL.1 w_X10_243 rfl (by decide) (by decide) (by omega) (by omega) (Nat.le_of_ble_eq_true rfl) (ko_rt ?_)
      show T x 26 [(0, vR 0), (1, vI 2), (2, vI l), (3, vI x9), (4, vI y9)] [vI 0] _ _ _
      exact st_zreturn C F dX10_isKept_26 rfl (by omega) (by first | exact absurd hok (by assumption) | exact ⟨by with_reducible rfl, by with_reducible rfl⟩ | exact absurd (by assumption) hQ | exact absurd hQ (by assumption)) (by omega) (by omega)
  · refine st_callS (st := []) C dX10_isKept_5 [vI 2, vI l, vI x9, vI y9] (k_isTile_f (s9 := 2) (l := l) (x9 := x9) (y9 := y9)  b_5) w_X10_232 rfl (by decide) (by decide) (by omega) (by omega) (Nat.le_of_ble_eq_true rfl) (ko_rt ?_)
    show T x 8 [(0, vR 0), (1, vI 2), (2, vI l), (3, vI x9), (4, vI y9)] [vI 0] _ _ _
    refine st_callS (st := []) C dX10_isKept_8 [vI 0] k_need_f w_X10_81 rfl (by decide) (by decide) (by omega) (by omega) (Nat.le_of_ble_eq_true rfl) (ko_th ?_)
    exact st_out C F (by first | exact absurd hok (by assumption) | exact ⟨by with_reducible rfl, by with_reducible rfl⟩ | exact absurd (by assumption) hQ | exact absurd hQ (by assumption)) (by omega) (by omega)
set_option maxRecDepth 20000 in
set_option maxHeartbeats 4000000 in
theorem s_tile1_f {g : Gx} {h : HP} {rc dc : Int} {mf : Int → Int} {mk : Int} {tl : Int → Int} {l x9 y9 : Int} (hs : cS h rc dc) (hM : cM h mf) (hL : cL h mk tl) (hl : 0 ≤ l ∧ l ≤ 2) (hx : 0 ≤ x9 ∧ x9 ≤ 3) (hy : 0 ≤ y9 ∧ y9 ≤ 3) (hmk : 0 ≤ mk ∧ mk < 1000000) (hQ : ¬ (tl (85 * l + 64 + 4 * y9 + x9) = -1)) : Ct g yX10_tile (.code yX10_tile cX10_tile 5 (some .int)) 7 1 6 [vR 0, vI 2, vI l, vI x9, vI y9] h (Rt (some (vI (tl (85 * l + 64 + 4 * y9 + x9)))) h) := by
  refine Ct.of (by decide) (Nat.le_of_ble_eq_true rfl) (fun x hg C F => ?_)
  subst hg
  have hok : TileOk 2 l x9 y9 := by unfold TileOk; omega
  show T x 0 [(0, vR 0), (1, vI 2), (2, vI l), (3, vI x9), (4, vI y9)] [] h 0 0
  refine st_iload_n C 1 dX10_tile_0 rfl rfl ?_
  refine st_iload_n C 2 dX10_tile_1 rfl rfl ?_
  refine st_iload_n C 3 dX10_tile_2 rfl rfl ?_
  refine st_iload C dX10_tile_3 rfl ?_
  by_cases b_5 : TileOk 2 l x9 y9
  · refine st_callS (st := []) C dX10_tile_5 [vI 2, vI l, vI x9, vI y9] (k_isTile_t (s9 := 2) (l := l) (x9 := x9) (y9 := y9)  b_5) w_X10_232 rfl (by decide) (by decide) (by omega) (by omega) (Nat.le_of_ble_eq_true rfl) (ko_rt ?_)
    show T x 8 [(0, vR 0), (1, vI 2), (2, vI l), (3, vI x9), (4, vI y9)] [vI 1] _ _ _
    refine st_callS (st := []) C dX10_tile_8 [vI 1] k_need_t w_X10_81 rfl (by decide) (by decide) (by omega) (by omega) (Nat.le_of_ble_eq_true rfl) (ko_rn ?_)
    show T x 11 [(0, vR 0), (1, vI 2), (2, vI l), (3, vI x9), (4, vI y9)] [] _ _ _
    refine st_aload_n C 0 dX10_tile_11 rfl rfl ?_
    refine st_getf C dX10_tile_12 fl_X10_51 hs rfl ?_
    refine st_aload_n C 0 dX10_tile_15 rfl rfl ?_
    refine st_getf C dX10_tile_16 fl_X10_9 hs rfl ?_
    refine st_iload_n C 1 dX10_tile_19 rfl rfl ?_
    refine st_callS (st := [vR 1, vR 7]) C dX10_tile_20 [vI 2] k_levelOf1 w_X10_236 rfl (by decide) (by decide) (by omega) (by omega) (Nat.le_of_ble_eq_true rfl) (ko_rt ?_)
    show T x 23 [(0, vR 0), (1, vI 2), (2, vI l), (3, vI x9), (4, vI y9)] [vI 1, vR 1, vR 7] _ _ _
    refine st_iload_n C 2 dX10_tile_23 rfl rfl ?_
    refine st_iload_n C 3 dX10_tile_24 rfl rfl ?_
    refine st_iload C dX10_tile_25 rfl ?_
    by_cases b_27 : tl (85 * l + 64 + 4 * y9 + x9) = -1
    · refine st_callV (st := []) C dX10_tile_27 [vR 1, vI 1, vI l, vI x9, vI y9] (k_ask1_t (mk := mk) (af := tl) (mf := mf) (l := l) (x9 := x9) (y9 := y9) hL.1 hL.2 hM (by omega) (by omega) (by omega) (by omega) (by omega) (by omega) b_27 (by omega)) hL.1 w_X10_239 rfl (by decide) (by decide) (by omega) (by omega) (Nat.le_of_ble_eq_true rfl) (ko_rt ?_)
      show T x 30 [(0, vR 0), (1, vI 2), (2, vI l), (3, vI x9), (4, vI y9)] [vI (mcaV mf l 2 x9 y9)] (hput (hput h 13 (oI 255 (fput tl (85 * l + 64 + 4 * y9 + x9) (mcaV mf l 2 x9 y9)))) 7 (oO 7 [vI (mk + 1), vR 13])) _ _
      exact st_ireturn C F dX10_tile_30 rfl (by first | exact absurd hok (by assumption) | exact ⟨by with_reducible rfl, by with_reducible rfl⟩ | exact absurd (by assumption) hQ | exact absurd hQ (by assumption)) (by omega) (by omega)
    · refine st_callV (st := []) C dX10_tile_27 [vR 1, vI 1, vI l, vI x9, vI y9] (k_ask1_f (mk := mk) (af := tl) (mf := mf) (l := l) (x9 := x9) (y9 := y9) hL.1 hL.2 hM (by omega) (by omega) (by omega) (by omega) (by omega) (by omega) b_27) hL.1 w_X10_239 rfl (by decide) (by decide) (by omega) (by omega) (Nat.le_of_ble_eq_true rfl) (ko_rt ?_)
      show T x 30 [(0, vR 0), (1, vI 2), (2, vI l), (3, vI x9), (4, vI y9)] [vI (tl (85 * l + 64 + 4 * y9 + x9))] _ _ _
      exact st_ireturn C F dX10_tile_30 rfl (by first | exact absurd hok (by assumption) | exact ⟨by with_reducible rfl, by with_reducible rfl⟩ | exact absurd (by assumption) hQ | exact absurd hQ (by assumption)) (by omega) (by omega)
  · refine st_callS (st := []) C dX10_tile_5 [vI 2, vI l, vI x9, vI y9] (k_isTile_f (s9 := 2) (l := l) (x9 := x9) (y9 := y9)  b_5) w_X10_232 rfl (by decide) (by decide) (by omega) (by omega) (Nat.le_of_ble_eq_true rfl) (ko_rt ?_)
    show T x 8 [(0, vR 0), (1, vI 2), (2, vI l), (3, vI x9), (4, vI y9)] [vI 0] _ _ _
    refine st_callS (st := []) C dX10_tile_8 [vI 0] k_need_f w_X10_81 rfl (by decide) (by decide) (by omega) (by omega) (Nat.le_of_ble_eq_true rfl) (ko_th ?_)
    exact st_out C F (by first | exact absurd hok (by assumption) | exact ⟨by with_reducible rfl, by with_reducible rfl⟩ | exact absurd (by assumption) hQ | exact absurd hQ (by assumption)) (by omega) (by omega)
set_option maxRecDepth 20000 in
set_option maxHeartbeats 4000000 in
theorem s_tile1_t {g : Gx} {h : HP} {rc dc : Int} {mf : Int → Int} {mk : Int} {tl : Int → Int} {l x9 y9 : Int} (hs : cS h rc dc) (hM : cM h mf) (hL : cL h mk tl) (hl : 0 ≤ l ∧ l ≤ 2) (hx : 0 ≤ x9 ∧ x9 ≤ 3) (hy : 0 ≤ y9 ∧ y9 ≤ 3) (hmk : 0 ≤ mk ∧ mk < 1000000) (hQ : tl (85 * l + 64 + 4 * y9 + x9) = -1) : Ct g yX10_tile (.code yX10_tile cX10_tile 5 (some .int)) 7 1 6 [vR 0, vI 2, vI l, vI x9, vI y9] h (Rt (some (vI (mcaV mf l 2 x9 y9))) (hput (hput h 13 (oI 255 (fput tl (85 * l + 64 + 4 * y9 + x9) (mcaV mf l 2 x9 y9)))) 7 (oO 7 [vI (mk + 1), vR 13]))) := by
  refine Ct.of (by decide) (Nat.le_of_ble_eq_true rfl) (fun x hg C F => ?_)
  subst hg
  have hok : TileOk 2 l x9 y9 := by unfold TileOk; omega
  show T x 0 [(0, vR 0), (1, vI 2), (2, vI l), (3, vI x9), (4, vI y9)] [] h 0 0
  refine st_iload_n C 1 dX10_tile_0 rfl rfl ?_
  refine st_iload_n C 2 dX10_tile_1 rfl rfl ?_
  refine st_iload_n C 3 dX10_tile_2 rfl rfl ?_
  refine st_iload C dX10_tile_3 rfl ?_
  by_cases b_5 : TileOk 2 l x9 y9
  · refine st_callS (st := []) C dX10_tile_5 [vI 2, vI l, vI x9, vI y9] (k_isTile_t (s9 := 2) (l := l) (x9 := x9) (y9 := y9)  b_5) w_X10_232 rfl (by decide) (by decide) (by omega) (by omega) (Nat.le_of_ble_eq_true rfl) (ko_rt ?_)
    show T x 8 [(0, vR 0), (1, vI 2), (2, vI l), (3, vI x9), (4, vI y9)] [vI 1] _ _ _
    refine st_callS (st := []) C dX10_tile_8 [vI 1] k_need_t w_X10_81 rfl (by decide) (by decide) (by omega) (by omega) (Nat.le_of_ble_eq_true rfl) (ko_rn ?_)
    show T x 11 [(0, vR 0), (1, vI 2), (2, vI l), (3, vI x9), (4, vI y9)] [] _ _ _
    refine st_aload_n C 0 dX10_tile_11 rfl rfl ?_
    refine st_getf C dX10_tile_12 fl_X10_51 hs rfl ?_
    refine st_aload_n C 0 dX10_tile_15 rfl rfl ?_
    refine st_getf C dX10_tile_16 fl_X10_9 hs rfl ?_
    refine st_iload_n C 1 dX10_tile_19 rfl rfl ?_
    refine st_callS (st := [vR 1, vR 7]) C dX10_tile_20 [vI 2] k_levelOf1 w_X10_236 rfl (by decide) (by decide) (by omega) (by omega) (Nat.le_of_ble_eq_true rfl) (ko_rt ?_)
    show T x 23 [(0, vR 0), (1, vI 2), (2, vI l), (3, vI x9), (4, vI y9)] [vI 1, vR 1, vR 7] _ _ _
    refine st_iload_n C 2 dX10_tile_23 rfl rfl ?_
    refine st_iload_n C 3 dX10_tile_24 rfl rfl ?_
    refine st_iload C dX10_tile_25 rfl ?_
    by_cases b_27 : tl (85 * l + 64 + 4 * y9 + x9) = -1
    · refine st_callV (st := []) C dX10_tile_27 [vR 1, vI 1, vI l, vI x9, vI y9] (k_ask1_t (mk := mk) (af := tl) (mf := mf) (l := l) (x9 := x9) (y9 := y9) hL.1 hL.2 hM (by omega) (by omega) (by omega) (by omega) (by omega) (by omega) b_27 (by omega)) hL.1 w_X10_239 rfl (by decide) (by decide) (by omega) (by omega) (Nat.le_of_ble_eq_true rfl) (ko_rt ?_)
      show T x 30 [(0, vR 0), (1, vI 2), (2, vI l), (3, vI x9), (4, vI y9)] [vI (mcaV mf l 2 x9 y9)] (hput (hput h 13 (oI 255 (fput tl (85 * l + 64 + 4 * y9 + x9) (mcaV mf l 2 x9 y9)))) 7 (oO 7 [vI (mk + 1), vR 13])) _ _
      exact st_ireturn C F dX10_tile_30 rfl (by first | exact absurd hok (by assumption) | exact ⟨by with_reducible rfl, by with_reducible rfl⟩ | exact absurd (by assumption) hQ | exact absurd hQ (by assumption)) (by omega) (by omega)
    · refine st_callV (st := []) C dX10_tile_27 [vR 1, vI 1, vI l, vI x9, vI y9] (k_ask1_f (mk := mk) (af := tl) (mf := mf) (l := l) (x9 := x9) (y9 := y9) hL.1 hL.2 hM (by omega) (by omega) (by omega) (by omega) (by omega) (by omega) b_27) hL.1 w_X10_239 rfl (by decide) (by decide) (by omega) (by omega) (Nat.le_of_ble_eq_true rfl) (ko_rt ?_)
      show T x 30 [(0, vR 0), (1, vI 2), (2, vI l), (3, vI x9), (4, vI y9)] [vI (tl (85 * l + 64 + 4 * y9 + x9))] _ _ _
      exact st_ireturn C F dX10_tile_30 rfl (by first | exact absurd hok (by assumption) | exact ⟨by with_reducible rfl, by with_reducible rfl⟩ | exact absurd (by assumption) hQ | exact absurd hQ (by assumption)) (by omega) (by omega)
  · refine st_callS (st := []) C dX10_tile_5 [vI 2, vI l, vI x9, vI y9] (k_isTile_f (s9 := 2) (l := l) (x9 := x9) (y9 := y9)  b_5) w_X10_232 rfl (by decide) (by decide) (by omega) (by omega) (Nat.le_of_ble_eq_true rfl) (ko_rt ?_)
    show T x 8 [(0, vR 0), (1, vI 2), (2, vI l), (3, vI x9), (4, vI y9)] [vI 0] _ _ _
    refine st_callS (st := []) C dX10_tile_8 [vI 0] k_need_f w_X10_81 rfl (by decide) (by decide) (by omega) (by omega) (Nat.le_of_ble_eq_true rfl) (ko_th ?_)
    exact st_out C F (by first | exact absurd hok (by assumption) | exact ⟨by with_reducible rfl, by with_reducible rfl⟩ | exact absurd (by assumption) hQ | exact absurd hQ (by assumption)) (by omega) (by omega)
set_option maxRecDepth 20000 in
set_option maxHeartbeats 4000000 in
theorem s_isKept2_t {g : Gx} {h : HP} {rc dc : Int} {mk : Int} {tl : Int → Int} {l x9 y9 : Int} (hs : cS h rc dc) (hL : cL h mk tl) (hl : 0 ≤ l ∧ l ≤ 2) (hx : 0 ≤ x9 ∧ x9 ≤ 1) (hy : 0 ≤ y9 ∧ y9 ≤ 1) (hQ : tl (85 * l + 80 + 2 * y9 + x9) ≠ -1) : Ct g yX10_isKept (.code yX10_isKept cX10_isKept 5 (some .boolean)) 7 1 6 [vR 0, vI 4, vI l, vI x9, vI y9] h (Rt (some (vI 1)) h) := by
  refine Ct.of (by decide) (Nat.le_of_ble_eq_true rfl) (fun x hg C F => ?_)
  subst hg
  have hok : TileOk 4 l x9 y9 := by unfold TileOk; omega
  show T x 0 [(0, vR 0), (1, vI 4), (2, vI l), (3, vI x9), (4, vI y9)] [] h 0 0
  refine st_iload_n C 1 dX10_isKept_0 rfl rfl ?_
  refine st_iload_n C 2 dX10_isKept_1 rfl rfl ?_
  refine st_iload_n C 3 dX10_isKept_2 rfl rfl ?_
  refine st_iload C dX10_isKept_3 rfl ?_
  by_cases b_5 : TileOk 4 l x9 y9
  · refine st_callS (st := []) C dX10_isKept_5 [vI 4, vI l, vI x9, vI y9] (k_isTile_t (s9 := 4) (l := l) (x9 := x9) (y9 := y9)  b_5) w_X10_232 rfl (by decide) (by decide) (by omega) (by omega) (Nat.le_of_ble_eq_true rfl) (ko_rt ?_)
    show T x 8 [(0, vR 0), (1, vI 4), (2, vI l), (3, vI x9), (4, vI y9)] [vI 1] _ _ _
    refine st_callS (st := []) C dX10_isKept_8 [vI 1] k_need_t w_X10_81 rfl (by decide) (by decide) (by omega) (by omega) (Nat.le_of_ble_eq_true rfl) (ko_rn ?_)
    show T x 11 [(0, vR 0), (1, vI 4), (2, vI l), (3, vI x9), (4, vI y9)] [] _ _ _
    refine st_aload_n C 0 dX10_isKept_11 rfl rfl ?_
    refine st_getf C dX10_isKept_12 fl_X10_51 hs rfl ?_
    refine st_iload_n C 1 dX10_isKept_15 rfl rfl ?_
    refine st_callS (st := [vR 7]) C dX10_isKept_16 [vI 4] k_levelOf2 w_X10_236 rfl (by decide) (by decide) (by omega) (by omega) (Nat.le_of_ble_eq_true rfl) (ko_rt ?_)
    show T x 19 [(0, vR 0), (1, vI 4), (2, vI l), (3, vI x9), (4, vI y9)] [vI 2, vR 7] _ _ _
    refine st_iload_n C 2 dX10_isKept_19 rfl rfl ?_
    refine st_iload_n C 3 dX10_isKept_20 rfl rfl ?_
    refine st_iload C dX10_isKept_21 rfl ?_
    by_cases b_23 : tl (85 * l + 80 + 2 * y9 + x9) ≠ -1
    · refine st_callV (st := []) C dX10_isKept_23 [vI 2, vI l, vI x9, vI y9] (k_holds2_t (af := tl) (l := l) (x9 := x9) (y9 := y9) hL.1 hL.2 (by omega) (by omega) (by omega) b_23) hL.1 w_X10_243 rfl (by decide) (by decide) (by omega) (by omega) (Nat.le_of_ble_eq_true rfl) (ko_rt ?_)
      show T x 26 [(0, vR 0), (1, vI 4), (2, vI l), (3, vI x9), (4, vI y9)] [vI 1] _ _ _
      exact st_zreturn C F dX10_isKept_26 rfl (by omega) (by first | exact absurd hok (by assumption) | exact ⟨by with_reducible rfl, by with_reducible rfl⟩ | exact absurd (by assumption) hQ | exact absurd hQ (by assumption)) (by omega) (by omega)
    · refine st_callV (st := []) C dX10_isKept_23 [vI 2, vI l, vI x9, vI y9] (k_holds2_f (af := tl) (l := l) (x9 := x9) (y9 := y9) hL.1 hL.2 (by omega) (by omega) (by omega) b_23) hL.1 w_X10_243 rfl (by decide) (by decide) (by omega) (by omega) (Nat.le_of_ble_eq_true rfl) (ko_rt ?_)
      show T x 26 [(0, vR 0), (1, vI 4), (2, vI l), (3, vI x9), (4, vI y9)] [vI 0] _ _ _
      exact st_zreturn C F dX10_isKept_26 rfl (by omega) (by first | exact absurd hok (by assumption) | exact ⟨by with_reducible rfl, by with_reducible rfl⟩ | exact absurd (by assumption) hQ | exact absurd hQ (by assumption)) (by omega) (by omega)
  · refine st_callS (st := []) C dX10_isKept_5 [vI 4, vI l, vI x9, vI y9] (k_isTile_f (s9 := 4) (l := l) (x9 := x9) (y9 := y9)  b_5) w_X10_232 rfl (by decide) (by decide) (by omega) (by omega) (Nat.le_of_ble_eq_true rfl) (ko_rt ?_)
    show T x 8 [(0, vR 0), (1, vI 4), (2, vI l), (3, vI x9), (4, vI y9)] [vI 0] _ _ _
    refine st_callS (st := []) C dX10_isKept_8 [vI 0] k_need_f w_X10_81 rfl (by decide) (by decide) (by omega) (by omega) (Nat.le_of_ble_eq_true rfl) (ko_th ?_)
    exact st_out C F (by first | exact absurd hok (by assumption) | exact ⟨by with_reducible rfl, by with_reducible rfl⟩ | exact absurd (by assumption) hQ | exact absurd hQ (by assumption)) (by omega) (by omega)
set_option maxRecDepth 20000 in
set_option maxHeartbeats 4000000 in
theorem s_isKept2_f {g : Gx} {h : HP} {rc dc : Int} {mk : Int} {tl : Int → Int} {l x9 y9 : Int} (hs : cS h rc dc) (hL : cL h mk tl) (hl : 0 ≤ l ∧ l ≤ 2) (hx : 0 ≤ x9 ∧ x9 ≤ 1) (hy : 0 ≤ y9 ∧ y9 ≤ 1) (hQ : ¬ (tl (85 * l + 80 + 2 * y9 + x9) ≠ -1)) : Ct g yX10_isKept (.code yX10_isKept cX10_isKept 5 (some .boolean)) 7 1 6 [vR 0, vI 4, vI l, vI x9, vI y9] h (Rt (some (vI 0)) h) := by
  refine Ct.of (by decide) (Nat.le_of_ble_eq_true rfl) (fun x hg C F => ?_)
  subst hg
  have hok : TileOk 4 l x9 y9 := by unfold TileOk; omega
  show T x 0 [(0, vR 0), (1, vI 4), (2, vI l), (3, vI x9), (4, vI y9)] [] h 0 0
  refine st_iload_n C 1 dX10_isKept_0 rfl rfl ?_
  refine st_iload_n C 2 dX10_isKept_1 rfl rfl ?_
  refine st_iload_n C 3 dX10_isKept_2 rfl rfl ?_
  refine st_iload C dX10_isKept_3 rfl ?_
  by_cases b_5 : TileOk 4 l x9 y9
  · refine st_callS (st := []) C dX10_isKept_5 [vI 4, vI l, vI x9, vI y9] (k_isTile_t (s9 := 4) (l := l) (x9 := x9) (y9 := y9)  b_5) w_X10_232 rfl (by decide) (by decide) (by omega) (by omega) (Nat.le_of_ble_eq_true rfl) (ko_rt ?_)
    show T x 8 [(0, vR 0), (1, vI 4), (2, vI l), (3, vI x9), (4, vI y9)] [vI 1] _ _ _
    refine st_callS (st := []) C dX10_isKept_8 [vI 1] k_need_t w_X10_81 rfl (by decide) (by decide) (by omega) (by omega) (Nat.le_of_ble_eq_true rfl) (ko_rn ?_)
    show T x 11 [(0, vR 0), (1, vI 4), (2, vI l), (3, vI x9), (4, vI y9)] [] _ _ _
    refine st_aload_n C 0 dX10_isKept_11 rfl rfl ?_
    refine st_getf C dX10_isKept_12 fl_X10_51 hs rfl ?_
    refine st_iload_n C 1 dX10_isKept_15 rfl rfl ?_
    refine st_callS (st := [vR 7]) C dX10_isKept_16 [vI 4] k_levelOf2 w_X10_236 rfl (by decide) (by decide) (by omega) (by omega) (Nat.le_of_ble_eq_true rfl) (ko_rt ?_)
    show T x 19 [(0, vR 0), (1, vI 4), (2, vI l), (3, vI x9), (4, vI y9)] [vI 2, vR 7] _ _ _
    refine st_iload_n C 2 dX10_isKept_19 rfl rfl ?_
    refine st_iload_n C 3 dX10_isKept_20 rfl rfl ?_
    refine st_iload C dX10_isKept_21 rfl ?_
    by_cases b_23 : tl (85 * l + 80 + 2 * y9 + x9) ≠ -1
    · refine st_callV (st := []) C dX10_isKept_23 [vI 2, vI l, vI x9, vI y9] (k_holds2_t (af := tl) (l := l) (x9 := x9) (y9 := y9) hL.1 hL.2 (by omega) (by omega) (by omega) b_23) hL.1 w_X10_243 rfl (by decide) (by decide) (by omega) (by omega) (Nat.le_of_ble_eq_true rfl) (ko_rt ?_)
      show T x 26 [(0, vR 0), (1, vI 4), (2, vI l), (3, vI x9), (4, vI y9)] [vI 1] _ _ _
      exact st_zreturn C F dX10_isKept_26 rfl (by omega) (by first | exact absurd hok (by assumption) | exact ⟨by with_reducible rfl, by with_reducible rfl⟩ | exact absurd (by assumption) hQ | exact absurd hQ (by assumption)) (by omega) (by omega)
    · refine st_callV (st := []) C dX10_isKept_23 [vI 2, vI l, vI x9, vI y9] (k_holds2_f (af := tl) (l := l) (x9 := x9) (y9 := y9) hL.1 hL.2 (by omega) (by omega) (by omega) b_23) hL.1 w_X10_243 rfl (by decide) (by decide) (by omega) (by omega) (Nat.le_of_ble_eq_true rfl) (ko_rt ?_)
      show T x 26 [(0, vR 0), (1, vI 4), (2, vI l), (3, vI x9), (4, vI y9)] [vI 0] _ _ _
      exact st_zreturn C F dX10_isKept_26 rfl (by omega) (by first | exact absurd hok (by assumption) | exact ⟨by with_reducible rfl, by with_reducible rfl⟩ | exact absurd (by assumption) hQ | exact absurd hQ (by assumption)) (by omega) (by omega)
  · refine st_callS (st := []) C dX10_isKept_5 [vI 4, vI l, vI x9, vI y9] (k_isTile_f (s9 := 4) (l := l) (x9 := x9) (y9 := y9)  b_5) w_X10_232 rfl (by decide) (by decide) (by omega) (by omega) (Nat.le_of_ble_eq_true rfl) (ko_rt ?_)
    show T x 8 [(0, vR 0), (1, vI 4), (2, vI l), (3, vI x9), (4, vI y9)] [vI 0] _ _ _
    refine st_callS (st := []) C dX10_isKept_8 [vI 0] k_need_f w_X10_81 rfl (by decide) (by decide) (by omega) (by omega) (Nat.le_of_ble_eq_true rfl) (ko_th ?_)
    exact st_out C F (by first | exact absurd hok (by assumption) | exact ⟨by with_reducible rfl, by with_reducible rfl⟩ | exact absurd (by assumption) hQ | exact absurd hQ (by assumption)) (by omega) (by omega)
set_option maxRecDepth 20000 in
set_option maxHeartbeats 4000000 in
theorem s_tile2_f {g : Gx} {h : HP} {rc dc : Int} {mf : Int → Int} {mk : Int} {tl : Int → Int} {l x9 y9 : Int} (hs : cS h rc dc) (hM : cM h mf) (hL : cL h mk tl) (hl : 0 ≤ l ∧ l ≤ 2) (hx : 0 ≤ x9 ∧ x9 ≤ 1) (hy : 0 ≤ y9 ∧ y9 ≤ 1) (hmk : 0 ≤ mk ∧ mk < 1000000) (hQ : ¬ (tl (85 * l + 80 + 2 * y9 + x9) = -1)) : Ct g yX10_tile (.code yX10_tile cX10_tile 5 (some .int)) 7 1 6 [vR 0, vI 4, vI l, vI x9, vI y9] h (Rt (some (vI (tl (85 * l + 80 + 2 * y9 + x9)))) h) := by
  refine Ct.of (by decide) (Nat.le_of_ble_eq_true rfl) (fun x hg C F => ?_)
  subst hg
  have hok : TileOk 4 l x9 y9 := by unfold TileOk; omega
  show T x 0 [(0, vR 0), (1, vI 4), (2, vI l), (3, vI x9), (4, vI y9)] [] h 0 0
  refine st_iload_n C 1 dX10_tile_0 rfl rfl ?_
  refine st_iload_n C 2 dX10_tile_1 rfl rfl ?_
  refine st_iload_n C 3 dX10_tile_2 rfl rfl ?_
  refine st_iload C dX10_tile_3 rfl ?_
  by_cases b_5 : TileOk 4 l x9 y9
  · refine st_callS (st := []) C dX10_tile_5 [vI 4, vI l, vI x9, vI y9] (k_isTile_t (s9 := 4) (l := l) (x9 := x9) (y9 := y9)  b_5) w_X10_232 rfl (by decide) (by decide) (by omega) (by omega) (Nat.le_of_ble_eq_true rfl) (ko_rt ?_)
    show T x 8 [(0, vR 0), (1, vI 4), (2, vI l), (3, vI x9), (4, vI y9)] [vI 1] _ _ _
    refine st_callS (st := []) C dX10_tile_8 [vI 1] k_need_t w_X10_81 rfl (by decide) (by decide) (by omega) (by omega) (Nat.le_of_ble_eq_true rfl) (ko_rn ?_)
    show T x 11 [(0, vR 0), (1, vI 4), (2, vI l), (3, vI x9), (4, vI y9)] [] _ _ _
    refine st_aload_n C 0 dX10_tile_11 rfl rfl ?_
    refine st_getf C dX10_tile_12 fl_X10_51 hs rfl ?_
    refine st_aload_n C 0 dX10_tile_15 rfl rfl ?_
    refine st_getf C dX10_tile_16 fl_X10_9 hs rfl ?_
    refine st_iload_n C 1 dX10_tile_19 rfl rfl ?_
    refine st_callS (st := [vR 1, vR 7]) C dX10_tile_20 [vI 4] k_levelOf2 w_X10_236 rfl (by decide) (by decide) (by omega) (by omega) (Nat.le_of_ble_eq_true rfl) (ko_rt ?_)
    show T x 23 [(0, vR 0), (1, vI 4), (2, vI l), (3, vI x9), (4, vI y9)] [vI 2, vR 1, vR 7] _ _ _
    refine st_iload_n C 2 dX10_tile_23 rfl rfl ?_
    refine st_iload_n C 3 dX10_tile_24 rfl rfl ?_
    refine st_iload C dX10_tile_25 rfl ?_
    by_cases b_27 : tl (85 * l + 80 + 2 * y9 + x9) = -1
    · refine st_callV (st := []) C dX10_tile_27 [vR 1, vI 2, vI l, vI x9, vI y9] (k_ask2_t (mk := mk) (af := tl) (mf := mf) (l := l) (x9 := x9) (y9 := y9) hL.1 hL.2 hM (by omega) (by omega) (by omega) (by omega) (by omega) (by omega) b_27 (by omega)) hL.1 w_X10_239 rfl (by decide) (by decide) (by omega) (by omega) (Nat.le_of_ble_eq_true rfl) (ko_rt ?_)
      show T x 30 [(0, vR 0), (1, vI 4), (2, vI l), (3, vI x9), (4, vI y9)] [vI (mcaV mf l 4 x9 y9)] (hput (hput h 13 (oI 255 (fput tl (85 * l + 80 + 2 * y9 + x9) (mcaV mf l 4 x9 y9)))) 7 (oO 7 [vI (mk + 1), vR 13])) _ _
      exact st_ireturn C F dX10_tile_30 rfl (by first | exact absurd hok (by assumption) | exact ⟨by with_reducible rfl, by with_reducible rfl⟩ | exact absurd (by assumption) hQ | exact absurd hQ (by assumption)) (by omega) (by omega)
    · refine st_callV (st := []) C dX10_tile_27 [vR 1, vI 2, vI l, vI x9, vI y9] (k_ask2_f (mk := mk) (af := tl) (mf := mf) (l := l) (x9 := x9) (y9 := y9) hL.1 hL.2 hM (by omega) (by omega) (by omega) (by omega) (by omega) (by omega) b_27) hL.1 w_X10_239 rfl (by decide) (by decide) (by omega) (by omega) (Nat.le_of_ble_eq_true rfl) (ko_rt ?_)
      show T x 30 [(0, vR 0), (1, vI 4), (2, vI l), (3, vI x9), (4, vI y9)] [vI (tl (85 * l + 80 + 2 * y9 + x9))] _ _ _
      exact st_ireturn C F dX10_tile_30 rfl (by first | exact absurd hok (by assumption) | exact ⟨by with_reducible rfl, by with_reducible rfl⟩ | exact absurd (by assumption) hQ | exact absurd hQ (by assumption)) (by omega) (by omega)
  · refine st_callS (st := []) C dX10_tile_5 [vI 4, vI l, vI x9, vI y9] (k_isTile_f (s9 := 4) (l := l) (x9 := x9) (y9 := y9)  b_5) w_X10_232 rfl (by decide) (by decide) (by omega) (by omega) (Nat.le_of_ble_eq_true rfl) (ko_rt ?_)
    show T x 8 [(0, vR 0), (1, vI 4), (2, vI l), (3, vI x9), (4, vI y9)] [vI 0] _ _ _
    refine st_callS (st := []) C dX10_tile_8 [vI 0] k_need_f w_X10_81 rfl (by decide) (by decide) (by omega) (by omega) (Nat.le_of_ble_eq_true rfl) (ko_th ?_)
    exact st_out C F (by first | exact absurd hok (by assumption) | exact ⟨by with_reducible rfl, by with_reducible rfl⟩ | exact absurd (by assumption) hQ | exact absurd hQ (by assumption)) (by omega) (by omega)
set_option maxRecDepth 20000 in
set_option maxHeartbeats 4000000 in
theorem s_tile2_t {g : Gx} {h : HP} {rc dc : Int} {mf : Int → Int} {mk : Int} {tl : Int → Int} {l x9 y9 : Int} (hs : cS h rc dc) (hM : cM h mf) (hL : cL h mk tl) (hl : 0 ≤ l ∧ l ≤ 2) (hx : 0 ≤ x9 ∧ x9 ≤ 1) (hy : 0 ≤ y9 ∧ y9 ≤ 1) (hmk : 0 ≤ mk ∧ mk < 1000000) (hQ : tl (85 * l + 80 + 2 * y9 + x9) = -1) : Ct g yX10_tile (.code yX10_tile cX10_tile 5 (some .int)) 7 1 6 [vR 0, vI 4, vI l, vI x9, vI y9] h (Rt (some (vI (mcaV mf l 4 x9 y9))) (hput (hput h 13 (oI 255 (fput tl (85 * l + 80 + 2 * y9 + x9) (mcaV mf l 4 x9 y9)))) 7 (oO 7 [vI (mk + 1), vR 13]))) := by
  refine Ct.of (by decide) (Nat.le_of_ble_eq_true rfl) (fun x hg C F => ?_)
  subst hg
  have hok : TileOk 4 l x9 y9 := by unfold TileOk; omega
  show T x 0 [(0, vR 0), (1, vI 4), (2, vI l), (3, vI x9), (4, vI y9)] [] h 0 0
  refine st_iload_n C 1 dX10_tile_0 rfl rfl ?_
  refine st_iload_n C 2 dX10_tile_1 rfl rfl ?_
  refine st_iload_n C 3 dX10_tile_2 rfl rfl ?_
  refine st_iload C dX10_tile_3 rfl ?_
  by_cases b_5 : TileOk 4 l x9 y9
  · refine st_callS (st := []) C dX10_tile_5 [vI 4, vI l, vI x9, vI y9] (k_isTile_t (s9 := 4) (l := l) (x9 := x9) (y9 := y9)  b_5) w_X10_232 rfl (by decide) (by decide) (by omega) (by omega) (Nat.le_of_ble_eq_true rfl) (ko_rt ?_)
    show T x 8 [(0, vR 0), (1, vI 4), (2, vI l), (3, vI x9), (4, vI y9)] [vI 1] _ _ _
    refine st_callS (st := []) C dX10_tile_8 [vI 1] k_need_t w_X10_81 rfl (by decide) (by decide) (by omega) (by omega) (Nat.le_of_ble_eq_true rfl) (ko_rn ?_)
    show T x 11 [(0, vR 0), (1, vI 4), (2, vI l), (3, vI x9), (4, vI y9)] [] _ _ _
    refine st_aload_n C 0 dX10_tile_11 rfl rfl ?_
    refine st_getf C dX10_tile_12 fl_X10_51 hs rfl ?_
    refine st_aload_n C 0 dX10_tile_15 rfl rfl ?_
    refine st_getf C dX10_tile_16 fl_X10_9 hs rfl ?_
    refine st_iload_n C 1 dX10_tile_19 rfl rfl ?_
    refine st_callS (st := [vR 1, vR 7]) C dX10_tile_20 [vI 4] k_levelOf2 w_X10_236 rfl (by decide) (by decide) (by omega) (by omega) (Nat.le_of_ble_eq_true rfl) (ko_rt ?_)
    show T x 23 [(0, vR 0), (1, vI 4), (2, vI l), (3, vI x9), (4, vI y9)] [vI 2, vR 1, vR 7] _ _ _
    refine st_iload_n C 2 dX10_tile_23 rfl rfl ?_
    refine st_iload_n C 3 dX10_tile_24 rfl rfl ?_
    refine st_iload C dX10_tile_25 rfl ?_
    by_cases b_27 : tl (85 * l + 80 + 2 * y9 + x9) = -1
    · refine st_callV (st := []) C dX10_tile_27 [vR 1, vI 2, vI l, vI x9, vI y9] (k_ask2_t (mk := mk) (af := tl) (mf := mf) (l := l) (x9 := x9) (y9 := y9) hL.1 hL.2 hM (by omega) (by omega) (by omega) (by omega) (by omega) (by omega) b_27 (by omega)) hL.1 w_X10_239 rfl (by decide) (by decide) (by omega) (by omega) (Nat.le_of_ble_eq_true rfl) (ko_rt ?_)
      show T x 30 [(0, vR 0), (1, vI 4), (2, vI l), (3, vI x9), (4, vI y9)] [vI (mcaV mf l 4 x9 y9)] (hput (hput h 13 (oI 255 (fput tl (85 * l + 80 + 2 * y9 + x9) (mcaV mf l 4 x9 y9)))) 7 (oO 7 [vI (mk + 1), vR 13])) _ _
      exact st_ireturn C F dX10_tile_30 rfl (by first | exact absurd hok (by assumption) | exact ⟨by with_reducible rfl, by with_reducible rfl⟩ | exact absurd (by assumption) hQ | exact absurd hQ (by assumption)) (by omega) (by omega)
    · refine st_callV (st := []) C dX10_tile_27 [vR 1, vI 2, vI l, vI x9, vI y9] (k_ask2_f (mk := mk) (af := tl) (mf := mf) (l := l) (x9 := x9) (y9 := y9) hL.1 hL.2 hM (by omega) (by omega) (by omega) (by omega) (by omega) (by omega) b_27) hL.1 w_X10_239 rfl (by decide) (by decide) (by omega) (by omega) (Nat.le_of_ble_eq_true rfl) (ko_rt ?_)
      show T x 30 [(0, vR 0), (1, vI 4), (2, vI l), (3, vI x9), (4, vI y9)] [vI (tl (85 * l + 80 + 2 * y9 + x9))] _ _ _
      exact st_ireturn C F dX10_tile_30 rfl (by first | exact absurd hok (by assumption) | exact ⟨by with_reducible rfl, by with_reducible rfl⟩ | exact absurd (by assumption) hQ | exact absurd hQ (by assumption)) (by omega) (by omega)
  · refine st_callS (st := []) C dX10_tile_5 [vI 4, vI l, vI x9, vI y9] (k_isTile_f (s9 := 4) (l := l) (x9 := x9) (y9 := y9)  b_5) w_X10_232 rfl (by decide) (by decide) (by omega) (by omega) (Nat.le_of_ble_eq_true rfl) (ko_rt ?_)
    show T x 8 [(0, vR 0), (1, vI 4), (2, vI l), (3, vI x9), (4, vI y9)] [vI 0] _ _ _
    refine st_callS (st := []) C dX10_tile_8 [vI 0] k_need_f w_X10_81 rfl (by decide) (by decide) (by omega) (by omega) (Nat.le_of_ble_eq_true rfl) (ko_th ?_)
    exact st_out C F (by first | exact absurd hok (by assumption) | exact ⟨by with_reducible rfl, by with_reducible rfl⟩ | exact absurd (by assumption) hQ | exact absurd hQ (by assumption)) (by omega) (by omega)
set_option maxRecDepth 20000 in
set_option maxHeartbeats 4000000 in
theorem s_isKept3_t {g : Gx} {h : HP} {rc dc : Int} {mk : Int} {tl : Int → Int} {l x9 y9 : Int} (hs : cS h rc dc) (hL : cL h mk tl) (hl : 0 ≤ l ∧ l ≤ 2) (hx : 0 ≤ x9 ∧ x9 ≤ 0) (hy : 0 ≤ y9 ∧ y9 ≤ 0) (hQ : tl (85 * l + 84 + 1 * y9 + x9) ≠ -1) : Ct g yX10_isKept (.code yX10_isKept cX10_isKept 5 (some .boolean)) 7 1 6 [vR 0, vI 8, vI l, vI x9, vI y9] h (Rt (some (vI 1)) h) := by
  refine Ct.of (by decide) (Nat.le_of_ble_eq_true rfl) (fun x hg C F => ?_)
  subst hg
  have hok : TileOk 8 l x9 y9 := by unfold TileOk; omega
  show T x 0 [(0, vR 0), (1, vI 8), (2, vI l), (3, vI x9), (4, vI y9)] [] h 0 0
  refine st_iload_n C 1 dX10_isKept_0 rfl rfl ?_
  refine st_iload_n C 2 dX10_isKept_1 rfl rfl ?_
  refine st_iload_n C 3 dX10_isKept_2 rfl rfl ?_
  refine st_iload C dX10_isKept_3 rfl ?_
  by_cases b_5 : TileOk 8 l x9 y9
  · refine st_callS (st := []) C dX10_isKept_5 [vI 8, vI l, vI x9, vI y9] (k_isTile_t (s9 := 8) (l := l) (x9 := x9) (y9 := y9)  b_5) w_X10_232 rfl (by decide) (by decide) (by omega) (by omega) (Nat.le_of_ble_eq_true rfl) (ko_rt ?_)
    show T x 8 [(0, vR 0), (1, vI 8), (2, vI l), (3, vI x9), (4, vI y9)] [vI 1] _ _ _
    refine st_callS (st := []) C dX10_isKept_8 [vI 1] k_need_t w_X10_81 rfl (by decide) (by decide) (by omega) (by omega) (Nat.le_of_ble_eq_true rfl) (ko_rn ?_)
    show T x 11 [(0, vR 0), (1, vI 8), (2, vI l), (3, vI x9), (4, vI y9)] [] _ _ _
    refine st_aload_n C 0 dX10_isKept_11 rfl rfl ?_
    refine st_getf C dX10_isKept_12 fl_X10_51 hs rfl ?_
    refine st_iload_n C 1 dX10_isKept_15 rfl rfl ?_
    refine st_callS (st := [vR 7]) C dX10_isKept_16 [vI 8] k_levelOf3 w_X10_236 rfl (by decide) (by decide) (by omega) (by omega) (Nat.le_of_ble_eq_true rfl) (ko_rt ?_)
    show T x 19 [(0, vR 0), (1, vI 8), (2, vI l), (3, vI x9), (4, vI y9)] [vI 3, vR 7] _ _ _
    refine st_iload_n C 2 dX10_isKept_19 rfl rfl ?_
    refine st_iload_n C 3 dX10_isKept_20 rfl rfl ?_
    refine st_iload C dX10_isKept_21 rfl ?_
    by_cases b_23 : tl (85 * l + 84 + 1 * y9 + x9) ≠ -1
    · refine st_callV (st := []) C dX10_isKept_23 [vI 3, vI l, vI x9, vI y9] (k_holds3_t (af := tl) (l := l) (x9 := x9) (y9 := y9) hL.1 hL.2 (by omega) (by omega) (by omega) b_23) hL.1 w_X10_243 rfl (by decide) (by decide) (by omega) (by omega) (Nat.le_of_ble_eq_true rfl) (ko_rt ?_)
      show T x 26 [(0, vR 0), (1, vI 8), (2, vI l), (3, vI x9), (4, vI y9)] [vI 1] _ _ _
      exact st_zreturn C F dX10_isKept_26 rfl (by omega) (by first | exact absurd hok (by assumption) | exact ⟨by with_reducible rfl, by with_reducible rfl⟩ | exact absurd (by assumption) hQ | exact absurd hQ (by assumption)) (by omega) (by omega)
    · refine st_callV (st := []) C dX10_isKept_23 [vI 3, vI l, vI x9, vI y9] (k_holds3_f (af := tl) (l := l) (x9 := x9) (y9 := y9) hL.1 hL.2 (by omega) (by omega) (by omega) b_23) hL.1 w_X10_243 rfl (by decide) (by decide) (by omega) (by omega) (Nat.le_of_ble_eq_true rfl) (ko_rt ?_)
      show T x 26 [(0, vR 0), (1, vI 8), (2, vI l), (3, vI x9), (4, vI y9)] [vI 0] _ _ _
      exact st_zreturn C F dX10_isKept_26 rfl (by omega) (by first | exact absurd hok (by assumption) | exact ⟨by with_reducible rfl, by with_reducible rfl⟩ | exact absurd (by assumption) hQ | exact absurd hQ (by assumption)) (by omega) (by omega)
  · refine st_callS (st := []) C dX10_isKept_5 [vI 8, vI l, vI x9, vI y9] (k_isTile_f (s9 := 8) (l := l) (x9 := x9) (y9 := y9)  b_5) w_X10_232 rfl (by decide) (by decide) (by omega) (by omega) (Nat.le_of_ble_eq_true rfl) (ko_rt ?_)
    show T x 8 [(0, vR 0), (1, vI 8), (2, vI l), (3, vI x9), (4, vI y9)] [vI 0] _ _ _
    refine st_callS (st := []) C dX10_isKept_8 [vI 0] k_need_f w_X10_81 rfl (by decide) (by decide) (by omega) (by omega) (Nat.le_of_ble_eq_true rfl) (ko_th ?_)
    exact st_out C F (by first | exact absurd hok (by assumption) | exact ⟨by with_reducible rfl, by with_reducible rfl⟩ | exact absurd (by assumption) hQ | exact absurd hQ (by assumption)) (by omega) (by omega)
set_option maxRecDepth 20000 in
set_option maxHeartbeats 4000000 in
theorem s_isKept3_f {g : Gx} {h : HP} {rc dc : Int} {mk : Int} {tl : Int → Int} {l x9 y9 : Int} (hs : cS h rc dc) (hL : cL h mk tl) (hl : 0 ≤ l ∧ l ≤ 2) (hx : 0 ≤ x9 ∧ x9 ≤ 0) (hy : 0 ≤ y9 ∧ y9 ≤ 0) (hQ : ¬ (tl (85 * l + 84 + 1 * y9 + x9) ≠ -1)) : Ct g yX10_isKept (.code yX10_isKept cX10_isKept 5 (some .boolean)) 7 1 6 [vR 0, vI 8, vI l, vI x9, vI y9] h (Rt (some (vI 0)) h) := by
  refine Ct.of (by decide) (Nat.le_of_ble_eq_true rfl) (fun x hg C F => ?_)
  subst hg
  have hok : TileOk 8 l x9 y9 := by unfold TileOk; omega
  show T x 0 [(0, vR 0), (1, vI 8), (2, vI l), (3, vI x9), (4, vI y9)] [] h 0 0
  refine st_iload_n C 1 dX10_isKept_0 rfl rfl ?_
  refine st_iload_n C 2 dX10_isKept_1 rfl rfl ?_
  refine st_iload_n C 3 dX10_isKept_2 rfl rfl ?_
  refine st_iload C dX10_isKept_3 rfl ?_
  by_cases b_5 : TileOk 8 l x9 y9
  · refine st_callS (st := []) C dX10_isKept_5 [vI 8, vI l, vI x9, vI y9] (k_isTile_t (s9 := 8) (l := l) (x9 := x9) (y9 := y9)  b_5) w_X10_232 rfl (by decide) (by decide) (by omega) (by omega) (Nat.le_of_ble_eq_true rfl) (ko_rt ?_)
    show T x 8 [(0, vR 0), (1, vI 8), (2, vI l), (3, vI x9), (4, vI y9)] [vI 1] _ _ _
    refine st_callS (st := []) C dX10_isKept_8 [vI 1] k_need_t w_X10_81 rfl (by decide) (by decide) (by omega) (by omega) (Nat.le_of_ble_eq_true rfl) (ko_rn ?_)
    show T x 11 [(0, vR 0), (1, vI 8), (2, vI l), (3, vI x9), (4, vI y9)] [] _ _ _
    refine st_aload_n C 0 dX10_isKept_11 rfl rfl ?_
    refine st_getf C dX10_isKept_12 fl_X10_51 hs rfl ?_
    refine st_iload_n C 1 dX10_isKept_15 rfl rfl ?_
    refine st_callS (st := [vR 7]) C dX10_isKept_16 [vI 8] k_levelOf3 w_X10_236 rfl (by decide) (by decide) (by omega) (by omega) (Nat.le_of_ble_eq_true rfl) (ko_rt ?_)
    show T x 19 [(0, vR 0), (1, vI 8), (2, vI l), (3, vI x9), (4, vI y9)] [vI 3, vR 7] _ _ _
    refine st_iload_n C 2 dX10_isKept_19 rfl rfl ?_
    refine st_iload_n C 3 dX10_isKept_20 rfl rfl ?_
    refine st_iload C dX10_isKept_21 rfl ?_
    by_cases b_23 : tl (85 * l + 84 + 1 * y9 + x9) ≠ -1
    · refine st_callV (st := []) C dX10_isKept_23 [vI 3, vI l, vI x9, vI y9] (k_holds3_t (af := tl) (l := l) (x9 := x9) (y9 := y9) hL.1 hL.2 (by omega) (by omega) (by omega) b_23) hL.1 w_X10_243 rfl (by decide) (by decide) (by omega) (by omega) (Nat.le_of_ble_eq_true rfl) (ko_rt ?_)
      show T x 26 [(0, vR 0), (1, vI 8), (2, vI l), (3, vI x9), (4, vI y9)] [vI 1] _ _ _
      exact st_zreturn C F dX10_isKept_26 rfl (by omega) (by first | exact absurd hok (by assumption) | exact ⟨by with_reducible rfl, by with_reducible rfl⟩ | exact absurd (by assumption) hQ | exact absurd hQ (by assumption)) (by omega) (by omega)
    · refine st_callV (st := []) C dX10_isKept_23 [vI 3, vI l, vI x9, vI y9] (k_holds3_f (af := tl) (l := l) (x9 := x9) (y9 := y9) hL.1 hL.2 (by omega) (by omega) (by omega) b_23) hL.1 w_X10_243 rfl (by decide) (by decide) (by omega) (by omega) (Nat.le_of_ble_eq_true rfl) (ko_rt ?_)
      show T x 26 [(0, vR 0), (1, vI 8), (2, vI l), (3, vI x9), (4, vI y9)] [vI 0] _ _ _
      exact st_zreturn C F dX10_isKept_26 rfl (by omega) (by first | exact absurd hok (by assumption) | exact ⟨by with_reducible rfl, by with_reducible rfl⟩ | exact absurd (by assumption) hQ | exact absurd hQ (by assumption)) (by omega) (by omega)
  · refine st_callS (st := []) C dX10_isKept_5 [vI 8, vI l, vI x9, vI y9] (k_isTile_f (s9 := 8) (l := l) (x9 := x9) (y9 := y9)  b_5) w_X10_232 rfl (by decide) (by decide) (by omega) (by omega) (Nat.le_of_ble_eq_true rfl) (ko_rt ?_)
    show T x 8 [(0, vR 0), (1, vI 8), (2, vI l), (3, vI x9), (4, vI y9)] [vI 0] _ _ _
    refine st_callS (st := []) C dX10_isKept_8 [vI 0] k_need_f w_X10_81 rfl (by decide) (by decide) (by omega) (by omega) (Nat.le_of_ble_eq_true rfl) (ko_th ?_)
    exact st_out C F (by first | exact absurd hok (by assumption) | exact ⟨by with_reducible rfl, by with_reducible rfl⟩ | exact absurd (by assumption) hQ | exact absurd hQ (by assumption)) (by omega) (by omega)
set_option maxRecDepth 20000 in
set_option maxHeartbeats 4000000 in
theorem s_tile3_f {g : Gx} {h : HP} {rc dc : Int} {mf : Int → Int} {mk : Int} {tl : Int → Int} {l x9 y9 : Int} (hs : cS h rc dc) (hM : cM h mf) (hL : cL h mk tl) (hl : 0 ≤ l ∧ l ≤ 2) (hx : 0 ≤ x9 ∧ x9 ≤ 0) (hy : 0 ≤ y9 ∧ y9 ≤ 0) (hmk : 0 ≤ mk ∧ mk < 1000000) (hQ : ¬ (tl (85 * l + 84 + 1 * y9 + x9) = -1)) : Ct g yX10_tile (.code yX10_tile cX10_tile 5 (some .int)) 7 1 6 [vR 0, vI 8, vI l, vI x9, vI y9] h (Rt (some (vI (tl (85 * l + 84 + 1 * y9 + x9)))) h) := by
  refine Ct.of (by decide) (Nat.le_of_ble_eq_true rfl) (fun x hg C F => ?_)
  subst hg
  have hok : TileOk 8 l x9 y9 := by unfold TileOk; omega
  show T x 0 [(0, vR 0), (1, vI 8), (2, vI l), (3, vI x9), (4, vI y9)] [] h 0 0
  refine st_iload_n C 1 dX10_tile_0 rfl rfl ?_
  refine st_iload_n C 2 dX10_tile_1 rfl rfl ?_
  refine st_iload_n C 3 dX10_tile_2 rfl rfl ?_
  refine st_iload C dX10_tile_3 rfl ?_
  by_cases b_5 : TileOk 8 l x9 y9
  · refine st_callS (st := []) C dX10_tile_5 [vI 8, vI l, vI x9, vI y9] (k_isTile_t (s9 := 8) (l := l) (x9 := x9) (y9 := y9)  b_5) w_X10_232 rfl (by decide) (by decide) (by omega) (by omega) (Nat.le_of_ble_eq_true rfl) (ko_rt ?_)
    show T x 8 [(0, vR 0), (1, vI 8), (2, vI l), (3, vI x9), (4, vI y9)] [vI 1] _ _ _
    refine st_callS (st := []) C dX10_tile_8 [vI 1] k_need_t w_X10_81 rfl (by decide) (by decide) (by omega) (by omega) (Nat.le_of_ble_eq_true rfl) (ko_rn ?_)
    show T x 11 [(0, vR 0), (1, vI 8), (2, vI l), (3, vI x9), (4, vI y9)] [] _ _ _
    refine st_aload_n C 0 dX10_tile_11 rfl rfl ?_
    refine st_getf C dX10_tile_12 fl_X10_51 hs rfl ?_
    refine st_aload_n C 0 dX10_tile_15 rfl rfl ?_
    refine st_getf C dX10_tile_16 fl_X10_9 hs rfl ?_
    refine st_iload_n C 1 dX10_tile_19 rfl rfl ?_
    refine st_callS (st := [vR 1, vR 7]) C dX10_tile_20 [vI 8] k_levelOf3 w_X10_236 rfl (by decide) (by decide) (by omega) (by omega) (Nat.le_of_ble_eq_true rfl) (ko_rt ?_)
    show T x 23 [(0, vR 0), (1, vI 8), (2, vI l), (3, vI x9), (4, vI y9)] [vI 3, vR 1, vR 7] _ _ _
    refine st_iload_n C 2 dX10_tile_23 rfl rfl ?_
    refine st_iload_n C 3 dX10_tile_24 rfl rfl ?_
    refine st_iload C dX10_tile_25 rfl ?_
    by_cases b_27 : tl (85 * l + 84 + 1 * y9 + x9) = -1
    · refine st_callV (st := []) C dX10_tile_27 [vR 1, vI 3, vI l, vI x9, vI y9] (k_ask3_t (mk := mk) (af := tl) (mf := mf) (l := l) (x9 := x9) (y9 := y9) hL.1 hL.2 hM (by omega) (by omega) (by omega) (by omega) (by omega) (by omega) b_27 (by omega)) hL.1 w_X10_239 rfl (by decide) (by decide) (by omega) (by omega) (Nat.le_of_ble_eq_true rfl) (ko_rt ?_)
      show T x 30 [(0, vR 0), (1, vI 8), (2, vI l), (3, vI x9), (4, vI y9)] [vI (mcaV mf l 8 x9 y9)] (hput (hput h 13 (oI 255 (fput tl (85 * l + 84 + 1 * y9 + x9) (mcaV mf l 8 x9 y9)))) 7 (oO 7 [vI (mk + 1), vR 13])) _ _
      exact st_ireturn C F dX10_tile_30 rfl (by first | exact absurd hok (by assumption) | exact ⟨by with_reducible rfl, by with_reducible rfl⟩ | exact absurd (by assumption) hQ | exact absurd hQ (by assumption)) (by omega) (by omega)
    · refine st_callV (st := []) C dX10_tile_27 [vR 1, vI 3, vI l, vI x9, vI y9] (k_ask3_f (mk := mk) (af := tl) (mf := mf) (l := l) (x9 := x9) (y9 := y9) hL.1 hL.2 hM (by omega) (by omega) (by omega) (by omega) (by omega) (by omega) b_27) hL.1 w_X10_239 rfl (by decide) (by decide) (by omega) (by omega) (Nat.le_of_ble_eq_true rfl) (ko_rt ?_)
      show T x 30 [(0, vR 0), (1, vI 8), (2, vI l), (3, vI x9), (4, vI y9)] [vI (tl (85 * l + 84 + 1 * y9 + x9))] _ _ _
      exact st_ireturn C F dX10_tile_30 rfl (by first | exact absurd hok (by assumption) | exact ⟨by with_reducible rfl, by with_reducible rfl⟩ | exact absurd (by assumption) hQ | exact absurd hQ (by assumption)) (by omega) (by omega)
  · refine st_callS (st := []) C dX10_tile_5 [vI 8, vI l, vI x9, vI y9] (k_isTile_f (s9 := 8) (l := l) (x9 := x9) (y9 := y9)  b_5) w_X10_232 rfl (by decide) (by decide) (by omega) (by omega) (Nat.le_of_ble_eq_true rfl) (ko_rt ?_)
    show T x 8 [(0, vR 0), (1, vI 8), (2, vI l), (3, vI x9), (4, vI y9)] [vI 0] _ _ _
    refine st_callS (st := []) C dX10_tile_8 [vI 0] k_need_f w_X10_81 rfl (by decide) (by decide) (by omega) (by omega) (Nat.le_of_ble_eq_true rfl) (ko_th ?_)
    exact st_out C F (by first | exact absurd hok (by assumption) | exact ⟨by with_reducible rfl, by with_reducible rfl⟩ | exact absurd (by assumption) hQ | exact absurd hQ (by assumption)) (by omega) (by omega)
set_option maxRecDepth 20000 in
set_option maxHeartbeats 4000000 in
theorem s_tile3_t {g : Gx} {h : HP} {rc dc : Int} {mf : Int → Int} {mk : Int} {tl : Int → Int} {l x9 y9 : Int} (hs : cS h rc dc) (hM : cM h mf) (hL : cL h mk tl) (hl : 0 ≤ l ∧ l ≤ 2) (hx : 0 ≤ x9 ∧ x9 ≤ 0) (hy : 0 ≤ y9 ∧ y9 ≤ 0) (hmk : 0 ≤ mk ∧ mk < 1000000) (hQ : tl (85 * l + 84 + 1 * y9 + x9) = -1) : Ct g yX10_tile (.code yX10_tile cX10_tile 5 (some .int)) 7 1 6 [vR 0, vI 8, vI l, vI x9, vI y9] h (Rt (some (vI (mcaV mf l 8 x9 y9))) (hput (hput h 13 (oI 255 (fput tl (85 * l + 84 + 1 * y9 + x9) (mcaV mf l 8 x9 y9)))) 7 (oO 7 [vI (mk + 1), vR 13]))) := by
  refine Ct.of (by decide) (Nat.le_of_ble_eq_true rfl) (fun x hg C F => ?_)
  subst hg
  have hok : TileOk 8 l x9 y9 := by unfold TileOk; omega
  show T x 0 [(0, vR 0), (1, vI 8), (2, vI l), (3, vI x9), (4, vI y9)] [] h 0 0
  refine st_iload_n C 1 dX10_tile_0 rfl rfl ?_
  refine st_iload_n C 2 dX10_tile_1 rfl rfl ?_
  refine st_iload_n C 3 dX10_tile_2 rfl rfl ?_
  refine st_iload C dX10_tile_3 rfl ?_
  by_cases b_5 : TileOk 8 l x9 y9
  · refine st_callS (st := []) C dX10_tile_5 [vI 8, vI l, vI x9, vI y9] (k_isTile_t (s9 := 8) (l := l) (x9 := x9) (y9 := y9)  b_5) w_X10_232 rfl (by decide) (by decide) (by omega) (by omega) (Nat.le_of_ble_eq_true rfl) (ko_rt ?_)
    show T x 8 [(0, vR 0), (1, vI 8), (2, vI l), (3, vI x9), (4, vI y9)] [vI 1] _ _ _
    refine st_callS (st := []) C dX10_tile_8 [vI 1] k_need_t w_X10_81 rfl (by decide) (by decide) (by omega) (by omega) (Nat.le_of_ble_eq_true rfl) (ko_rn ?_)
    show T x 11 [(0, vR 0), (1, vI 8), (2, vI l), (3, vI x9), (4, vI y9)] [] _ _ _
    refine st_aload_n C 0 dX10_tile_11 rfl rfl ?_
    refine st_getf C dX10_tile_12 fl_X10_51 hs rfl ?_
    refine st_aload_n C 0 dX10_tile_15 rfl rfl ?_
    refine st_getf C dX10_tile_16 fl_X10_9 hs rfl ?_
    refine st_iload_n C 1 dX10_tile_19 rfl rfl ?_
    refine st_callS (st := [vR 1, vR 7]) C dX10_tile_20 [vI 8] k_levelOf3 w_X10_236 rfl (by decide) (by decide) (by omega) (by omega) (Nat.le_of_ble_eq_true rfl) (ko_rt ?_)
    show T x 23 [(0, vR 0), (1, vI 8), (2, vI l), (3, vI x9), (4, vI y9)] [vI 3, vR 1, vR 7] _ _ _
    refine st_iload_n C 2 dX10_tile_23 rfl rfl ?_
    refine st_iload_n C 3 dX10_tile_24 rfl rfl ?_
    refine st_iload C dX10_tile_25 rfl ?_
    by_cases b_27 : tl (85 * l + 84 + 1 * y9 + x9) = -1
    · refine st_callV (st := []) C dX10_tile_27 [vR 1, vI 3, vI l, vI x9, vI y9] (k_ask3_t (mk := mk) (af := tl) (mf := mf) (l := l) (x9 := x9) (y9 := y9) hL.1 hL.2 hM (by omega) (by omega) (by omega) (by omega) (by omega) (by omega) b_27 (by omega)) hL.1 w_X10_239 rfl (by decide) (by decide) (by omega) (by omega) (Nat.le_of_ble_eq_true rfl) (ko_rt ?_)
      show T x 30 [(0, vR 0), (1, vI 8), (2, vI l), (3, vI x9), (4, vI y9)] [vI (mcaV mf l 8 x9 y9)] (hput (hput h 13 (oI 255 (fput tl (85 * l + 84 + 1 * y9 + x9) (mcaV mf l 8 x9 y9)))) 7 (oO 7 [vI (mk + 1), vR 13])) _ _
      exact st_ireturn C F dX10_tile_30 rfl (by first | exact absurd hok (by assumption) | exact ⟨by with_reducible rfl, by with_reducible rfl⟩ | exact absurd (by assumption) hQ | exact absurd hQ (by assumption)) (by omega) (by omega)
    · refine st_callV (st := []) C dX10_tile_27 [vR 1, vI 3, vI l, vI x9, vI y9] (k_ask3_f (mk := mk) (af := tl) (mf := mf) (l := l) (x9 := x9) (y9 := y9) hL.1 hL.2 hM (by omega) (by omega) (by omega) (by omega) (by omega) (by omega) b_27) hL.1 w_X10_239 rfl (by decide) (by decide) (by omega) (by omega) (Nat.le_of_ble_eq_true rfl) (ko_rt ?_)
      show T x 30 [(0, vR 0), (1, vI 8), (2, vI l), (3, vI x9), (4, vI y9)] [vI (tl (85 * l + 84 + 1 * y9 + x9))] _ _ _
      exact st_ireturn C F dX10_tile_30 rfl (by first | exact absurd hok (by assumption) | exact ⟨by with_reducible rfl, by with_reducible rfl⟩ | exact absurd (by assumption) hQ | exact absurd hQ (by assumption)) (by omega) (by omega)
  · refine st_callS (st := []) C dX10_tile_5 [vI 8, vI l, vI x9, vI y9] (k_isTile_f (s9 := 8) (l := l) (x9 := x9) (y9 := y9)  b_5) w_X10_232 rfl (by decide) (by decide) (by omega) (by omega) (Nat.le_of_ble_eq_true rfl) (ko_rt ?_)
    show T x 8 [(0, vR 0), (1, vI 8), (2, vI l), (3, vI x9), (4, vI y9)] [vI 0] _ _ _
    refine st_callS (st := []) C dX10_tile_8 [vI 0] k_need_f w_X10_81 rfl (by decide) (by decide) (by omega) (by omega) (Nat.le_of_ble_eq_true rfl) (ko_th ?_)
    exact st_out C F (by first | exact absurd hok (by assumption) | exact ⟨by with_reducible rfl, by with_reducible rfl⟩ | exact absurd (by assumption) hQ | exact absurd hQ (by assumption)) (by omega) (by omega)
set_option maxRecDepth 20000 in
set_option maxHeartbeats 4000000 in
theorem s_tile_x1 {g : Gx} {h : HP} {rc dc : Int} {k9 l x9 y9 : Int} (hs : cS h rc dc) (hQ : ¬ TileOk k9 l x9 y9) : Ct g yX10_tile (.code yX10_tile cX10_tile 5 (some .int)) 7 1 6 [vR 0, vI k9, vI l, vI x9, vI y9] h (Th "java/lang/IllegalArgumentException" h) := by
  refine Ct.of (by decide) (Nat.le_of_ble_eq_true rfl) (fun x hg C F => ?_)
  subst hg
  show T x 0 [(0, vR 0), (1, vI k9), (2, vI l), (3, vI x9), (4, vI y9)] [] h 0 0
  refine st_iload_n C 1 dX10_tile_0 rfl rfl ?_
  refine st_iload_n C 2 dX10_tile_1 rfl rfl ?_
  refine st_iload_n C 3 dX10_tile_2 rfl rfl ?_
  refine st_iload C dX10_tile_3 rfl ?_
  refine st_callS (st := []) C dX10_tile_5 [vI k9, vI l, vI x9, vI y9] (k_isTile_f hQ) w_X10_232 rfl (by decide) (by decide) (by omega) (by omega) (Nat.le_of_ble_eq_true rfl) (ko_rt ?_)
  show T x 8 [(0, vR 0), (1, vI k9), (2, vI l), (3, vI x9), (4, vI y9)] [vI 0] _ _ _
  refine st_callS (st := []) C dX10_tile_8 [vI 0] k_need_f w_X10_81 rfl (by decide) (by decide) (by omega) (by omega) (Nat.le_of_ble_eq_true rfl) (ko_th ?_)
  exact st_out C F (by first | exact ⟨rfl, rfl⟩ | (exfalso; omega) | exact absurd (by assumption) hQ | exact absurd hQ (by assumption)) (by omega) (by omega)
set_option maxRecDepth 20000 in
set_option maxHeartbeats 4000000 in
theorem s_isKept_x1 {g : Gx} {h : HP} {rc dc : Int} {k9 l x9 y9 : Int} (hs : cS h rc dc) (hQ : ¬ TileOk k9 l x9 y9) : Ct g yX10_isKept (.code yX10_isKept cX10_isKept 5 (some .boolean)) 7 1 6 [vR 0, vI k9, vI l, vI x9, vI y9] h (Th "java/lang/IllegalArgumentException" h) := by
  refine Ct.of (by decide) (Nat.le_of_ble_eq_true rfl) (fun x hg C F => ?_)
  subst hg
  show T x 0 [(0, vR 0), (1, vI k9), (2, vI l), (3, vI x9), (4, vI y9)] [] h 0 0
  refine st_iload_n C 1 dX10_isKept_0 rfl rfl ?_
  refine st_iload_n C 2 dX10_isKept_1 rfl rfl ?_
  refine st_iload_n C 3 dX10_isKept_2 rfl rfl ?_
  refine st_iload C dX10_isKept_3 rfl ?_
  refine st_callS (st := []) C dX10_isKept_5 [vI k9, vI l, vI x9, vI y9] (k_isTile_f hQ) w_X10_232 rfl (by decide) (by decide) (by omega) (by omega) (Nat.le_of_ble_eq_true rfl) (ko_rt ?_)
  show T x 8 [(0, vR 0), (1, vI k9), (2, vI l), (3, vI x9), (4, vI y9)] [vI 0] _ _ _
  refine st_callS (st := []) C dX10_isKept_8 [vI 0] k_need_f w_X10_81 rfl (by decide) (by decide) (by omega) (by omega) (Nat.le_of_ble_eq_true rfl) (ko_th ?_)
  exact st_out C F (by first | exact ⟨rfl, rfl⟩ | (exfalso; omega) | exact absurd (by assumption) hQ | exact absurd hQ (by assumption)) (by omega) (by omega)
set_option maxRecDepth 20000 in
set_option maxHeartbeats 4000000 in
theorem s_size_x1 {g : Gx} {h : HP} {rc dc : Int} {mf : Int → Int} {l a9 : Int} (hs : cS h rc dc) (hM : cM h mf) (hQ : ¬ ((0 ≤ l ∧ l ≤ 2) ∧ 1 ≤ a9 ∧ a9 ≤ 9)) : Ct g yX10_size (.code yX10_size cX10_size 3 (some .int)) 7 1 6 [vR 0, vI l, vI a9] h (Th "java/lang/IllegalArgumentException" h) := by
  refine Ct.of (by decide) (Nat.le_of_ble_eq_true rfl) (fun x hg C F => ?_)
  subst hg
  show T x 0 [(0, vR 0), (1, vI l), (2, vI a9)] [] h 0 0
  refine st_iload_n C 1 dX10_size_0 rfl rfl ?_
  by_cases b_1 : 0 ≤ l ∧ l ≤ 2
  · refine st_callS (st := []) C dX10_size_1 [vI l] (k_isLayer_t (v9 := l)  b_1) w_X10_249 rfl (by decide) (by decide) (by omega) (by omega) (Nat.le_of_ble_eq_true rfl) (ko_rt ?_)
    show T x 4 [(0, vR 0), (1, vI l), (2, vI a9)] [vI 1] _ _ _
    refine st_if_eq (tgt := 18) C dX10_size_4 (by decide) (fun c_4 => by omega) (fun c_4 => ?_)
    refine st_iload_n C 2 dX10_size_7 rfl rfl ?_
    by_cases b_8 : 1 ≤ a9 ∧ a9 ≤ 9
    · refine st_callS (st := []) C dX10_size_8 [vI a9] (k_isArea_t (v9 := a9)  b_8) w_X10_261 rfl (by decide) (by decide) (by omega) (by omega) (Nat.le_of_ble_eq_true rfl) (ko_rt ?_)
      show T x 11 [(0, vR 0), (1, vI l), (2, vI a9)] [vI 1] _ _ _
      refine st_if_eq (tgt := 18) C dX10_size_11 (by decide) (fun c_11 => by omega) (fun c_11 => ?_)
      refine st_iconst C dX10_size_14 (by decide) ?_
      refine st_goto (tgt := 19) C dX10_size_15 (by decide) ?_
      refine st_callS (st := []) C dX10_size_19 [vI 1] k_need_t w_X10_81 rfl (by decide) (by decide) (by omega) (by omega) (Nat.le_of_ble_eq_true rfl) (ko_rn ?_)
      show T x 22 [(0, vR 0), (1, vI l), (2, vI a9)] [] _ _ _
      refine st_aload_n C 0 dX10_size_22 rfl rfl ?_
      refine st_getf C dX10_size_23 fl_X10_9 hs rfl ?_
      refine st_iload_n C 1 dX10_size_26 rfl rfl ?_
      refine st_iload_n C 2 dX10_size_27 rfl rfl ?_
      refine st_callS (st := []) C dX10_size_28 [vR 1, vI l, vI a9] (k_placesOf (f := mf) (l := l) (a9 := a9) hM (by omega)) w_X10_264 rfl (by decide) (by decide) (by omega) (by omega) (Nat.le_of_ble_eq_true rfl) (ko_rt ?_)
      show T x 31 [(0, vR 0), (1, vI l), (2, vI a9)] [vI (pin mf l a9 8 0 0)] _ _ _
      exact st_ireturn C F dX10_size_31 rfl (by first | exact ⟨by with_reducible rfl, by with_reducible rfl⟩ | (exfalso; omega) | exact absurd (by assumption) hQ | exact absurd hQ (by assumption)) (by omega) (by omega)
    · refine st_callS (st := []) C dX10_size_8 [vI a9] (k_isArea_f (v9 := a9)  b_8) w_X10_261 rfl (by decide) (by decide) (by omega) (by omega) (Nat.le_of_ble_eq_true rfl) (ko_rt ?_)
      show T x 11 [(0, vR 0), (1, vI l), (2, vI a9)] [vI 0] _ _ _
      refine st_if_eq (tgt := 18) C dX10_size_11 (by decide) (fun c_11 => ?_) (fun c_11 => by omega)
      refine st_iconst C dX10_size_18 (by decide) ?_
      refine st_callS (st := []) C dX10_size_19 [vI 0] k_need_f w_X10_81 rfl (by decide) (by decide) (by omega) (by omega) (Nat.le_of_ble_eq_true rfl) (ko_th ?_)
      exact st_out C F (by first | exact ⟨rfl, rfl⟩ | (exfalso; omega) | exact absurd (by assumption) hQ | exact absurd hQ (by assumption)) (by omega) (by omega)
  · refine st_callS (st := []) C dX10_size_1 [vI l] (k_isLayer_f (v9 := l)  b_1) w_X10_249 rfl (by decide) (by decide) (by omega) (by omega) (Nat.le_of_ble_eq_true rfl) (ko_rt ?_)
    show T x 4 [(0, vR 0), (1, vI l), (2, vI a9)] [vI 0] _ _ _
    refine st_if_eq (tgt := 18) C dX10_size_4 (by decide) (fun c_4 => ?_) (fun c_4 => by omega)
    refine st_iconst C dX10_size_18 (by decide) ?_
    refine st_callS (st := []) C dX10_size_19 [vI 0] k_need_f w_X10_81 rfl (by decide) (by decide) (by omega) (by omega) (Nat.le_of_ble_eq_true rfl) (ko_th ?_)
    exact st_out C F (by first | exact ⟨rfl, rfl⟩ | (exfalso; omega) | exact absurd (by assumption) hQ | exact absurd hQ (by assumption)) (by omega) (by omega)
set_option maxRecDepth 20000 in
set_option maxHeartbeats 4000000 in
theorem s_size {g : Gx} {h : HP} {rc dc : Int} {mf : Int → Int} {l a9 : Int} (hs : cS h rc dc) (hM : cM h mf) (hQ : (0 ≤ l ∧ l ≤ 2) ∧ 1 ≤ a9 ∧ a9 ≤ 9) : Ct g yX10_size (.code yX10_size cX10_size 3 (some .int)) 7 1 6 [vR 0, vI l, vI a9] h (Rt (some (vI (pin mf l a9 8 0 0))) h) := by
  refine Ct.of (by decide) (Nat.le_of_ble_eq_true rfl) (fun x hg C F => ?_)
  subst hg
  show T x 0 [(0, vR 0), (1, vI l), (2, vI a9)] [] h 0 0
  refine st_iload_n C 1 dX10_size_0 rfl rfl ?_
  have b_1 : 0 ≤ l ∧ l ≤ 2 := by omega
  refine st_callS (st := []) C dX10_size_1 [vI l] (k_isLayer_t (v9 := l)  b_1) w_X10_249 rfl (by decide) (by decide) (by omega) (by omega) (Nat.le_of_ble_eq_true rfl) (ko_rt ?_)
  show T x 4 [(0, vR 0), (1, vI l), (2, vI a9)] [vI 1] _ _ _
  refine st_if_eq (tgt := 18) C dX10_size_4 (by decide) (fun c_4 => by omega) (fun c_4 => ?_)
  refine st_iload_n C 2 dX10_size_7 rfl rfl ?_
  have b_8 : 1 ≤ a9 ∧ a9 ≤ 9 := by omega
  refine st_callS (st := []) C dX10_size_8 [vI a9] (k_isArea_t (v9 := a9)  b_8) w_X10_261 rfl (by decide) (by decide) (by omega) (by omega) (Nat.le_of_ble_eq_true rfl) (ko_rt ?_)
  show T x 11 [(0, vR 0), (1, vI l), (2, vI a9)] [vI 1] _ _ _
  refine st_if_eq (tgt := 18) C dX10_size_11 (by decide) (fun c_11 => by omega) (fun c_11 => ?_)
  refine st_iconst C dX10_size_14 (by decide) ?_
  refine st_goto (tgt := 19) C dX10_size_15 (by decide) ?_
  refine st_callS (st := []) C dX10_size_19 [vI 1] k_need_t w_X10_81 rfl (by decide) (by decide) (by omega) (by omega) (Nat.le_of_ble_eq_true rfl) (ko_rn ?_)
  show T x 22 [(0, vR 0), (1, vI l), (2, vI a9)] [] _ _ _
  refine st_aload_n C 0 dX10_size_22 rfl rfl ?_
  refine st_getf C dX10_size_23 fl_X10_9 hs rfl ?_
  refine st_iload_n C 1 dX10_size_26 rfl rfl ?_
  refine st_iload_n C 2 dX10_size_27 rfl rfl ?_
  refine st_callS (st := []) C dX10_size_28 [vR 1, vI l, vI a9] (k_placesOf (f := mf) (l := l) (a9 := a9) hM (by omega)) w_X10_264 rfl (by decide) (by decide) (by omega) (by omega) (Nat.le_of_ble_eq_true rfl) (ko_rt ?_)
  show T x 31 [(0, vR 0), (1, vI l), (2, vI a9)] [vI (pin mf l a9 8 0 0)] _ _ _
  exact st_ireturn C F dX10_size_31 rfl (by first | exact ⟨by with_reducible rfl, by with_reducible rfl⟩ | (exfalso; omega) | exact absurd (by assumption) hQ | exact absurd hQ (by assumption)) (by omega) (by omega)
set_option maxRecDepth 20000 in
set_option maxHeartbeats 4000000 in
theorem s_walk_x1 {g : Gx} {h : HP} {rc dc : Int} {mf : Int → Int} {bg la ly ar : Int} {l a9 : Int} (hs : cS h rc dc) (hM : cM h mf) (hK : cK h bg la ly ar) (hQ : ¬ ((0 ≤ l ∧ l ≤ 2) ∧ 1 ≤ a9 ∧ a9 ≤ 9)) : Ct g yX10_walk (.code yX10_walk cX10_walk 3 (some .int)) 7 1 6 [vR 0, vI l, vI a9] h (Th "java/lang/IllegalArgumentException" h) := by
  refine Ct.of (by decide) (Nat.le_of_ble_eq_true rfl) (fun x hg C F => ?_)
  subst hg
  show T x 0 [(0, vR 0), (1, vI l), (2, vI a9)] [] h 0 0
  refine st_iload_n C 1 dX10_walk_0 rfl rfl ?_
  by_cases b_1 : 0 ≤ l ∧ l ≤ 2
  · refine st_callS (st := []) C dX10_walk_1 [vI l] (k_isLayer_t (v9 := l)  b_1) w_X10_249 rfl (by decide) (by decide) (by omega) (by omega) (Nat.le_of_ble_eq_true rfl) (ko_rt ?_)
    show T x 4 [(0, vR 0), (1, vI l), (2, vI a9)] [vI 1] _ _ _
    refine st_if_eq (tgt := 18) C dX10_walk_4 (by decide) (fun c_4 => by omega) (fun c_4 => ?_)
    refine st_iload_n C 2 dX10_walk_7 rfl rfl ?_
    by_cases b_8 : 1 ≤ a9 ∧ a9 ≤ 9
    · refine st_callS (st := []) C dX10_walk_8 [vI a9] (k_isArea_t (v9 := a9)  b_8) w_X10_261 rfl (by decide) (by decide) (by omega) (by omega) (Nat.le_of_ble_eq_true rfl) (ko_rt ?_)
      show T x 11 [(0, vR 0), (1, vI l), (2, vI a9)] [vI 1] _ _ _
      refine st_if_eq (tgt := 18) C dX10_walk_11 (by decide) (fun c_11 => by omega) (fun c_11 => ?_)
      refine st_iconst C dX10_walk_14 (by decide) ?_
      refine st_goto (tgt := 19) C dX10_walk_15 (by decide) ?_
      refine st_callS (st := []) C dX10_walk_19 [vI 1] k_need_t w_X10_81 rfl (by decide) (by decide) (by omega) (by omega) (Nat.le_of_ble_eq_true rfl) (ko_rn ?_)
      show T x 22 [(0, vR 0), (1, vI l), (2, vI a9)] [] _ _ _
      refine st_aload_n C 0 dX10_walk_22 rfl rfl ?_
      refine st_getf C dX10_walk_23 fl_X10_58 hs rfl ?_
      refine st_iload_n C 1 dX10_walk_26 rfl rfl ?_
      refine st_iload_n C 2 dX10_walk_27 rfl rfl ?_
      refine st_callV (st := []) C dX10_walk_28 [vI l, vI a9] (k_wBegin (l9 := l) (a9 := a9) hK) hK w_X10_267 rfl (by decide) (by decide) (by omega) (by omega) (Nat.le_of_ble_eq_true rfl) (ko_rn ?_)
      show T x 31 [(0, vR 0), (1, vI l), (2, vI a9)] [] (hput h 8 (oO 8 [vI 1, vI (-1), vI l, vI a9])) _ _
      refine st_aload_n C 0 dX10_walk_31 rfl rfl ?_
      refine st_getf C dX10_walk_32 fl_X10_9 (hput_o (by omega) hs) rfl ?_
      refine st_iload_n C 1 dX10_walk_35 rfl rfl ?_
      refine st_iload_n C 2 dX10_walk_36 rfl rfl ?_
      refine st_callS (st := []) C dX10_walk_37 [vR 1, vI l, vI a9] (k_placesOf (f := mf) (l := l) (a9 := a9) (hput_o (by omega) hM) (by omega)) w_X10_264 rfl (by decide) (by decide) (by omega) (by omega) (Nat.le_of_ble_eq_true rfl) (ko_rt ?_)
      show T x 40 [(0, vR 0), (1, vI l), (2, vI a9)] [vI (pin mf l a9 8 0 0)] _ _ _
      exact st_ireturn C F dX10_walk_40 rfl (by first | exact ⟨by with_reducible rfl, by with_reducible rfl⟩ | (exfalso; omega) | exact absurd (by assumption) hQ | exact absurd hQ (by assumption)) (by omega) (by omega)
    · refine st_callS (st := []) C dX10_walk_8 [vI a9] (k_isArea_f (v9 := a9)  b_8) w_X10_261 rfl (by decide) (by decide) (by omega) (by omega) (Nat.le_of_ble_eq_true rfl) (ko_rt ?_)
      show T x 11 [(0, vR 0), (1, vI l), (2, vI a9)] [vI 0] _ _ _
      refine st_if_eq (tgt := 18) C dX10_walk_11 (by decide) (fun c_11 => ?_) (fun c_11 => by omega)
      refine st_iconst C dX10_walk_18 (by decide) ?_
      refine st_callS (st := []) C dX10_walk_19 [vI 0] k_need_f w_X10_81 rfl (by decide) (by decide) (by omega) (by omega) (Nat.le_of_ble_eq_true rfl) (ko_th ?_)
      exact st_out C F (by first | exact ⟨rfl, rfl⟩ | (exfalso; omega) | exact absurd (by assumption) hQ | exact absurd hQ (by assumption)) (by omega) (by omega)
  · refine st_callS (st := []) C dX10_walk_1 [vI l] (k_isLayer_f (v9 := l)  b_1) w_X10_249 rfl (by decide) (by decide) (by omega) (by omega) (Nat.le_of_ble_eq_true rfl) (ko_rt ?_)
    show T x 4 [(0, vR 0), (1, vI l), (2, vI a9)] [vI 0] _ _ _
    refine st_if_eq (tgt := 18) C dX10_walk_4 (by decide) (fun c_4 => ?_) (fun c_4 => by omega)
    refine st_iconst C dX10_walk_18 (by decide) ?_
    refine st_callS (st := []) C dX10_walk_19 [vI 0] k_need_f w_X10_81 rfl (by decide) (by decide) (by omega) (by omega) (Nat.le_of_ble_eq_true rfl) (ko_th ?_)
    exact st_out C F (by first | exact ⟨rfl, rfl⟩ | (exfalso; omega) | exact absurd (by assumption) hQ | exact absurd hQ (by assumption)) (by omega) (by omega)
set_option maxRecDepth 20000 in
set_option maxHeartbeats 4000000 in
theorem s_walk {g : Gx} {h : HP} {rc dc : Int} {mf : Int → Int} {bg la ly ar : Int} {l a9 : Int} (hs : cS h rc dc) (hM : cM h mf) (hK : cK h bg la ly ar) (hQ : (0 ≤ l ∧ l ≤ 2) ∧ 1 ≤ a9 ∧ a9 ≤ 9) : Ct g yX10_walk (.code yX10_walk cX10_walk 3 (some .int)) 7 1 6 [vR 0, vI l, vI a9] h (Rt (some (vI (pin mf l a9 8 0 0))) (hput h 8 (oO 8 [vI 1, vI (-1), vI l, vI a9]))) := by
  refine Ct.of (by decide) (Nat.le_of_ble_eq_true rfl) (fun x hg C F => ?_)
  subst hg
  show T x 0 [(0, vR 0), (1, vI l), (2, vI a9)] [] h 0 0
  refine st_iload_n C 1 dX10_walk_0 rfl rfl ?_
  have b_1 : 0 ≤ l ∧ l ≤ 2 := by omega
  refine st_callS (st := []) C dX10_walk_1 [vI l] (k_isLayer_t (v9 := l)  b_1) w_X10_249 rfl (by decide) (by decide) (by omega) (by omega) (Nat.le_of_ble_eq_true rfl) (ko_rt ?_)
  show T x 4 [(0, vR 0), (1, vI l), (2, vI a9)] [vI 1] _ _ _
  refine st_if_eq (tgt := 18) C dX10_walk_4 (by decide) (fun c_4 => by omega) (fun c_4 => ?_)
  refine st_iload_n C 2 dX10_walk_7 rfl rfl ?_
  have b_8 : 1 ≤ a9 ∧ a9 ≤ 9 := by omega
  refine st_callS (st := []) C dX10_walk_8 [vI a9] (k_isArea_t (v9 := a9)  b_8) w_X10_261 rfl (by decide) (by decide) (by omega) (by omega) (Nat.le_of_ble_eq_true rfl) (ko_rt ?_)
  show T x 11 [(0, vR 0), (1, vI l), (2, vI a9)] [vI 1] _ _ _
  refine st_if_eq (tgt := 18) C dX10_walk_11 (by decide) (fun c_11 => by omega) (fun c_11 => ?_)
  refine st_iconst C dX10_walk_14 (by decide) ?_
  refine st_goto (tgt := 19) C dX10_walk_15 (by decide) ?_
  refine st_callS (st := []) C dX10_walk_19 [vI 1] k_need_t w_X10_81 rfl (by decide) (by decide) (by omega) (by omega) (Nat.le_of_ble_eq_true rfl) (ko_rn ?_)
  show T x 22 [(0, vR 0), (1, vI l), (2, vI a9)] [] _ _ _
  refine st_aload_n C 0 dX10_walk_22 rfl rfl ?_
  refine st_getf C dX10_walk_23 fl_X10_58 hs rfl ?_
  refine st_iload_n C 1 dX10_walk_26 rfl rfl ?_
  refine st_iload_n C 2 dX10_walk_27 rfl rfl ?_
  refine st_callV (st := []) C dX10_walk_28 [vI l, vI a9] (k_wBegin (l9 := l) (a9 := a9) hK) hK w_X10_267 rfl (by decide) (by decide) (by omega) (by omega) (Nat.le_of_ble_eq_true rfl) (ko_rn ?_)
  show T x 31 [(0, vR 0), (1, vI l), (2, vI a9)] [] (hput h 8 (oO 8 [vI 1, vI (-1), vI l, vI a9])) _ _
  refine st_aload_n C 0 dX10_walk_31 rfl rfl ?_
  refine st_getf C dX10_walk_32 fl_X10_9 (hput_o (by omega) hs) rfl ?_
  refine st_iload_n C 1 dX10_walk_35 rfl rfl ?_
  refine st_iload_n C 2 dX10_walk_36 rfl rfl ?_
  refine st_callS (st := []) C dX10_walk_37 [vR 1, vI l, vI a9] (k_placesOf (f := mf) (l := l) (a9 := a9) (hput_o (by omega) hM) (by omega)) w_X10_264 rfl (by decide) (by decide) (by omega) (by omega) (Nat.le_of_ble_eq_true rfl) (ko_rt ?_)
  show T x 40 [(0, vR 0), (1, vI l), (2, vI a9)] [vI (pin mf l a9 8 0 0)] _ _ _
  exact st_ireturn C F dX10_walk_40 rfl (by first | exact ⟨by with_reducible rfl, by with_reducible rfl⟩ | (exfalso; omega) | exact absurd (by assumption) hQ | exact absurd hQ (by assumption)) (by omega) (by omega)
set_option maxRecDepth 20000 in
set_option maxHeartbeats 4000000 in
theorem s_hasNext_0 {g : Gx} {h : HP} {rc dc : Int} {mf : Int → Int} {bg la ly ar : Int} (hs : cS h rc dc) (hM : cM h mf) (hK : cK h bg la ly ar) (hb : bg = 0) : Ct g yX10_hasNext (.code yX10_hasNext cX10_hasNext 1 (some .boolean)) 3 1 6 [vR 0] h (Rt (some (vI 0)) h) := by
  refine Ct.of (by decide) (Nat.le_of_ble_eq_true rfl) (fun x hg C F => ?_)
  subst hg
  show T x 0 [(0, vR 0)] [] h 0 0
  refine st_aload_n C 0 dX10_hasNext_0 rfl rfl ?_
  refine st_getf C dX10_hasNext_1 fl_X10_58 hs rfl ?_
  refine st_aload_n C 0 dX10_hasNext_4 rfl rfl ?_
  refine st_getf C dX10_hasNext_5 fl_X10_9 hs rfl ?_
  refine st_callV (st := []) C dX10_hasNext_8 [vR 1] (k_placeAhead0 hK hb) hK w_X10_269 rfl (by decide) (by decide) (by omega) (by omega) (Nat.le_of_ble_eq_true rfl) (ko_rt ?_)
  show T x 11 [(0, vR 0)] [vI (-1)] _ _ _
  refine st_iconst C dX10_hasNext_11 (by decide) ?_
  refine st_icmp_eq (tgt := 19) C dX10_hasNext_12 (by decide) (fun c_12 => ?_) (fun c_12 => by omega)
  refine st_iconst C dX10_hasNext_19 (by decide) ?_
  exact st_zreturn C F dX10_hasNext_20 rfl (by omega) (by first | exact ⟨by with_reducible rfl, by with_reducible rfl⟩ | (exfalso; omega) | exact absurd (by assumption) hQ | exact absurd hQ (by assumption)) (by omega) (by omega)
set_option maxRecDepth 20000 in
set_option maxHeartbeats 4000000 in
theorem s_hasNext_f {g : Gx} {h : HP} {rc dc : Int} {mf : Int → Int} {bg la ly ar : Int} {r9 : Int} (hs : cS h rc dc) (hM : cM h mf) (hK : cK h bg la ly ar) (hb : bg = 1) (hl : 0 ≤ ly ∧ ly ≤ 2) (ha : -1 ≤ la ∧ la ≤ 63) (hr : IsNext (fun j => mf (64 * ly + j) = ar) (la + 1) r9) (hQ : r9 = -1) : Ct g yX10_hasNext (.code yX10_hasNext cX10_hasNext 1 (some .boolean)) 3 1 6 [vR 0] h (Rt (some (vI 0)) h) := by
  refine Ct.of (by decide) (Nat.le_of_ble_eq_true rfl) (fun x hg C F => ?_)
  subst hg
  show T x 0 [(0, vR 0)] [] h 0 0
  refine st_aload_n C 0 dX10_hasNext_0 rfl rfl ?_
  refine st_getf C dX10_hasNext_1 fl_X10_58 hs rfl ?_
  refine st_aload_n C 0 dX10_hasNext_4 rfl rfl ?_
  refine st_getf C dX10_hasNext_5 fl_X10_9 hs rfl ?_
  refine st_callV (st := []) C dX10_hasNext_8 [vR 1] (k_placeAhead1 (r9 := r9) hK hM hb (by omega) (by omega) hr) hK w_X10_269 rfl (by decide) (by decide) (by omega) (by omega) (Nat.le_of_ble_eq_true rfl) (ko_rt ?_)
  show T x 11 [(0, vR 0)] [vI r9] _ _ _
  refine st_iconst C dX10_hasNext_11 (by decide) ?_
  refine st_icmp_eq (tgt := 19) C dX10_hasNext_12 (by decide) (fun c_12 => ?_) (fun c_12 => by omega)
  refine st_iconst C dX10_hasNext_19 (by decide) ?_
  exact st_zreturn C F dX10_hasNext_20 rfl (by omega) (by first | exact ⟨by with_reducible rfl, by with_reducible rfl⟩ | (exfalso; omega) | exact absurd (by assumption) hQ | exact absurd hQ (by assumption)) (by omega) (by omega)
set_option maxRecDepth 20000 in
set_option maxHeartbeats 4000000 in
theorem s_hasNext_t {g : Gx} {h : HP} {rc dc : Int} {mf : Int → Int} {bg la ly ar : Int} {r9 : Int} (hs : cS h rc dc) (hM : cM h mf) (hK : cK h bg la ly ar) (hb : bg = 1) (hl : 0 ≤ ly ∧ ly ≤ 2) (ha : -1 ≤ la ∧ la ≤ 63) (hr : IsNext (fun j => mf (64 * ly + j) = ar) (la + 1) r9) (hQ : r9 ≠ -1) : Ct g yX10_hasNext (.code yX10_hasNext cX10_hasNext 1 (some .boolean)) 3 1 6 [vR 0] h (Rt (some (vI 1)) h) := by
  refine Ct.of (by decide) (Nat.le_of_ble_eq_true rfl) (fun x hg C F => ?_)
  subst hg
  show T x 0 [(0, vR 0)] [] h 0 0
  refine st_aload_n C 0 dX10_hasNext_0 rfl rfl ?_
  refine st_getf C dX10_hasNext_1 fl_X10_58 hs rfl ?_
  refine st_aload_n C 0 dX10_hasNext_4 rfl rfl ?_
  refine st_getf C dX10_hasNext_5 fl_X10_9 hs rfl ?_
  refine st_callV (st := []) C dX10_hasNext_8 [vR 1] (k_placeAhead1 (r9 := r9) hK hM hb (by omega) (by omega) hr) hK w_X10_269 rfl (by decide) (by decide) (by omega) (by omega) (Nat.le_of_ble_eq_true rfl) (ko_rt ?_)
  show T x 11 [(0, vR 0)] [vI r9] _ _ _
  refine st_iconst C dX10_hasNext_11 (by decide) ?_
  refine st_icmp_eq (tgt := 19) C dX10_hasNext_12 (by decide) (fun c_12 => ?_) (fun c_12 => ?_)
  · refine st_iconst C dX10_hasNext_19 (by decide) ?_
    exact st_zreturn C F dX10_hasNext_20 rfl (by omega) (by first | exact ⟨by with_reducible rfl, by with_reducible rfl⟩ | (exfalso; omega) | exact absurd (by assumption) hQ | exact absurd hQ (by assumption)) (by omega) (by omega)
  · refine st_iconst C dX10_hasNext_15 (by decide) ?_
    refine st_goto (tgt := 20) C dX10_hasNext_16 (by decide) ?_
    exact st_zreturn C F dX10_hasNext_20 rfl (by omega) (by first | exact ⟨by with_reducible rfl, by with_reducible rfl⟩ | (exfalso; omega) | exact absurd (by assumption) hQ | exact absurd hQ (by assumption)) (by omega) (by omega)
set_option maxRecDepth 20000 in
set_option maxHeartbeats 4000000 in
theorem s_next_x1 {g : Gx} {h : HP} {rc dc : Int} {mf : Int → Int} {bg la ly ar : Int} (hs : cS h rc dc) (hM : cM h mf) (hK : cK h bg la ly ar) (hb : bg = 0) : Ct g yX10_next (.code yX10_next cX10_next 2 (some .int)) 6 1 6 [vR 0] h (Th "java/lang/IllegalStateException" h) := by
  refine Ct.of (by decide) (Nat.le_of_ble_eq_true rfl) (fun x hg C F => ?_)
  subst hg
  show T x 0 [(0, vR 0)] [] h 0 0
  refine st_aload_n C 0 dX10_next_0 rfl rfl ?_
  refine st_getf C dX10_next_1 fl_X10_58 hs rfl ?_
  refine st_getf C dX10_next_4 fl_X10_272 hK rfl ?_
  refine st_if_ne (tgt := 18) C dX10_next_7 (by decide) (fun c_7 => by omega) (fun c_7 => ?_)
  exact st_throw C F dX10_next_10 dX10_next_13 dX10_next_14 dX10_next_17 xw_X10_95 (by decide) (by first | exact ⟨rfl, rfl⟩ | (exfalso; omega) | exact absurd (by assumption) hQ | exact absurd hQ (by assumption)) (by omega) (by omega)
set_option maxRecDepth 20000 in
set_option maxHeartbeats 4000000 in
theorem s_next_x2 {g : Gx} {h : HP} {rc dc : Int} {mf : Int → Int} {bg la ly ar : Int} {r9 : Int} (hs : cS h rc dc) (hM : cM h mf) (hK : cK h bg la ly ar) (hb : bg = 1) (hl : 0 ≤ ly ∧ ly ≤ 2) (ha : -1 ≤ la ∧ la ≤ 63) (hr : IsNext (fun j => mf (64 * ly + j) = ar) (la + 1) r9) (hQ : r9 = -1) : Ct g yX10_next (.code yX10_next cX10_next 2 (some .int)) 6 1 6 [vR 0] h (Th "java/util/NoSuchElementException" h) := by
  refine Ct.of (by decide) (Nat.le_of_ble_eq_true rfl) (fun x hg C F => ?_)
  subst hg
  show T x 0 [(0, vR 0)] [] h 0 0
  refine st_aload_n C 0 dX10_next_0 rfl rfl ?_
  refine st_getf C dX10_next_1 fl_X10_58 hs rfl ?_
  refine st_getf C dX10_next_4 fl_X10_272 hK rfl ?_
  refine st_if_ne (tgt := 18) C dX10_next_7 (by decide) (fun c_7 => ?_) (fun c_7 => by omega)
  refine st_aload_n C 0 dX10_next_18 rfl rfl ?_
  refine st_getf C dX10_next_19 fl_X10_58 hs rfl ?_
  refine st_aload_n C 0 dX10_next_22 rfl rfl ?_
  refine st_getf C dX10_next_23 fl_X10_9 hs rfl ?_
  refine st_callV (st := []) C dX10_next_26 [vR 1] (k_placeAhead1 (r9 := r9) hK hM hb (by omega) (by omega) hr) hK w_X10_269 rfl (by decide) (by decide) (by omega) (by omega) (Nat.le_of_ble_eq_true rfl) (ko_rt ?_)
  show T x 29 [(0, vR 0)] [vI r9] _ _ _
  refine st_istore_n C 1 dX10_next_29 rfl (by decide) rfl ?_
  show T x 30 [(0, vR 0), (1, vI r9)] [] _ _ _
  refine st_iload_n C 1 dX10_next_30 rfl rfl ?_
  refine st_iconst C dX10_next_31 (by decide) ?_
  refine st_icmp_ne (tgt := 43) C dX10_next_32 (by decide) (fun c_32 => by omega) (fun c_32 => ?_)
  exact st_throw C F dX10_next_35 dX10_next_38 dX10_next_39 dX10_next_42 xw_X10_154 (by decide) (by first | exact ⟨rfl, rfl⟩ | (exfalso; omega) | exact absurd (by assumption) hQ | exact absurd hQ (by assumption)) (by omega) (by omega)
set_option maxRecDepth 20000 in
set_option maxHeartbeats 4000000 in
theorem s_next {g : Gx} {h : HP} {rc dc : Int} {mf : Int → Int} {bg la ly ar : Int} {r9 : Int} (hs : cS h rc dc) (hM : cM h mf) (hK : cK h bg la ly ar) (hb : bg = 1) (hl : 0 ≤ ly ∧ ly ≤ 2) (ha : -1 ≤ la ∧ la ≤ 63) (hr : IsNext (fun j => mf (64 * ly + j) = ar) (la + 1) r9) (hQ : r9 ≠ -1) : Ct g yX10_next (.code yX10_next cX10_next 2 (some .int)) 6 1 6 [vR 0] h (Rt (some (vI r9)) (hput h 8 (oO 8 [vI bg, vI r9, vI ly, vI ar]))) := by
  refine Ct.of (by decide) (Nat.le_of_ble_eq_true rfl) (fun x hg C F => ?_)
  subst hg
  show T x 0 [(0, vR 0)] [] h 0 0
  refine st_aload_n C 0 dX10_next_0 rfl rfl ?_
  refine st_getf C dX10_next_1 fl_X10_58 hs rfl ?_
  refine st_getf C dX10_next_4 fl_X10_272 hK rfl ?_
  refine st_if_ne (tgt := 18) C dX10_next_7 (by decide) (fun c_7 => ?_) (fun c_7 => by omega)
  refine st_aload_n C 0 dX10_next_18 rfl rfl ?_
  refine st_getf C dX10_next_19 fl_X10_58 hs rfl ?_
  refine st_aload_n C 0 dX10_next_22 rfl rfl ?_
  refine st_getf C dX10_next_23 fl_X10_9 hs rfl ?_
  refine st_callV (st := []) C dX10_next_26 [vR 1] (k_placeAhead1 (r9 := r9) hK hM hb (by omega) (by omega) hr) hK w_X10_269 rfl (by decide) (by decide) (by omega) (by omega) (Nat.le_of_ble_eq_true rfl) (ko_rt ?_)
  show T x 29 [(0, vR 0)] [vI r9] _ _ _
  refine st_istore_n C 1 dX10_next_29 rfl (by decide) rfl ?_
  show T x 30 [(0, vR 0), (1, vI r9)] [] _ _ _
  refine st_iload_n C 1 dX10_next_30 rfl rfl ?_
  refine st_iconst C dX10_next_31 (by decide) ?_
  refine st_icmp_ne (tgt := 43) C dX10_next_32 (by decide) (fun c_32 => ?_) (fun c_32 => ?_)
  · refine st_aload_n C 0 dX10_next_43 rfl rfl ?_
    refine st_getf C dX10_next_44 fl_X10_58 hs rfl ?_
    refine st_iload_n C 1 dX10_next_47 rfl rfl ?_
    refine st_putf C dX10_next_48 fp_X10_275 (fun q => by cases q) hK (Nat.le_of_ble_eq_true rfl) fit_int ?_
    show T x 51 [(0, vR 0), (1, vI r9)] [] (hput h 8 (oO 8 [vI bg, vI r9, vI ly, vI ar])) _ _
    refine st_iload_n C 1 dX10_next_51 rfl rfl ?_
    exact st_ireturn C F dX10_next_52 rfl (by first | exact ⟨by with_reducible rfl, by with_reducible rfl⟩ | (exfalso; omega) | exact absurd (by assumption) hQ | exact absurd hQ (by assumption)) (by omega) (by omega)
  · exact st_throw C F dX10_next_35 dX10_next_38 dX10_next_39 dX10_next_42 xw_X10_154 (by decide) (by first | exact ⟨rfl, rfl⟩ | (exfalso; omega) | exact absurd (by assumption) hQ | exact absurd hQ (by assumption)) (by omega) (by omega)
set_option maxRecDepth 20000 in
set_option maxHeartbeats 4000000 in
theorem s_leaves_x1 {g : Gx} {h : HP} {rc dc : Int} {mf : Int → Int} {l : Int} (hs : cS h rc dc) (hM : cM h mf) (hQ : ¬ (0 ≤ l ∧ l ≤ 2)) : Ct g yX10_leaves (.code yX10_leaves cX10_leaves 4 (some .int)) 7 1 6 [vR 0, vI l] h (Th "java/lang/IllegalArgumentException" h) := by
  refine Ct.of (by decide) (Nat.le_of_ble_eq_true rfl) (fun x hg C F => ?_)
  subst hg
  show T x 0 [(0, vR 0), (1, vI l)] [] h 0 0
  refine st_iload_n C 1 dX10_leaves_0 rfl rfl ?_
  by_cases b_1 : 0 ≤ l ∧ l ≤ 2
  · refine st_callS (st := []) C dX10_leaves_1 [vI l] (k_isLayer_t (v9 := l)  b_1) w_X10_249 rfl (by decide) (by decide) (by omega) (by omega) (Nat.le_of_ble_eq_true rfl) (ko_rt ?_)
    show T x 4 [(0, vR 0), (1, vI l)] [vI 1] _ _ _
    refine st_callS (st := []) C dX10_leaves_4 [vI 1] k_need_t w_X10_81 rfl (by decide) (by decide) (by omega) (by omega) (Nat.le_of_ble_eq_true rfl) (ko_rn ?_)
    show T x 7 [(0, vR 0), (1, vI l)] [] _ _ _
    refine st_iconst C dX10_leaves_7 (by decide) ?_
    refine st_istore_n C 2 dX10_leaves_8 rfl (by decide) rfl ?_
    show T x 9 [(0, vR 0), (1, vI l), (2, vI 1)] [] _ _ _
    refine st_iconst C dX10_leaves_9 (by decide) ?_
    refine st_istore_n C 3 dX10_leaves_10 rfl (by decide) rfl ?_
    show T x 11 [(0, vR 0), (1, vI l), (2, vI 1), (3, vI 1)] [] _ _ _
    refine st_iload_n C 3 dX10_leaves_11 rfl rfl ?_
    refine st_iconst C dX10_leaves_12 (by decide) ?_
    refine st_icmp_ge (tgt := 36) C dX10_leaves_13 (by decide) (fun c_13 => by omega) (fun c_13 => ?_)
    refine st_iload_n C 2 dX10_leaves_16 rfl rfl ?_
    refine st_iconst C dX10_leaves_17 (by decide) ?_
    refine st_aload_n C 0 dX10_leaves_18 rfl rfl ?_
    refine st_getf C dX10_leaves_19 fl_X10_9 hs rfl ?_
    refine st_iload_n C 1 dX10_leaves_22 rfl rfl ?_
    refine st_iload_n C 3 dX10_leaves_23 rfl rfl ?_
    refine st_callS (st := [vI 3, vI 1]) C dX10_leaves_24 [vR 1, vI l, vI 1] (k_mixed1 (f := mf) (l := l) hM (by omega)) w_X10_252 rfl (by decide) (by decide) (by omega) (by omega) (Nat.le_of_ble_eq_true rfl) (ko_rt ?_)
    show T x 27 [(0, vR 0), (1, vI l), (2, vI 1), (3, vI 1)] [vI (mixed mf l 2), vI 3, vI 1] _ _ _
    refine st_imul C dX10_leaves_27 ⟨(by omega), (by omega)⟩ ?_
    refine st_iadd C dX10_leaves_28 ⟨(by omega), (by omega)⟩ ?_
    refine st_istore_n C 2 dX10_leaves_29 rfl (by decide) rfl ?_
    show T x 30 [(0, vR 0), (1, vI l), (2, vI (1 + (3 * (mixed mf l 2)))), (3, vI 1)] [] _ _ _
    refine st_iinc C dX10_leaves_30 rfl (by decide) rfl ⟨(by omega), (by omega)⟩ ?_
    show T x 33 [(0, vR 0), (1, vI l), (2, vI (1 + (3 * (mixed mf l 2)))), (3, vI 2)] [] _ _ _
    refine st_goto (tgt := 11) C dX10_leaves_33 (by decide) ?_
    refine st_iload_n C 3 dX10_leaves_11 rfl rfl ?_
    refine st_iconst C dX10_leaves_12 (by decide) ?_
    refine st_icmp_ge (tgt := 36) C dX10_leaves_13 (by decide) (fun c_13 => by omega) (fun c_13 => ?_)
    refine st_iload_n C 2 dX10_leaves_16 rfl rfl ?_
    refine st_iconst C dX10_leaves_17 (by decide) ?_
    refine st_aload_n C 0 dX10_leaves_18 rfl rfl ?_
    refine st_getf C dX10_leaves_19 fl_X10_9 hs rfl ?_
    refine st_iload_n C 1 dX10_leaves_22 rfl rfl ?_
    refine st_iload_n C 3 dX10_leaves_23 rfl rfl ?_
    refine st_callS (st := [vI 3, vI (1 + (3 * (mixed mf l 2)))]) C dX10_leaves_24 [vR 1, vI l, vI 2] (k_mixed2 (f := mf) (l := l) hM (by omega)) w_X10_252 rfl (by decide) (by decide) (by omega) (by omega) (Nat.le_of_ble_eq_true rfl) (ko_rt ?_)
    show T x 27 [(0, vR 0), (1, vI l), (2, vI (1 + (3 * (mixed mf l 2)))), (3, vI 2)] [vI (mixed mf l 4), vI 3, vI (1 + (3 * (mixed mf l 2)))] _ _ _
    refine st_imul C dX10_leaves_27 ⟨(by omega), (by omega)⟩ ?_
    refine st_iadd C dX10_leaves_28 ⟨(by omega), (by omega)⟩ ?_
    refine st_istore_n C 2 dX10_leaves_29 rfl (by decide) rfl ?_
    show T x 30 [(0, vR 0), (1, vI l), (2, vI (1 + (3 * (mixed mf l 2)) + (3 * (mixed mf l 4)))), (3, vI 2)] [] _ _ _
    refine st_iinc C dX10_leaves_30 rfl (by decide) rfl ⟨(by omega), (by omega)⟩ ?_
    show T x 33 [(0, vR 0), (1, vI l), (2, vI (1 + (3 * (mixed mf l 2)) + (3 * (mixed mf l 4)))), (3, vI 3)] [] _ _ _
    refine st_goto (tgt := 11) C dX10_leaves_33 (by decide) ?_
    refine st_iload_n C 3 dX10_leaves_11 rfl rfl ?_
    refine st_iconst C dX10_leaves_12 (by decide) ?_
    refine st_icmp_ge (tgt := 36) C dX10_leaves_13 (by decide) (fun c_13 => by omega) (fun c_13 => ?_)
    refine st_iload_n C 2 dX10_leaves_16 rfl rfl ?_
    refine st_iconst C dX10_leaves_17 (by decide) ?_
    refine st_aload_n C 0 dX10_leaves_18 rfl rfl ?_
    refine st_getf C dX10_leaves_19 fl_X10_9 hs rfl ?_
    refine st_iload_n C 1 dX10_leaves_22 rfl rfl ?_
    refine st_iload_n C 3 dX10_leaves_23 rfl rfl ?_
    refine st_callS (st := [vI 3, vI (1 + (3 * (mixed mf l 2)) + (3 * (mixed mf l 4)))]) C dX10_leaves_24 [vR 1, vI l, vI 3] (k_mixed3 (f := mf) (l := l) hM (by omega)) w_X10_252 rfl (by decide) (by decide) (by omega) (by omega) (Nat.le_of_ble_eq_true rfl) (ko_rt ?_)
    show T x 27 [(0, vR 0), (1, vI l), (2, vI (1 + (3 * (mixed mf l 2)) + (3 * (mixed mf l 4)))), (3, vI 3)] [vI (mixed mf l 8), vI 3, vI (1 + (3 * (mixed mf l 2)) + (3 * (mixed mf l 4)))] _ _ _
    refine st_imul C dX10_leaves_27 ⟨(by omega), (by omega)⟩ ?_
    refine st_iadd C dX10_leaves_28 ⟨(by omega), (by omega)⟩ ?_
    refine st_istore_n C 2 dX10_leaves_29 rfl (by decide) rfl ?_
    show T x 30 [(0, vR 0), (1, vI l), (2, vI (1 + (3 * (mixed mf l 2)) + (3 * (mixed mf l 4)) + (3 * (mixed mf l 8)))), (3, vI 3)] [] _ _ _
    refine st_iinc C dX10_leaves_30 rfl (by decide) rfl ⟨(by omega), (by omega)⟩ ?_
    show T x 33 [(0, vR 0), (1, vI l), (2, vI (1 + (3 * (mixed mf l 2)) + (3 * (mixed mf l 4)) + (3 * (mixed mf l 8)))), (3, vI 4)] [] _ _ _
    refine st_goto (tgt := 11) C dX10_leaves_33 (by decide) ?_
    refine st_iload_n C 3 dX10_leaves_11 rfl rfl ?_
    refine st_iconst C dX10_leaves_12 (by decide) ?_
    refine st_icmp_ge (tgt := 36) C dX10_leaves_13 (by decide) (fun c_13 => ?_) (fun c_13 => by omega)
    refine st_iload_n C 2 dX10_leaves_36 rfl rfl ?_
    exact st_ireturn C F dX10_leaves_37 rfl (by first | exact ⟨by with_reducible rfl, by with_reducible rfl⟩ | (exfalso; omega) | exact absurd (by assumption) hQ | exact absurd hQ (by assumption)) (by omega) (by omega)
  · refine st_callS (st := []) C dX10_leaves_1 [vI l] (k_isLayer_f (v9 := l)  b_1) w_X10_249 rfl (by decide) (by decide) (by omega) (by omega) (Nat.le_of_ble_eq_true rfl) (ko_rt ?_)
    show T x 4 [(0, vR 0), (1, vI l)] [vI 0] _ _ _
    refine st_callS (st := []) C dX10_leaves_4 [vI 0] k_need_f w_X10_81 rfl (by decide) (by decide) (by omega) (by omega) (Nat.le_of_ble_eq_true rfl) (ko_th ?_)
    exact st_out C F (by first | exact ⟨rfl, rfl⟩ | (exfalso; omega) | exact absurd (by assumption) hQ | exact absurd hQ (by assumption)) (by omega) (by omega)
theorem mixed_in {f : Int → Int} {l s : Int} (hs : s = 2 ∨ s = 4 ∨ s = 8) : 0 ≤ mixed f l s ∧ mixed f l s ≤ 16 := by
  have key : ∀ (n : Nat) (m : Int) (P : Int → Int → Prop), 0 ≤ m → 0 ≤ sumN (fun r => cnt (P r) m) n ∧ sumN (fun r => cnt (P r) m) n ≤ n * m := by
    intro n m P hm
    induction n with
    | zero => exact ⟨Int.le_refl 0, by simp [sumN]⟩
    | succ n ih =>
      have h1 := cnt_in (P n) hm
      unfold sumN
      push_cast
      rw [Int.add_mul, Int.one_mul]
      omega
  unfold mixed sum
  rcases hs with e | e | e <;> subst e
  · have := key 4 4 (fun r q => MixP f l 2 q r) (by omega)
    exact ⟨this.1, Int.le_trans this.2 (by decide)⟩
  · have := key 2 2 (fun r q => MixP f l 4 q r) (by omega)
    exact ⟨this.1, Int.le_trans this.2 (by decide)⟩
  · have := key 1 1 (fun r q => MixP f l 8 q r) (by omega)
    exact ⟨this.1, Int.le_trans this.2 (by decide)⟩
set_option maxRecDepth 20000 in
set_option maxHeartbeats 4000000 in
theorem s_leaves {g : Gx} {h : HP} {rc dc : Int} {mf : Int → Int} {l : Int} (hs : cS h rc dc) (hM : cM h mf) (hQ : 0 ≤ l ∧ l ≤ 2) : Ct g yX10_leaves (.code yX10_leaves cX10_leaves 4 (some .int)) 7 1 6 [vR 0, vI l] h (Rt (some (vI (1 + 3 * mixed mf l 2 + 3 * mixed mf l 4 + 3 * mixed mf l 8))) h) := by
  refine Ct.of (by decide) (Nat.le_of_ble_eq_true rfl) (fun x hg C F => ?_)
  subst hg
  have hm2 := mixed_in (f := mf) (l := l) (s := 2) (by omega)
  have hm4 := mixed_in (f := mf) (l := l) (s := 4) (by omega)
  have hm8 := mixed_in (f := mf) (l := l) (s := 8) (by omega)
  show T x 0 [(0, vR 0), (1, vI l)] [] h 0 0
  refine st_iload_n C 1 dX10_leaves_0 rfl rfl ?_
  have b_1 : 0 ≤ l ∧ l ≤ 2 := by omega
  refine st_callS (st := []) C dX10_leaves_1 [vI l] (k_isLayer_t (v9 := l)  b_1) w_X10_249 rfl (by decide) (by decide) (by omega) (by omega) (Nat.le_of_ble_eq_true rfl) (ko_rt ?_)
  show T x 4 [(0, vR 0), (1, vI l)] [vI 1] _ _ _
  refine st_callS (st := []) C dX10_leaves_4 [vI 1] k_need_t w_X10_81 rfl (by decide) (by decide) (by omega) (by omega) (Nat.le_of_ble_eq_true rfl) (ko_rn ?_)
  show T x 7 [(0, vR 0), (1, vI l)] [] _ _ _
  refine st_iconst C dX10_leaves_7 (by decide) ?_
  refine st_istore_n C 2 dX10_leaves_8 rfl (by decide) rfl ?_
  show T x 9 [(0, vR 0), (1, vI l), (2, vI 1)] [] _ _ _
  refine st_iconst C dX10_leaves_9 (by decide) ?_
  refine st_istore_n C 3 dX10_leaves_10 rfl (by decide) rfl ?_
  show T x 11 [(0, vR 0), (1, vI l), (2, vI 1), (3, vI 1)] [] _ _ _
  refine st_iload_n C 3 dX10_leaves_11 rfl rfl ?_
  refine st_iconst C dX10_leaves_12 (by decide) ?_
  refine st_icmp_ge (tgt := 36) C dX10_leaves_13 (by decide) (fun c_13 => by omega) (fun c_13 => ?_)
  refine st_iload_n C 2 dX10_leaves_16 rfl rfl ?_
  refine st_iconst C dX10_leaves_17 (by decide) ?_
  refine st_aload_n C 0 dX10_leaves_18 rfl rfl ?_
  refine st_getf C dX10_leaves_19 fl_X10_9 hs rfl ?_
  refine st_iload_n C 1 dX10_leaves_22 rfl rfl ?_
  refine st_iload_n C 3 dX10_leaves_23 rfl rfl ?_
  refine st_callS (st := [vI 3, vI 1]) C dX10_leaves_24 [vR 1, vI l, vI 1] (k_mixed1 (f := mf) (l := l) hM (by omega)) w_X10_252 rfl (by decide) (by decide) (by omega) (by omega) (Nat.le_of_ble_eq_true rfl) (ko_rt ?_)
  show T x 27 [(0, vR 0), (1, vI l), (2, vI 1), (3, vI 1)] [vI (mixed mf l 2), vI 3, vI 1] _ _ _
  refine st_imul C dX10_leaves_27 ⟨(by omega), (by omega)⟩ ?_
  refine st_iadd C dX10_leaves_28 ⟨(by omega), (by omega)⟩ ?_
  refine st_istore_n C 2 dX10_leaves_29 rfl (by decide) rfl ?_
  show T x 30 [(0, vR 0), (1, vI l), (2, vI (1 + (3 * (mixed mf l 2)))), (3, vI 1)] [] _ _ _
  refine st_iinc C dX10_leaves_30 rfl (by decide) rfl ⟨(by omega), (by omega)⟩ ?_
  show T x 33 [(0, vR 0), (1, vI l), (2, vI (1 + (3 * (mixed mf l 2)))), (3, vI 2)] [] _ _ _
  refine st_goto (tgt := 11) C dX10_leaves_33 (by decide) ?_
  refine st_iload_n C 3 dX10_leaves_11 rfl rfl ?_
  refine st_iconst C dX10_leaves_12 (by decide) ?_
  refine st_icmp_ge (tgt := 36) C dX10_leaves_13 (by decide) (fun c_13 => by omega) (fun c_13 => ?_)
  refine st_iload_n C 2 dX10_leaves_16 rfl rfl ?_
  refine st_iconst C dX10_leaves_17 (by decide) ?_
  refine st_aload_n C 0 dX10_leaves_18 rfl rfl ?_
  refine st_getf C dX10_leaves_19 fl_X10_9 hs rfl ?_
  refine st_iload_n C 1 dX10_leaves_22 rfl rfl ?_
  refine st_iload_n C 3 dX10_leaves_23 rfl rfl ?_
  refine st_callS (st := [vI 3, vI (1 + (3 * (mixed mf l 2)))]) C dX10_leaves_24 [vR 1, vI l, vI 2] (k_mixed2 (f := mf) (l := l) hM (by omega)) w_X10_252 rfl (by decide) (by decide) (by omega) (by omega) (Nat.le_of_ble_eq_true rfl) (ko_rt ?_)
  show T x 27 [(0, vR 0), (1, vI l), (2, vI (1 + (3 * (mixed mf l 2)))), (3, vI 2)] [vI (mixed mf l 4), vI 3, vI (1 + (3 * (mixed mf l 2)))] _ _ _
  refine st_imul C dX10_leaves_27 ⟨(by omega), (by omega)⟩ ?_
  refine st_iadd C dX10_leaves_28 ⟨(by omega), (by omega)⟩ ?_
  refine st_istore_n C 2 dX10_leaves_29 rfl (by decide) rfl ?_
  show T x 30 [(0, vR 0), (1, vI l), (2, vI (1 + (3 * (mixed mf l 2)) + (3 * (mixed mf l 4)))), (3, vI 2)] [] _ _ _
  refine st_iinc C dX10_leaves_30 rfl (by decide) rfl ⟨(by omega), (by omega)⟩ ?_
  show T x 33 [(0, vR 0), (1, vI l), (2, vI (1 + (3 * (mixed mf l 2)) + (3 * (mixed mf l 4)))), (3, vI 3)] [] _ _ _
  refine st_goto (tgt := 11) C dX10_leaves_33 (by decide) ?_
  refine st_iload_n C 3 dX10_leaves_11 rfl rfl ?_
  refine st_iconst C dX10_leaves_12 (by decide) ?_
  refine st_icmp_ge (tgt := 36) C dX10_leaves_13 (by decide) (fun c_13 => by omega) (fun c_13 => ?_)
  refine st_iload_n C 2 dX10_leaves_16 rfl rfl ?_
  refine st_iconst C dX10_leaves_17 (by decide) ?_
  refine st_aload_n C 0 dX10_leaves_18 rfl rfl ?_
  refine st_getf C dX10_leaves_19 fl_X10_9 hs rfl ?_
  refine st_iload_n C 1 dX10_leaves_22 rfl rfl ?_
  refine st_iload_n C 3 dX10_leaves_23 rfl rfl ?_
  refine st_callS (st := [vI 3, vI (1 + (3 * (mixed mf l 2)) + (3 * (mixed mf l 4)))]) C dX10_leaves_24 [vR 1, vI l, vI 3] (k_mixed3 (f := mf) (l := l) hM (by omega)) w_X10_252 rfl (by decide) (by decide) (by omega) (by omega) (Nat.le_of_ble_eq_true rfl) (ko_rt ?_)
  show T x 27 [(0, vR 0), (1, vI l), (2, vI (1 + (3 * (mixed mf l 2)) + (3 * (mixed mf l 4)))), (3, vI 3)] [vI (mixed mf l 8), vI 3, vI (1 + (3 * (mixed mf l 2)) + (3 * (mixed mf l 4)))] _ _ _
  refine st_imul C dX10_leaves_27 ⟨(by omega), (by omega)⟩ ?_
  refine st_iadd C dX10_leaves_28 ⟨(by omega), (by omega)⟩ ?_
  refine st_istore_n C 2 dX10_leaves_29 rfl (by decide) rfl ?_
  show T x 30 [(0, vR 0), (1, vI l), (2, vI (1 + (3 * (mixed mf l 2)) + (3 * (mixed mf l 4)) + (3 * (mixed mf l 8)))), (3, vI 3)] [] _ _ _
  refine st_iinc C dX10_leaves_30 rfl (by decide) rfl ⟨(by omega), (by omega)⟩ ?_
  show T x 33 [(0, vR 0), (1, vI l), (2, vI (1 + (3 * (mixed mf l 2)) + (3 * (mixed mf l 4)) + (3 * (mixed mf l 8)))), (3, vI 4)] [] _ _ _
  refine st_goto (tgt := 11) C dX10_leaves_33 (by decide) ?_
  refine st_iload_n C 3 dX10_leaves_11 rfl rfl ?_
  refine st_iconst C dX10_leaves_12 (by decide) ?_
  refine st_icmp_ge (tgt := 36) C dX10_leaves_13 (by decide) (fun c_13 => ?_) (fun c_13 => by omega)
  refine st_iload_n C 2 dX10_leaves_36 rfl rfl ?_
  exact st_ireturn C F dX10_leaves_37 rfl (by first | exact ⟨by with_reducible rfl, by with_reducible rfl⟩ | (exfalso; omega) | exact absurd (by assumption) hQ | exact absurd hQ (by assumption)) (by omega) (by omega)
