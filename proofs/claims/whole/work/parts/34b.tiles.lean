set_option maxRecDepth 20000 in
set_option maxHeartbeats 4000000 in
theorem k_isWithin_t {g : Gx} {h : HP} {v9 m9 : Int} (hP : 0 ≤ v9 ∧ v9 ≤ m9) : Ct g yX10_isWithin (.code yX10_isWithin cX10_isWithin 2 (some .boolean)) 1 0 0 [vI v9, vI m9] h (Rt (some (vI 1)) h) := by
  refine Ct.of (by decide) (Nat.le_of_ble_eq_true rfl) (fun x hg C F => ?_)
  subst hg
  show T x 0 [(0, vI v9), (1, vI m9)] [] h 0 0
  refine st_iload_n C 0 dX10_isWithin_0 rfl rfl ?_
  refine st_if_lt (tgt := 13) C dX10_isWithin_1 (by decide) (fun c_1 => ?_) (fun c_1 => ?_)
  · refine st_iconst C dX10_isWithin_13 (by decide) ?_
    exact st_zreturn C F dX10_isWithin_14 rfl (by omega) (rt_i (by omega) rfl) (by omega) (by omega)
  · refine st_iload_n C 0 dX10_isWithin_4 rfl rfl ?_
    refine st_iload_n C 1 dX10_isWithin_5 rfl rfl ?_
    refine st_icmp_gt (tgt := 13) C dX10_isWithin_6 (by decide) (fun c_6 => ?_) (fun c_6 => ?_)
    · refine st_iconst C dX10_isWithin_13 (by decide) ?_
      exact st_zreturn C F dX10_isWithin_14 rfl (by omega) (rt_i (by omega) rfl) (by omega) (by omega)
    · refine st_iconst C dX10_isWithin_9 (by decide) ?_
      refine st_goto (tgt := 14) C dX10_isWithin_10 (by decide) ?_
      exact st_zreturn C F dX10_isWithin_14 rfl (by omega) (rt_i (by omega) rfl) (by omega) (by omega)
set_option maxRecDepth 20000 in
set_option maxHeartbeats 4000000 in
theorem k_isWithin_f {g : Gx} {h : HP} {v9 m9 : Int} (hP : ¬ (0 ≤ v9 ∧ v9 ≤ m9)) : Ct g yX10_isWithin (.code yX10_isWithin cX10_isWithin 2 (some .boolean)) 1 0 0 [vI v9, vI m9] h (Rt (some (vI 0)) h) := by
  refine Ct.of (by decide) (Nat.le_of_ble_eq_true rfl) (fun x hg C F => ?_)
  subst hg
  show T x 0 [(0, vI v9), (1, vI m9)] [] h 0 0
  refine st_iload_n C 0 dX10_isWithin_0 rfl rfl ?_
  refine st_if_lt (tgt := 13) C dX10_isWithin_1 (by decide) (fun c_1 => ?_) (fun c_1 => ?_)
  · refine st_iconst C dX10_isWithin_13 (by decide) ?_
    exact st_zreturn C F dX10_isWithin_14 rfl (by omega) (rt_i (by omega) rfl) (by omega) (by omega)
  · refine st_iload_n C 0 dX10_isWithin_4 rfl rfl ?_
    refine st_iload_n C 1 dX10_isWithin_5 rfl rfl ?_
    refine st_icmp_gt (tgt := 13) C dX10_isWithin_6 (by decide) (fun c_6 => ?_) (fun c_6 => ?_)
    · refine st_iconst C dX10_isWithin_13 (by decide) ?_
      exact st_zreturn C F dX10_isWithin_14 rfl (by omega) (rt_i (by omega) rfl) (by omega) (by omega)
    · refine st_iconst C dX10_isWithin_9 (by decide) ?_
      refine st_goto (tgt := 14) C dX10_isWithin_10 (by decide) ?_
      exact st_zreturn C F dX10_isWithin_14 rfl (by omega) (rt_i (by omega) rfl) (by omega) (by omega)
set_option maxRecDepth 20000 in
set_option maxHeartbeats 4000000 in
theorem k_isLayer_t {g : Gx} {h : HP} {v9 : Int} (hP : 0 ≤ v9 ∧ v9 ≤ 2) : Ct g yX10_isLayer (.code yX10_isLayer cX10_isLayer 1 (some .boolean)) 2 0 0 [vI v9] h (Rt (some (vI 1)) h) := by
  refine Ct.of (by decide) (Nat.le_of_ble_eq_true rfl) (fun x hg C F => ?_)
  subst hg
  show T x 0 [(0, vI v9)] [] h 0 0
  refine st_iload_n C 0 dX10_isLayer_0 rfl rfl ?_
  refine st_iconst C dX10_isLayer_1 (by decide) ?_
  by_cases b_2 : 0 ≤ v9 ∧ v9 ≤ 2
  · refine st_callS (st := []) C dX10_isLayer_2 [vI v9, vI 2] (k_isWithin_t (v9 := v9) (m9 := 2)  b_2) w_X10_118 rfl (by decide) (by decide) (by omega) (by omega) (Nat.le_of_ble_eq_true rfl) (ko_rt ?_)
    show T x 5 [(0, vI v9)] [vI 1] _ _ _
    exact st_zreturn C F dX10_isLayer_5 rfl (by omega) (rt_i (by omega) rfl) (by omega) (by omega)
  · refine st_callS (st := []) C dX10_isLayer_2 [vI v9, vI 2] (k_isWithin_f (v9 := v9) (m9 := 2)  b_2) w_X10_118 rfl (by decide) (by decide) (by omega) (by omega) (Nat.le_of_ble_eq_true rfl) (ko_rt ?_)
    show T x 5 [(0, vI v9)] [vI 0] _ _ _
    exact st_zreturn C F dX10_isLayer_5 rfl (by omega) (rt_i (by omega) rfl) (by omega) (by omega)
set_option maxRecDepth 20000 in
set_option maxHeartbeats 4000000 in
theorem k_isLayer_f {g : Gx} {h : HP} {v9 : Int} (hP : ¬ (0 ≤ v9 ∧ v9 ≤ 2)) : Ct g yX10_isLayer (.code yX10_isLayer cX10_isLayer 1 (some .boolean)) 2 0 0 [vI v9] h (Rt (some (vI 0)) h) := by
  refine Ct.of (by decide) (Nat.le_of_ble_eq_true rfl) (fun x hg C F => ?_)
  subst hg
  show T x 0 [(0, vI v9)] [] h 0 0
  refine st_iload_n C 0 dX10_isLayer_0 rfl rfl ?_
  refine st_iconst C dX10_isLayer_1 (by decide) ?_
  by_cases b_2 : 0 ≤ v9 ∧ v9 ≤ 2
  · refine st_callS (st := []) C dX10_isLayer_2 [vI v9, vI 2] (k_isWithin_t (v9 := v9) (m9 := 2)  b_2) w_X10_118 rfl (by decide) (by decide) (by omega) (by omega) (Nat.le_of_ble_eq_true rfl) (ko_rt ?_)
    show T x 5 [(0, vI v9)] [vI 1] _ _ _
    exact st_zreturn C F dX10_isLayer_5 rfl (by omega) (rt_i (by omega) rfl) (by omega) (by omega)
  · refine st_callS (st := []) C dX10_isLayer_2 [vI v9, vI 2] (k_isWithin_f (v9 := v9) (m9 := 2)  b_2) w_X10_118 rfl (by decide) (by decide) (by omega) (by omega) (Nat.le_of_ble_eq_true rfl) (ko_rt ?_)
    show T x 5 [(0, vI v9)] [vI 0] _ _ _
    exact st_zreturn C F dX10_isLayer_5 rfl (by omega) (rt_i (by omega) rfl) (by omega) (by omega)
set_option maxRecDepth 20000 in
set_option maxHeartbeats 4000000 in
theorem k_levelOf0 {g : Gx} {h : HP}   : Ct g yX8_levelOf (.code yX8_levelOf cX8_levelOf 2 (some .int)) 1 0 0 [vI 1] h (Rt (some (vI 0)) h) := by
  refine Ct.of (by decide) (Nat.le_of_ble_eq_true rfl) (fun x hg C F => ?_)
  subst hg
  show T x 0 [(0, vI 1)] [] h 0 0
  refine st_iconst C dX8_levelOf_0 (by decide) ?_
  refine st_istore_n C 1 dX8_levelOf_1 rfl (by decide) rfl ?_
  show T x 2 [(0, vI 1), (1, vI 0)] [] _ _ _
  refine st_iload_n C 1 dX8_levelOf_2 rfl rfl ?_
  refine st_iconst C dX8_levelOf_3 (by decide) ?_
  refine st_icmp_ge (tgt := 22) C dX8_levelOf_4 (by decide) (fun c_4 => by omega) (fun c_4 => ?_)
  refine st_iconst C dX8_levelOf_7 (by decide) ?_
  refine st_iload_n C 1 dX8_levelOf_8 rfl rfl ?_
  refine st_ishl C 0 dX8_levelOf_9 (by omega) (by decide) (by omega) ?_
  show T x 10 [(0, vI 1), (1, vI 0)] [vI 1] _ _ _
  refine st_iload_n C 0 dX8_levelOf_10 rfl rfl ?_
  refine st_icmp_ne (tgt := 16) C dX8_levelOf_11 (by decide) (fun c_11 => by omega) (fun c_11 => ?_)
  refine st_iload_n C 1 dX8_levelOf_14 rfl rfl ?_
  exact st_ireturn C F dX8_levelOf_15 rfl ⟨rfl, rfl⟩ (by omega) (by omega)
set_option maxRecDepth 20000 in
set_option maxHeartbeats 4000000 in
theorem k_levelOf1 {g : Gx} {h : HP}   : Ct g yX8_levelOf (.code yX8_levelOf cX8_levelOf 2 (some .int)) 1 0 0 [vI 2] h (Rt (some (vI 1)) h) := by
  refine Ct.of (by decide) (Nat.le_of_ble_eq_true rfl) (fun x hg C F => ?_)
  subst hg
  show T x 0 [(0, vI 2)] [] h 0 0
  refine st_iconst C dX8_levelOf_0 (by decide) ?_
  refine st_istore_n C 1 dX8_levelOf_1 rfl (by decide) rfl ?_
  show T x 2 [(0, vI 2), (1, vI 0)] [] _ _ _
  refine st_iload_n C 1 dX8_levelOf_2 rfl rfl ?_
  refine st_iconst C dX8_levelOf_3 (by decide) ?_
  refine st_icmp_ge (tgt := 22) C dX8_levelOf_4 (by decide) (fun c_4 => by omega) (fun c_4 => ?_)
  refine st_iconst C dX8_levelOf_7 (by decide) ?_
  refine st_iload_n C 1 dX8_levelOf_8 rfl rfl ?_
  refine st_ishl C 0 dX8_levelOf_9 (by omega) (by decide) (by omega) ?_
  show T x 10 [(0, vI 2), (1, vI 0)] [vI 1] _ _ _
  refine st_iload_n C 0 dX8_levelOf_10 rfl rfl ?_
  refine st_icmp_ne (tgt := 16) C dX8_levelOf_11 (by decide) (fun c_11 => ?_) (fun c_11 => by omega)
  refine st_iinc C dX8_levelOf_16 rfl (by decide) rfl ⟨(by omega), (by omega)⟩ ?_
  show T x 19 [(0, vI 2), (1, vI 1)] [] _ _ _
  refine st_goto (tgt := 2) C dX8_levelOf_19 (by decide) ?_
  refine st_iload_n C 1 dX8_levelOf_2 rfl rfl ?_
  refine st_iconst C dX8_levelOf_3 (by decide) ?_
  refine st_icmp_ge (tgt := 22) C dX8_levelOf_4 (by decide) (fun c_4 => by omega) (fun c_4 => ?_)
  refine st_iconst C dX8_levelOf_7 (by decide) ?_
  refine st_iload_n C 1 dX8_levelOf_8 rfl rfl ?_
  refine st_ishl C 1 dX8_levelOf_9 (by omega) (by decide) (by omega) ?_
  show T x 10 [(0, vI 2), (1, vI 1)] [vI 2] _ _ _
  refine st_iload_n C 0 dX8_levelOf_10 rfl rfl ?_
  refine st_icmp_ne (tgt := 16) C dX8_levelOf_11 (by decide) (fun c_11 => by omega) (fun c_11 => ?_)
  refine st_iload_n C 1 dX8_levelOf_14 rfl rfl ?_
  exact st_ireturn C F dX8_levelOf_15 rfl ⟨rfl, rfl⟩ (by omega) (by omega)
set_option maxRecDepth 20000 in
set_option maxHeartbeats 4000000 in
theorem k_levelOf2 {g : Gx} {h : HP}   : Ct g yX8_levelOf (.code yX8_levelOf cX8_levelOf 2 (some .int)) 1 0 0 [vI 4] h (Rt (some (vI 2)) h) := by
  refine Ct.of (by decide) (Nat.le_of_ble_eq_true rfl) (fun x hg C F => ?_)
  subst hg
  show T x 0 [(0, vI 4)] [] h 0 0
  refine st_iconst C dX8_levelOf_0 (by decide) ?_
  refine st_istore_n C 1 dX8_levelOf_1 rfl (by decide) rfl ?_
  show T x 2 [(0, vI 4), (1, vI 0)] [] _ _ _
  refine st_iload_n C 1 dX8_levelOf_2 rfl rfl ?_
  refine st_iconst C dX8_levelOf_3 (by decide) ?_
  refine st_icmp_ge (tgt := 22) C dX8_levelOf_4 (by decide) (fun c_4 => by omega) (fun c_4 => ?_)
  refine st_iconst C dX8_levelOf_7 (by decide) ?_
  refine st_iload_n C 1 dX8_levelOf_8 rfl rfl ?_
  refine st_ishl C 0 dX8_levelOf_9 (by omega) (by decide) (by omega) ?_
  show T x 10 [(0, vI 4), (1, vI 0)] [vI 1] _ _ _
  refine st_iload_n C 0 dX8_levelOf_10 rfl rfl ?_
  refine st_icmp_ne (tgt := 16) C dX8_levelOf_11 (by decide) (fun c_11 => ?_) (fun c_11 => by omega)
  refine st_iinc C dX8_levelOf_16 rfl (by decide) rfl ⟨(by omega), (by omega)⟩ ?_
  show T x 19 [(0, vI 4), (1, vI 1)] [] _ _ _
  refine st_goto (tgt := 2) C dX8_levelOf_19 (by decide) ?_
  refine st_iload_n C 1 dX8_levelOf_2 rfl rfl ?_
  refine st_iconst C dX8_levelOf_3 (by decide) ?_
  refine st_icmp_ge (tgt := 22) C dX8_levelOf_4 (by decide) (fun c_4 => by omega) (fun c_4 => ?_)
  refine st_iconst C dX8_levelOf_7 (by decide) ?_
  refine st_iload_n C 1 dX8_levelOf_8 rfl rfl ?_
  refine st_ishl C 1 dX8_levelOf_9 (by omega) (by decide) (by omega) ?_
  show T x 10 [(0, vI 4), (1, vI 1)] [vI 2] _ _ _
  refine st_iload_n C 0 dX8_levelOf_10 rfl rfl ?_
  refine st_icmp_ne (tgt := 16) C dX8_levelOf_11 (by decide) (fun c_11 => ?_) (fun c_11 => by omega)
  refine st_iinc C dX8_levelOf_16 rfl (by decide) rfl ⟨(by omega), (by omega)⟩ ?_
  show T x 19 [(0, vI 4), (1, vI 2)] [] _ _ _
  refine st_goto (tgt := 2) C dX8_levelOf_19 (by decide) ?_
  refine st_iload_n C 1 dX8_levelOf_2 rfl rfl ?_
  refine st_iconst C dX8_levelOf_3 (by decide) ?_
  refine st_icmp_ge (tgt := 22) C dX8_levelOf_4 (by decide) (fun c_4 => by omega) (fun c_4 => ?_)
  refine st_iconst C dX8_levelOf_7 (by decide) ?_
  refine st_iload_n C 1 dX8_levelOf_8 rfl rfl ?_
  refine st_ishl C 2 dX8_levelOf_9 (by omega) (by decide) (by omega) ?_
  show T x 10 [(0, vI 4), (1, vI 2)] [vI 4] _ _ _
  refine st_iload_n C 0 dX8_levelOf_10 rfl rfl ?_
  refine st_icmp_ne (tgt := 16) C dX8_levelOf_11 (by decide) (fun c_11 => by omega) (fun c_11 => ?_)
  refine st_iload_n C 1 dX8_levelOf_14 rfl rfl ?_
  exact st_ireturn C F dX8_levelOf_15 rfl ⟨rfl, rfl⟩ (by omega) (by omega)
set_option maxRecDepth 20000 in
set_option maxHeartbeats 4000000 in
theorem k_levelOf3 {g : Gx} {h : HP}   : Ct g yX8_levelOf (.code yX8_levelOf cX8_levelOf 2 (some .int)) 1 0 0 [vI 8] h (Rt (some (vI 3)) h) := by
  refine Ct.of (by decide) (Nat.le_of_ble_eq_true rfl) (fun x hg C F => ?_)
  subst hg
  show T x 0 [(0, vI 8)] [] h 0 0
  refine st_iconst C dX8_levelOf_0 (by decide) ?_
  refine st_istore_n C 1 dX8_levelOf_1 rfl (by decide) rfl ?_
  show T x 2 [(0, vI 8), (1, vI 0)] [] _ _ _
  refine st_iload_n C 1 dX8_levelOf_2 rfl rfl ?_
  refine st_iconst C dX8_levelOf_3 (by decide) ?_
  refine st_icmp_ge (tgt := 22) C dX8_levelOf_4 (by decide) (fun c_4 => by omega) (fun c_4 => ?_)
  refine st_iconst C dX8_levelOf_7 (by decide) ?_
  refine st_iload_n C 1 dX8_levelOf_8 rfl rfl ?_
  refine st_ishl C 0 dX8_levelOf_9 (by omega) (by decide) (by omega) ?_
  show T x 10 [(0, vI 8), (1, vI 0)] [vI 1] _ _ _
  refine st_iload_n C 0 dX8_levelOf_10 rfl rfl ?_
  refine st_icmp_ne (tgt := 16) C dX8_levelOf_11 (by decide) (fun c_11 => ?_) (fun c_11 => by omega)
  refine st_iinc C dX8_levelOf_16 rfl (by decide) rfl ⟨(by omega), (by omega)⟩ ?_
  show T x 19 [(0, vI 8), (1, vI 1)] [] _ _ _
  refine st_goto (tgt := 2) C dX8_levelOf_19 (by decide) ?_
  refine st_iload_n C 1 dX8_levelOf_2 rfl rfl ?_
  refine st_iconst C dX8_levelOf_3 (by decide) ?_
  refine st_icmp_ge (tgt := 22) C dX8_levelOf_4 (by decide) (fun c_4 => by omega) (fun c_4 => ?_)
  refine st_iconst C dX8_levelOf_7 (by decide) ?_
  refine st_iload_n C 1 dX8_levelOf_8 rfl rfl ?_
  refine st_ishl C 1 dX8_levelOf_9 (by omega) (by decide) (by omega) ?_
  show T x 10 [(0, vI 8), (1, vI 1)] [vI 2] _ _ _
  refine st_iload_n C 0 dX8_levelOf_10 rfl rfl ?_
  refine st_icmp_ne (tgt := 16) C dX8_levelOf_11 (by decide) (fun c_11 => ?_) (fun c_11 => by omega)
  refine st_iinc C dX8_levelOf_16 rfl (by decide) rfl ⟨(by omega), (by omega)⟩ ?_
  show T x 19 [(0, vI 8), (1, vI 2)] [] _ _ _
  refine st_goto (tgt := 2) C dX8_levelOf_19 (by decide) ?_
  refine st_iload_n C 1 dX8_levelOf_2 rfl rfl ?_
  refine st_iconst C dX8_levelOf_3 (by decide) ?_
  refine st_icmp_ge (tgt := 22) C dX8_levelOf_4 (by decide) (fun c_4 => by omega) (fun c_4 => ?_)
  refine st_iconst C dX8_levelOf_7 (by decide) ?_
  refine st_iload_n C 1 dX8_levelOf_8 rfl rfl ?_
  refine st_ishl C 2 dX8_levelOf_9 (by omega) (by decide) (by omega) ?_
  show T x 10 [(0, vI 8), (1, vI 2)] [vI 4] _ _ _
  refine st_iload_n C 0 dX8_levelOf_10 rfl rfl ?_
  refine st_icmp_ne (tgt := 16) C dX8_levelOf_11 (by decide) (fun c_11 => ?_) (fun c_11 => by omega)
  refine st_iinc C dX8_levelOf_16 rfl (by decide) rfl ⟨(by omega), (by omega)⟩ ?_
  show T x 19 [(0, vI 8), (1, vI 3)] [] _ _ _
  refine st_goto (tgt := 2) C dX8_levelOf_19 (by decide) ?_
  refine st_iload_n C 1 dX8_levelOf_2 rfl rfl ?_
  refine st_iconst C dX8_levelOf_3 (by decide) ?_
  refine st_icmp_ge (tgt := 22) C dX8_levelOf_4 (by decide) (fun c_4 => by omega) (fun c_4 => ?_)
  refine st_iconst C dX8_levelOf_7 (by decide) ?_
  refine st_iload_n C 1 dX8_levelOf_8 rfl rfl ?_
  refine st_ishl C 3 dX8_levelOf_9 (by omega) (by decide) (by omega) ?_
  show T x 10 [(0, vI 8), (1, vI 3)] [vI 8] _ _ _
  refine st_iload_n C 0 dX8_levelOf_10 rfl rfl ?_
  refine st_icmp_ne (tgt := 16) C dX8_levelOf_11 (by decide) (fun c_11 => by omega) (fun c_11 => ?_)
  refine st_iload_n C 1 dX8_levelOf_14 rfl rfl ?_
  exact st_ireturn C F dX8_levelOf_15 rfl ⟨rfl, rfl⟩ (by omega) (by omega)
set_option maxRecDepth 20000 in
set_option maxHeartbeats 4000000 in
theorem k_levelOfo {g : Gx} {h : HP} {s9 : Int} (hs : s9 ≠ 1 ∧ s9 ≠ 2 ∧ s9 ≠ 4 ∧ s9 ≠ 8) : Ct g yX8_levelOf (.code yX8_levelOf cX8_levelOf 2 (some .int)) 1 0 0 [vI s9] h (Rt (some (vI (-1))) h) := by
  refine Ct.of (by decide) (Nat.le_of_ble_eq_true rfl) (fun x hg C F => ?_)
  subst hg
  show T x 0 [(0, vI s9)] [] h 0 0
  refine st_iconst C dX8_levelOf_0 (by decide) ?_
  refine st_istore_n C 1 dX8_levelOf_1 rfl (by decide) rfl ?_
  show T x 2 [(0, vI s9), (1, vI 0)] [] _ _ _
  refine st_iload_n C 1 dX8_levelOf_2 rfl rfl ?_
  refine st_iconst C dX8_levelOf_3 (by decide) ?_
  refine st_icmp_ge (tgt := 22) C dX8_levelOf_4 (by decide) (fun c_4 => by omega) (fun c_4 => ?_)
  refine st_iconst C dX8_levelOf_7 (by decide) ?_
  refine st_iload_n C 1 dX8_levelOf_8 rfl rfl ?_
  refine st_ishl C 0 dX8_levelOf_9 (by omega) (by decide) (by omega) ?_
  show T x 10 [(0, vI s9), (1, vI 0)] [vI 1] _ _ _
  refine st_iload_n C 0 dX8_levelOf_10 rfl rfl ?_
  refine st_icmp_ne (tgt := 16) C dX8_levelOf_11 (by decide) (fun c_11 => ?_) (fun c_11 => ?_)
  · refine st_iinc C dX8_levelOf_16 rfl (by decide) rfl ⟨(by omega), (by omega)⟩ ?_
    show T x 19 [(0, vI s9), (1, vI 1)] [] _ _ _
    refine st_goto (tgt := 2) C dX8_levelOf_19 (by decide) ?_
    refine st_iload_n C 1 dX8_levelOf_2 rfl rfl ?_
    refine st_iconst C dX8_levelOf_3 (by decide) ?_
    refine st_icmp_ge (tgt := 22) C dX8_levelOf_4 (by decide) (fun c_4 => by omega) (fun c_4 => ?_)
    refine st_iconst C dX8_levelOf_7 (by decide) ?_
    refine st_iload_n C 1 dX8_levelOf_8 rfl rfl ?_
    refine st_ishl C 1 dX8_levelOf_9 (by omega) (by decide) (by omega) ?_
    show T x 10 [(0, vI s9), (1, vI 1)] [vI 2] _ _ _
    refine st_iload_n C 0 dX8_levelOf_10 rfl rfl ?_
    refine st_icmp_ne (tgt := 16) C dX8_levelOf_11 (by decide) (fun c_11 => ?_) (fun c_11 => ?_)
    · refine st_iinc C dX8_levelOf_16 rfl (by decide) rfl ⟨(by omega), (by omega)⟩ ?_
      show T x 19 [(0, vI s9), (1, vI 2)] [] _ _ _
      refine st_goto (tgt := 2) C dX8_levelOf_19 (by decide) ?_
      refine st_iload_n C 1 dX8_levelOf_2 rfl rfl ?_
      refine st_iconst C dX8_levelOf_3 (by decide) ?_
      refine st_icmp_ge (tgt := 22) C dX8_levelOf_4 (by decide) (fun c_4 => by omega) (fun c_4 => ?_)
      refine st_iconst C dX8_levelOf_7 (by decide) ?_
      refine st_iload_n C 1 dX8_levelOf_8 rfl rfl ?_
      refine st_ishl C 2 dX8_levelOf_9 (by omega) (by decide) (by omega) ?_
      show T x 10 [(0, vI s9), (1, vI 2)] [vI 4] _ _ _
      refine st_iload_n C 0 dX8_levelOf_10 rfl rfl ?_
      refine st_icmp_ne (tgt := 16) C dX8_levelOf_11 (by decide) (fun c_11 => ?_) (fun c_11 => ?_)
      · refine st_iinc C dX8_levelOf_16 rfl (by decide) rfl ⟨(by omega), (by omega)⟩ ?_
        show T x 19 [(0, vI s9), (1, vI 3)] [] _ _ _
        refine st_goto (tgt := 2) C dX8_levelOf_19 (by decide) ?_
        refine st_iload_n C 1 dX8_levelOf_2 rfl rfl ?_
        refine st_iconst C dX8_levelOf_3 (by decide) ?_
        refine st_icmp_ge (tgt := 22) C dX8_levelOf_4 (by decide) (fun c_4 => by omega) (fun c_4 => ?_)
        refine st_iconst C dX8_levelOf_7 (by decide) ?_
        refine st_iload_n C 1 dX8_levelOf_8 rfl rfl ?_
        refine st_ishl C 3 dX8_levelOf_9 (by omega) (by decide) (by omega) ?_
        show T x 10 [(0, vI s9), (1, vI 3)] [vI 8] _ _ _
        refine st_iload_n C 0 dX8_levelOf_10 rfl rfl ?_
        refine st_icmp_ne (tgt := 16) C dX8_levelOf_11 (by decide) (fun c_11 => ?_) (fun c_11 => ?_)
        · refine st_iinc C dX8_levelOf_16 rfl (by decide) rfl ⟨(by omega), (by omega)⟩ ?_
          show T x 19 [(0, vI s9), (1, vI 4)] [] _ _ _
          refine st_goto (tgt := 2) C dX8_levelOf_19 (by decide) ?_
          refine st_iload_n C 1 dX8_levelOf_2 rfl rfl ?_
          refine st_iconst C dX8_levelOf_3 (by decide) ?_
          refine st_icmp_ge (tgt := 22) C dX8_levelOf_4 (by decide) (fun c_4 => ?_) (fun c_4 => by omega)
          refine st_iconst C dX8_levelOf_22 (by decide) ?_
          exact st_ireturn C F dX8_levelOf_23 rfl (rt_i (by omega) rfl) (by omega) (by omega)
        · refine st_iload_n C 1 dX8_levelOf_14 rfl rfl ?_
          exact st_ireturn C F dX8_levelOf_15 rfl (rt_i (by omega) rfl) (by omega) (by omega)
      · refine st_iload_n C 1 dX8_levelOf_14 rfl rfl ?_
        exact st_ireturn C F dX8_levelOf_15 rfl (rt_i (by omega) rfl) (by omega) (by omega)
    · refine st_iload_n C 1 dX8_levelOf_14 rfl rfl ?_
      exact st_ireturn C F dX8_levelOf_15 rfl (rt_i (by omega) rfl) (by omega) (by omega)
  · refine st_iload_n C 1 dX8_levelOf_14 rfl rfl ?_
    exact st_ireturn C F dX8_levelOf_15 rfl (rt_i (by omega) rfl) (by omega) (by omega)
def lvOf (s : Int) : Int := if s = 1 then 0 else if s = 2 then 1 else if s = 4 then 2 else if s = 8 then 3 else -1
theorem k_levelOf {g : Gx} {h : HP} {s9 : Int} : Ct g yX8_levelOf (.code yX8_levelOf cX8_levelOf 2 (some .int)) 1 0 0 [vI s9] h (Rt (some (vI (lvOf s9))) h) := by
  by_cases c1 : s9 = 1
  · subst c1; exact k_levelOf0
  by_cases c2 : s9 = 2
  · subst c2; exact k_levelOf1
  by_cases c4 : s9 = 4
  · subst c4; exact k_levelOf2
  by_cases c8 : s9 = 8
  · subst c8; exact k_levelOf3
  have e : lvOf s9 = -1 := by unfold lvOf; rw [if_neg c1, if_neg c2, if_neg c4, if_neg c8]
  rw [e]
  exact k_levelOfo ⟨c1, c2, c4, c8⟩
def TileOk (s l x y : Int) : Prop := 0 ≤ l ∧ l ≤ 2 ∧ 0 ≤ x ∧ 0 ≤ y ∧ ((s = 1 ∧ x ≤ 7 ∧ y ≤ 7) ∨ (s = 2 ∧ x ≤ 3 ∧ y ≤ 3) ∨ (s = 4 ∧ x ≤ 1 ∧ y ≤ 1) ∨ (s = 8 ∧ x ≤ 0 ∧ y ≤ 0))
set_option maxRecDepth 20000 in
set_option maxHeartbeats 4000000 in
theorem k_isTile0_t {g : Gx} {h : HP} {l x9 y9 : Int} (hP : TileOk 1 l x9 y9) : Ct g yX8_isTile (.code yX8_isTile cX8_isTile 6 (some .boolean)) 3 0 0 [vI 1, vI l, vI x9, vI y9] h (Rt (some (vI 1)) h) := by
  refine Ct.of (by decide) (Nat.le_of_ble_eq_true rfl) (fun x hg C F => ?_)
  subst hg
  show T x 0 [(0, vI 1), (1, vI l), (2, vI x9), (3, vI y9)] [] h 0 0
  refine st_iload_n C 0 dX8_isTile_0 rfl rfl ?_
  refine st_callS (st := []) C dX8_isTile_1 [vI 1] k_levelOf0 w_X8_25 rfl (by decide) (by decide) (by omega) (by omega) (Nat.le_of_ble_eq_true rfl) (ko_rt ?_)
  show T x 4 [(0, vI 1), (1, vI l), (2, vI x9), (3, vI y9)] [vI 0] _ _ _
  refine st_istore C dX8_isTile_4 (by decide) rfl ?_
  show T x 6 [(0, vI 1), (1, vI l), (2, vI x9), (3, vI y9), (4, vI 0)] [] _ _ _
  refine st_iload C dX8_isTile_6 rfl ?_
  refine st_iconst C dX8_isTile_8 (by decide) ?_
  refine st_icmp_eq (tgt := 19) C dX8_isTile_9 (by decide) (fun c_9 => by omega) (fun c_9 => ?_)
  refine st_iload_n C 1 dX8_isTile_12 rfl rfl ?_
  by_cases b_13 : 0 ≤ l ∧ l ≤ 2
  · refine st_callSN (st := []) C dX8_isTile_13 [vI l] (k_isLayer_t (v9 := l)  b_13) (fun _ _ q => by cases q.1) w_X8_29 rfl (by decide) (by decide) (by omega) (by omega) (Nat.le_of_ble_eq_true rfl) (ko_rt ?_)
    show T x 16 [(0, vI 1), (1, vI l), (2, vI x9), (3, vI y9), (4, vI 0)] [vI 1] _ _ _
    refine st_if_ne (tgt := 21) C dX8_isTile_16 (by decide) (fun c_16 => ?_) (fun c_16 => by omega)
    refine st_bipush C dX8_isTile_21 (by decide) (by decide) ?_
    refine st_iload C dX8_isTile_23 rfl ?_
    refine st_ishr C 0 dX8_isTile_25 (by omega) (by decide) ?_
    show T x 26 [(0, vI 1), (1, vI l), (2, vI x9), (3, vI y9), (4, vI 0)] [vI 8] _ _ _
    refine st_iconst C dX8_isTile_26 (by decide) ?_
    refine st_isub C dX8_isTile_27 ⟨(by omega), (by omega)⟩ ?_
    refine st_istore C dX8_isTile_28 (by decide) rfl ?_
    show T x 30 [(0, vI 1), (1, vI l), (2, vI x9), (3, vI y9), (4, vI 0), (5, vI 7)] [] _ _ _
    refine st_iload_n C 2 dX8_isTile_30 rfl rfl ?_
    refine st_iload C dX8_isTile_31 rfl ?_
    by_cases b_33 : 0 ≤ x9 ∧ x9 ≤ 7
    · refine st_callSN (st := []) C dX8_isTile_33 [vI x9, vI 7] (k_isWithin_t (v9 := x9) (m9 := 7)  b_33) (fun _ _ q => by cases q.1) w_X8_33 rfl (by decide) (by decide) (by omega) (by omega) (Nat.le_of_ble_eq_true rfl) (ko_rt ?_)
      show T x 36 [(0, vI 1), (1, vI l), (2, vI x9), (3, vI y9), (4, vI 0), (5, vI 7)] [vI 1] _ _ _
      refine st_if_eq (tgt := 52) C dX8_isTile_36 (by decide) (fun c_36 => by omega) (fun c_36 => ?_)
      refine st_iload_n C 3 dX8_isTile_39 rfl rfl ?_
      refine st_iload C dX8_isTile_40 rfl ?_
      by_cases b_42 : 0 ≤ y9 ∧ y9 ≤ 7
      · refine st_callSN (st := []) C dX8_isTile_42 [vI y9, vI 7] (k_isWithin_t (v9 := y9) (m9 := 7)  b_42) (fun _ _ q => by cases q.1) w_X8_33 rfl (by decide) (by decide) (by omega) (by omega) (Nat.le_of_ble_eq_true rfl) (ko_rt ?_)
        show T x 45 [(0, vI 1), (1, vI l), (2, vI x9), (3, vI y9), (4, vI 0), (5, vI 7)] [vI 1] _ _ _
        refine st_if_eq (tgt := 52) C dX8_isTile_45 (by decide) (fun c_45 => by omega) (fun c_45 => ?_)
        refine st_iconst C dX8_isTile_48 (by decide) ?_
        refine st_goto (tgt := 53) C dX8_isTile_49 (by decide) ?_
        exact st_zreturn C F dX8_isTile_53 rfl (by omega) (rt_i (by unfold TileOk at hP; omega) rfl) (by omega) (by omega)
      · refine st_callSN (st := []) C dX8_isTile_42 [vI y9, vI 7] (k_isWithin_f (v9 := y9) (m9 := 7)  b_42) (fun _ _ q => by cases q.1) w_X8_33 rfl (by decide) (by decide) (by omega) (by omega) (Nat.le_of_ble_eq_true rfl) (ko_rt ?_)
        show T x 45 [(0, vI 1), (1, vI l), (2, vI x9), (3, vI y9), (4, vI 0), (5, vI 7)] [vI 0] _ _ _
        refine st_if_eq (tgt := 52) C dX8_isTile_45 (by decide) (fun c_45 => ?_) (fun c_45 => by omega)
        refine st_iconst C dX8_isTile_52 (by decide) ?_
        exact st_zreturn C F dX8_isTile_53 rfl (by omega) (rt_i (by unfold TileOk at hP; omega) rfl) (by omega) (by omega)
    · refine st_callSN (st := []) C dX8_isTile_33 [vI x9, vI 7] (k_isWithin_f (v9 := x9) (m9 := 7)  b_33) (fun _ _ q => by cases q.1) w_X8_33 rfl (by decide) (by decide) (by omega) (by omega) (Nat.le_of_ble_eq_true rfl) (ko_rt ?_)
      show T x 36 [(0, vI 1), (1, vI l), (2, vI x9), (3, vI y9), (4, vI 0), (5, vI 7)] [vI 0] _ _ _
      refine st_if_eq (tgt := 52) C dX8_isTile_36 (by decide) (fun c_36 => ?_) (fun c_36 => by omega)
      refine st_iconst C dX8_isTile_52 (by decide) ?_
      exact st_zreturn C F dX8_isTile_53 rfl (by omega) (rt_i (by unfold TileOk at hP; omega) rfl) (by omega) (by omega)
  · refine st_callSN (st := []) C dX8_isTile_13 [vI l] (k_isLayer_f (v9 := l)  b_13) (fun _ _ q => by cases q.1) w_X8_29 rfl (by decide) (by decide) (by omega) (by omega) (Nat.le_of_ble_eq_true rfl) (ko_rt ?_)
    show T x 16 [(0, vI 1), (1, vI l), (2, vI x9), (3, vI y9), (4, vI 0)] [vI 0] _ _ _
    refine st_if_ne (tgt := 21) C dX8_isTile_16 (by decide) (fun c_16 => by omega) (fun c_16 => ?_)
    refine st_iconst C dX8_isTile_19 (by decide) ?_
    exact st_zreturn C F dX8_isTile_20 rfl (by omega) (rt_i (by unfold TileOk at hP; omega) rfl) (by omega) (by omega)
set_option maxRecDepth 20000 in
set_option maxHeartbeats 4000000 in
theorem k_isTile1_t {g : Gx} {h : HP} {l x9 y9 : Int} (hP : TileOk 2 l x9 y9) : Ct g yX8_isTile (.code yX8_isTile cX8_isTile 6 (some .boolean)) 3 0 0 [vI 2, vI l, vI x9, vI y9] h (Rt (some (vI 1)) h) := by
  refine Ct.of (by decide) (Nat.le_of_ble_eq_true rfl) (fun x hg C F => ?_)
  subst hg
  show T x 0 [(0, vI 2), (1, vI l), (2, vI x9), (3, vI y9)] [] h 0 0
  refine st_iload_n C 0 dX8_isTile_0 rfl rfl ?_
  refine st_callS (st := []) C dX8_isTile_1 [vI 2] k_levelOf1 w_X8_25 rfl (by decide) (by decide) (by omega) (by omega) (Nat.le_of_ble_eq_true rfl) (ko_rt ?_)
  show T x 4 [(0, vI 2), (1, vI l), (2, vI x9), (3, vI y9)] [vI 1] _ _ _
  refine st_istore C dX8_isTile_4 (by decide) rfl ?_
  show T x 6 [(0, vI 2), (1, vI l), (2, vI x9), (3, vI y9), (4, vI 1)] [] _ _ _
  refine st_iload C dX8_isTile_6 rfl ?_
  refine st_iconst C dX8_isTile_8 (by decide) ?_
  refine st_icmp_eq (tgt := 19) C dX8_isTile_9 (by decide) (fun c_9 => by omega) (fun c_9 => ?_)
  refine st_iload_n C 1 dX8_isTile_12 rfl rfl ?_
  by_cases b_13 : 0 ≤ l ∧ l ≤ 2
  · refine st_callSN (st := []) C dX8_isTile_13 [vI l] (k_isLayer_t (v9 := l)  b_13) (fun _ _ q => by cases q.1) w_X8_29 rfl (by decide) (by decide) (by omega) (by omega) (Nat.le_of_ble_eq_true rfl) (ko_rt ?_)
    show T x 16 [(0, vI 2), (1, vI l), (2, vI x9), (3, vI y9), (4, vI 1)] [vI 1] _ _ _
    refine st_if_ne (tgt := 21) C dX8_isTile_16 (by decide) (fun c_16 => ?_) (fun c_16 => by omega)
    refine st_bipush C dX8_isTile_21 (by decide) (by decide) ?_
    refine st_iload C dX8_isTile_23 rfl ?_
    refine st_ishr C 1 dX8_isTile_25 (by omega) (by decide) ?_
    show T x 26 [(0, vI 2), (1, vI l), (2, vI x9), (3, vI y9), (4, vI 1)] [vI 4] _ _ _
    refine st_iconst C dX8_isTile_26 (by decide) ?_
    refine st_isub C dX8_isTile_27 ⟨(by omega), (by omega)⟩ ?_
    refine st_istore C dX8_isTile_28 (by decide) rfl ?_
    show T x 30 [(0, vI 2), (1, vI l), (2, vI x9), (3, vI y9), (4, vI 1), (5, vI 3)] [] _ _ _
    refine st_iload_n C 2 dX8_isTile_30 rfl rfl ?_
    refine st_iload C dX8_isTile_31 rfl ?_
    by_cases b_33 : 0 ≤ x9 ∧ x9 ≤ 3
    · refine st_callSN (st := []) C dX8_isTile_33 [vI x9, vI 3] (k_isWithin_t (v9 := x9) (m9 := 3)  b_33) (fun _ _ q => by cases q.1) w_X8_33 rfl (by decide) (by decide) (by omega) (by omega) (Nat.le_of_ble_eq_true rfl) (ko_rt ?_)
      show T x 36 [(0, vI 2), (1, vI l), (2, vI x9), (3, vI y9), (4, vI 1), (5, vI 3)] [vI 1] _ _ _
      refine st_if_eq (tgt := 52) C dX8_isTile_36 (by decide) (fun c_36 => by omega) (fun c_36 => ?_)
      refine st_iload_n C 3 dX8_isTile_39 rfl rfl ?_
      refine st_iload C dX8_isTile_40 rfl ?_
      by_cases b_42 : 0 ≤ y9 ∧ y9 ≤ 3
      · refine st_callSN (st := []) C dX8_isTile_42 [vI y9, vI 3] (k_isWithin_t (v9 := y9) (m9 := 3)  b_42) (fun _ _ q => by cases q.1) w_X8_33 rfl (by decide) (by decide) (by omega) (by omega) (Nat.le_of_ble_eq_true rfl) (ko_rt ?_)
        show T x 45 [(0, vI 2), (1, vI l), (2, vI x9), (3, vI y9), (4, vI 1), (5, vI 3)] [vI 1] _ _ _
        refine st_if_eq (tgt := 52) C dX8_isTile_45 (by decide) (fun c_45 => by omega) (fun c_45 => ?_)
        refine st_iconst C dX8_isTile_48 (by decide) ?_
        refine st_goto (tgt := 53) C dX8_isTile_49 (by decide) ?_
        exact st_zreturn C F dX8_isTile_53 rfl (by omega) (rt_i (by unfold TileOk at hP; omega) rfl) (by omega) (by omega)
      · refine st_callSN (st := []) C dX8_isTile_42 [vI y9, vI 3] (k_isWithin_f (v9 := y9) (m9 := 3)  b_42) (fun _ _ q => by cases q.1) w_X8_33 rfl (by decide) (by decide) (by omega) (by omega) (Nat.le_of_ble_eq_true rfl) (ko_rt ?_)
        show T x 45 [(0, vI 2), (1, vI l), (2, vI x9), (3, vI y9), (4, vI 1), (5, vI 3)] [vI 0] _ _ _
        refine st_if_eq (tgt := 52) C dX8_isTile_45 (by decide) (fun c_45 => ?_) (fun c_45 => by omega)
        refine st_iconst C dX8_isTile_52 (by decide) ?_
        exact st_zreturn C F dX8_isTile_53 rfl (by omega) (rt_i (by unfold TileOk at hP; omega) rfl) (by omega) (by omega)
    · refine st_callSN (st := []) C dX8_isTile_33 [vI x9, vI 3] (k_isWithin_f (v9 := x9) (m9 := 3)  b_33) (fun _ _ q => by cases q.1) w_X8_33 rfl (by decide) (by decide) (by omega) (by omega) (Nat.le_of_ble_eq_true rfl) (ko_rt ?_)
      show T x 36 [(0, vI 2), (1, vI l), (2, vI x9), (3, vI y9), (4, vI 1), (5, vI 3)] [vI 0] _ _ _
      refine st_if_eq (tgt := 52) C dX8_isTile_36 (by decide) (fun c_36 => ?_) (fun c_36 => by omega)
      refine st_iconst C dX8_isTile_52 (by decide) ?_
      exact st_zreturn C F dX8_isTile_53 rfl (by omega) (rt_i (by unfold TileOk at hP; omega) rfl) (by omega) (by omega)
  · refine st_callSN (st := []) C dX8_isTile_13 [vI l] (k_isLayer_f (v9 := l)  b_13) (fun _ _ q => by cases q.1) w_X8_29 rfl (by decide) (by decide) (by omega) (by omega) (Nat.le_of_ble_eq_true rfl) (ko_rt ?_)
    show T x 16 [(0, vI 2), (1, vI l), (2, vI x9), (3, vI y9), (4, vI 1)] [vI 0] _ _ _
    refine st_if_ne (tgt := 21) C dX8_isTile_16 (by decide) (fun c_16 => by omega) (fun c_16 => ?_)
    refine st_iconst C dX8_isTile_19 (by decide) ?_
    exact st_zreturn C F dX8_isTile_20 rfl (by omega) (rt_i (by unfold TileOk at hP; omega) rfl) (by omega) (by omega)
set_option maxRecDepth 20000 in
set_option maxHeartbeats 4000000 in
theorem k_isTile2_t {g : Gx} {h : HP} {l x9 y9 : Int} (hP : TileOk 4 l x9 y9) : Ct g yX8_isTile (.code yX8_isTile cX8_isTile 6 (some .boolean)) 3 0 0 [vI 4, vI l, vI x9, vI y9] h (Rt (some (vI 1)) h) := by
  refine Ct.of (by decide) (Nat.le_of_ble_eq_true rfl) (fun x hg C F => ?_)
  subst hg
  show T x 0 [(0, vI 4), (1, vI l), (2, vI x9), (3, vI y9)] [] h 0 0
  refine st_iload_n C 0 dX8_isTile_0 rfl rfl ?_
  refine st_callS (st := []) C dX8_isTile_1 [vI 4] k_levelOf2 w_X8_25 rfl (by decide) (by decide) (by omega) (by omega) (Nat.le_of_ble_eq_true rfl) (ko_rt ?_)
  show T x 4 [(0, vI 4), (1, vI l), (2, vI x9), (3, vI y9)] [vI 2] _ _ _
  refine st_istore C dX8_isTile_4 (by decide) rfl ?_
  show T x 6 [(0, vI 4), (1, vI l), (2, vI x9), (3, vI y9), (4, vI 2)] [] _ _ _
  refine st_iload C dX8_isTile_6 rfl ?_
  refine st_iconst C dX8_isTile_8 (by decide) ?_
  refine st_icmp_eq (tgt := 19) C dX8_isTile_9 (by decide) (fun c_9 => by omega) (fun c_9 => ?_)
  refine st_iload_n C 1 dX8_isTile_12 rfl rfl ?_
  by_cases b_13 : 0 ≤ l ∧ l ≤ 2
  · refine st_callSN (st := []) C dX8_isTile_13 [vI l] (k_isLayer_t (v9 := l)  b_13) (fun _ _ q => by cases q.1) w_X8_29 rfl (by decide) (by decide) (by omega) (by omega) (Nat.le_of_ble_eq_true rfl) (ko_rt ?_)
    show T x 16 [(0, vI 4), (1, vI l), (2, vI x9), (3, vI y9), (4, vI 2)] [vI 1] _ _ _
    refine st_if_ne (tgt := 21) C dX8_isTile_16 (by decide) (fun c_16 => ?_) (fun c_16 => by omega)
    refine st_bipush C dX8_isTile_21 (by decide) (by decide) ?_
    refine st_iload C dX8_isTile_23 rfl ?_
    refine st_ishr C 2 dX8_isTile_25 (by omega) (by decide) ?_
    show T x 26 [(0, vI 4), (1, vI l), (2, vI x9), (3, vI y9), (4, vI 2)] [vI 2] _ _ _
    refine st_iconst C dX8_isTile_26 (by decide) ?_
    refine st_isub C dX8_isTile_27 ⟨(by omega), (by omega)⟩ ?_
    refine st_istore C dX8_isTile_28 (by decide) rfl ?_
    show T x 30 [(0, vI 4), (1, vI l), (2, vI x9), (3, vI y9), (4, vI 2), (5, vI 1)] [] _ _ _
    refine st_iload_n C 2 dX8_isTile_30 rfl rfl ?_
    refine st_iload C dX8_isTile_31 rfl ?_
    by_cases b_33 : 0 ≤ x9 ∧ x9 ≤ 1
    · refine st_callSN (st := []) C dX8_isTile_33 [vI x9, vI 1] (k_isWithin_t (v9 := x9) (m9 := 1)  b_33) (fun _ _ q => by cases q.1) w_X8_33 rfl (by decide) (by decide) (by omega) (by omega) (Nat.le_of_ble_eq_true rfl) (ko_rt ?_)
      show T x 36 [(0, vI 4), (1, vI l), (2, vI x9), (3, vI y9), (4, vI 2), (5, vI 1)] [vI 1] _ _ _
      refine st_if_eq (tgt := 52) C dX8_isTile_36 (by decide) (fun c_36 => by omega) (fun c_36 => ?_)
      refine st_iload_n C 3 dX8_isTile_39 rfl rfl ?_
      refine st_iload C dX8_isTile_40 rfl ?_
      by_cases b_42 : 0 ≤ y9 ∧ y9 ≤ 1
      · refine st_callSN (st := []) C dX8_isTile_42 [vI y9, vI 1] (k_isWithin_t (v9 := y9) (m9 := 1)  b_42) (fun _ _ q => by cases q.1) w_X8_33 rfl (by decide) (by decide) (by omega) (by omega) (Nat.le_of_ble_eq_true rfl) (ko_rt ?_)
        show T x 45 [(0, vI 4), (1, vI l), (2, vI x9), (3, vI y9), (4, vI 2), (5, vI 1)] [vI 1] _ _ _
        refine st_if_eq (tgt := 52) C dX8_isTile_45 (by decide) (fun c_45 => by omega) (fun c_45 => ?_)
        refine st_iconst C dX8_isTile_48 (by decide) ?_
        refine st_goto (tgt := 53) C dX8_isTile_49 (by decide) ?_
        exact st_zreturn C F dX8_isTile_53 rfl (by omega) (rt_i (by unfold TileOk at hP; omega) rfl) (by omega) (by omega)
      · refine st_callSN (st := []) C dX8_isTile_42 [vI y9, vI 1] (k_isWithin_f (v9 := y9) (m9 := 1)  b_42) (fun _ _ q => by cases q.1) w_X8_33 rfl (by decide) (by decide) (by omega) (by omega) (Nat.le_of_ble_eq_true rfl) (ko_rt ?_)
        show T x 45 [(0, vI 4), (1, vI l), (2, vI x9), (3, vI y9), (4, vI 2), (5, vI 1)] [vI 0] _ _ _
        refine st_if_eq (tgt := 52) C dX8_isTile_45 (by decide) (fun c_45 => ?_) (fun c_45 => by omega)
        refine st_iconst C dX8_isTile_52 (by decide) ?_
        exact st_zreturn C F dX8_isTile_53 rfl (by omega) (rt_i (by unfold TileOk at hP; omega) rfl) (by omega) (by omega)
    · refine st_callSN (st := []) C dX8_isTile_33 [vI x9, vI 1] (k_isWithin_f (v9 := x9) (m9 := 1)  b_33) (fun _ _ q => by cases q.1) w_X8_33 rfl (by decide) (by decide) (by omega) (by omega) (Nat.le_of_ble_eq_true rfl) (ko_rt ?_)
      show T x 36 [(0, vI 4), (1, vI l), (2, vI x9), (3, vI y9), (4, vI 2), (5, vI 1)] [vI 0] _ _ _
      refine st_if_eq (tgt := 52) C dX8_isTile_36 (by decide) (fun c_36 => ?_) (fun c_36 => by omega)
      refine st_iconst C dX8_isTile_52 (by decide) ?_
      exact st_zreturn C F dX8_isTile_53 rfl (by omega) (rt_i (by unfold TileOk at hP; omega) rfl) (by omega) (by omega)
  · refine st_callSN (st := []) C dX8_isTile_13 [vI l] (k_isLayer_f (v9 := l)  b_13) (fun _ _ q => by cases q.1) w_X8_29 rfl (by decide) (by decide) (by omega) (by omega) (Nat.le_of_ble_eq_true rfl) (ko_rt ?_)
    show T x 16 [(0, vI 4), (1, vI l), (2, vI x9), (3, vI y9), (4, vI 2)] [vI 0] _ _ _
    refine st_if_ne (tgt := 21) C dX8_isTile_16 (by decide) (fun c_16 => by omega) (fun c_16 => ?_)
    refine st_iconst C dX8_isTile_19 (by decide) ?_
    exact st_zreturn C F dX8_isTile_20 rfl (by omega) (rt_i (by unfold TileOk at hP; omega) rfl) (by omega) (by omega)
set_option maxRecDepth 20000 in
set_option maxHeartbeats 4000000 in
theorem k_isTile3_t {g : Gx} {h : HP} {l x9 y9 : Int} (hP : TileOk 8 l x9 y9) : Ct g yX8_isTile (.code yX8_isTile cX8_isTile 6 (some .boolean)) 3 0 0 [vI 8, vI l, vI x9, vI y9] h (Rt (some (vI 1)) h) := by
  refine Ct.of (by decide) (Nat.le_of_ble_eq_true rfl) (fun x hg C F => ?_)
  subst hg
  show T x 0 [(0, vI 8), (1, vI l), (2, vI x9), (3, vI y9)] [] h 0 0
  refine st_iload_n C 0 dX8_isTile_0 rfl rfl ?_
  refine st_callS (st := []) C dX8_isTile_1 [vI 8] k_levelOf3 w_X8_25 rfl (by decide) (by decide) (by omega) (by omega) (Nat.le_of_ble_eq_true rfl) (ko_rt ?_)
  show T x 4 [(0, vI 8), (1, vI l), (2, vI x9), (3, vI y9)] [vI 3] _ _ _
  refine st_istore C dX8_isTile_4 (by decide) rfl ?_
  show T x 6 [(0, vI 8), (1, vI l), (2, vI x9), (3, vI y9), (4, vI 3)] [] _ _ _
  refine st_iload C dX8_isTile_6 rfl ?_
  refine st_iconst C dX8_isTile_8 (by decide) ?_
  refine st_icmp_eq (tgt := 19) C dX8_isTile_9 (by decide) (fun c_9 => by omega) (fun c_9 => ?_)
  refine st_iload_n C 1 dX8_isTile_12 rfl rfl ?_
  by_cases b_13 : 0 ≤ l ∧ l ≤ 2
  · refine st_callSN (st := []) C dX8_isTile_13 [vI l] (k_isLayer_t (v9 := l)  b_13) (fun _ _ q => by cases q.1) w_X8_29 rfl (by decide) (by decide) (by omega) (by omega) (Nat.le_of_ble_eq_true rfl) (ko_rt ?_)
    show T x 16 [(0, vI 8), (1, vI l), (2, vI x9), (3, vI y9), (4, vI 3)] [vI 1] _ _ _
    refine st_if_ne (tgt := 21) C dX8_isTile_16 (by decide) (fun c_16 => ?_) (fun c_16 => by omega)
    refine st_bipush C dX8_isTile_21 (by decide) (by decide) ?_
    refine st_iload C dX8_isTile_23 rfl ?_
    refine st_ishr C 3 dX8_isTile_25 (by omega) (by decide) ?_
    show T x 26 [(0, vI 8), (1, vI l), (2, vI x9), (3, vI y9), (4, vI 3)] [vI 1] _ _ _
    refine st_iconst C dX8_isTile_26 (by decide) ?_
    refine st_isub C dX8_isTile_27 ⟨(by omega), (by omega)⟩ ?_
    refine st_istore C dX8_isTile_28 (by decide) rfl ?_
    show T x 30 [(0, vI 8), (1, vI l), (2, vI x9), (3, vI y9), (4, vI 3), (5, vI 0)] [] _ _ _
    refine st_iload_n C 2 dX8_isTile_30 rfl rfl ?_
    refine st_iload C dX8_isTile_31 rfl ?_
    by_cases b_33 : 0 ≤ x9 ∧ x9 ≤ 0
    · refine st_callSN (st := []) C dX8_isTile_33 [vI x9, vI 0] (k_isWithin_t (v9 := x9) (m9 := 0)  b_33) (fun _ _ q => by cases q.1) w_X8_33 rfl (by decide) (by decide) (by omega) (by omega) (Nat.le_of_ble_eq_true rfl) (ko_rt ?_)
      show T x 36 [(0, vI 8), (1, vI l), (2, vI x9), (3, vI y9), (4, vI 3), (5, vI 0)] [vI 1] _ _ _
      refine st_if_eq (tgt := 52) C dX8_isTile_36 (by decide) (fun c_36 => by omega) (fun c_36 => ?_)
      refine st_iload_n C 3 dX8_isTile_39 rfl rfl ?_
      refine st_iload C dX8_isTile_40 rfl ?_
      by_cases b_42 : 0 ≤ y9 ∧ y9 ≤ 0
      · refine st_callSN (st := []) C dX8_isTile_42 [vI y9, vI 0] (k_isWithin_t (v9 := y9) (m9 := 0)  b_42) (fun _ _ q => by cases q.1) w_X8_33 rfl (by decide) (by decide) (by omega) (by omega) (Nat.le_of_ble_eq_true rfl) (ko_rt ?_)
        show T x 45 [(0, vI 8), (1, vI l), (2, vI x9), (3, vI y9), (4, vI 3), (5, vI 0)] [vI 1] _ _ _
        refine st_if_eq (tgt := 52) C dX8_isTile_45 (by decide) (fun c_45 => by omega) (fun c_45 => ?_)
        refine st_iconst C dX8_isTile_48 (by decide) ?_
        refine st_goto (tgt := 53) C dX8_isTile_49 (by decide) ?_
        exact st_zreturn C F dX8_isTile_53 rfl (by omega) (rt_i (by unfold TileOk at hP; omega) rfl) (by omega) (by omega)
      · refine st_callSN (st := []) C dX8_isTile_42 [vI y9, vI 0] (k_isWithin_f (v9 := y9) (m9 := 0)  b_42) (fun _ _ q => by cases q.1) w_X8_33 rfl (by decide) (by decide) (by omega) (by omega) (Nat.le_of_ble_eq_true rfl) (ko_rt ?_)
        show T x 45 [(0, vI 8), (1, vI l), (2, vI x9), (3, vI y9), (4, vI 3), (5, vI 0)] [vI 0] _ _ _
        refine st_if_eq (tgt := 52) C dX8_isTile_45 (by decide) (fun c_45 => ?_) (fun c_45 => by omega)
        refine st_iconst C dX8_isTile_52 (by decide) ?_
        exact st_zreturn C F dX8_isTile_53 rfl (by omega) (rt_i (by unfold TileOk at hP; omega) rfl) (by omega) (by omega)
    · refine st_callSN (st := []) C dX8_isTile_33 [vI x9, vI 0] (k_isWithin_f (v9 := x9) (m9 := 0)  b_33) (fun _ _ q => by cases q.1) w_X8_33 rfl (by decide) (by decide) (by omega) (by omega) (Nat.le_of_ble_eq_true rfl) (ko_rt ?_)
      show T x 36 [(0, vI 8), (1, vI l), (2, vI x9), (3, vI y9), (4, vI 3), (5, vI 0)] [vI 0] _ _ _
      refine st_if_eq (tgt := 52) C dX8_isTile_36 (by decide) (fun c_36 => ?_) (fun c_36 => by omega)
      refine st_iconst C dX8_isTile_52 (by decide) ?_
      exact st_zreturn C F dX8_isTile_53 rfl (by omega) (rt_i (by unfold TileOk at hP; omega) rfl) (by omega) (by omega)
  · refine st_callSN (st := []) C dX8_isTile_13 [vI l] (k_isLayer_f (v9 := l)  b_13) (fun _ _ q => by cases q.1) w_X8_29 rfl (by decide) (by decide) (by omega) (by omega) (Nat.le_of_ble_eq_true rfl) (ko_rt ?_)
    show T x 16 [(0, vI 8), (1, vI l), (2, vI x9), (3, vI y9), (4, vI 3)] [vI 0] _ _ _
    refine st_if_ne (tgt := 21) C dX8_isTile_16 (by decide) (fun c_16 => by omega) (fun c_16 => ?_)
    refine st_iconst C dX8_isTile_19 (by decide) ?_
    exact st_zreturn C F dX8_isTile_20 rfl (by omega) (rt_i (by unfold TileOk at hP; omega) rfl) (by omega) (by omega)
theorem k_isTile_t {g : Gx} {h : HP} {s9 l x9 y9 : Int} (hP : TileOk s9 l x9 y9) : Ct g yX8_isTile (.code yX8_isTile cX8_isTile 6 (some .boolean)) 3 0 0 [vI s9, vI l, vI x9, vI y9] h (Rt (some (vI 1)) h) := by
  by_cases c0 : s9 = 1
  · subst c0; exact k_isTile0_t hP
  by_cases c1 : s9 = 2
  · subst c1; exact k_isTile1_t hP
  by_cases c2 : s9 = 4
  · subst c2; exact k_isTile2_t hP
  by_cases c3 : s9 = 8
  · subst c3; exact k_isTile3_t hP
  exact absurd hP (by unfold TileOk; omega)
set_option maxRecDepth 20000 in
set_option maxHeartbeats 4000000 in
theorem k_isTile0_f {g : Gx} {h : HP} {l x9 y9 : Int} (hP : ¬ TileOk 1 l x9 y9) : Ct g yX8_isTile (.code yX8_isTile cX8_isTile 6 (some .boolean)) 3 0 0 [vI 1, vI l, vI x9, vI y9] h (Rt (some (vI 0)) h) := by
  refine Ct.of (by decide) (Nat.le_of_ble_eq_true rfl) (fun x hg C F => ?_)
  subst hg
  show T x 0 [(0, vI 1), (1, vI l), (2, vI x9), (3, vI y9)] [] h 0 0
  refine st_iload_n C 0 dX8_isTile_0 rfl rfl ?_
  refine st_callS (st := []) C dX8_isTile_1 [vI 1] k_levelOf0 w_X8_25 rfl (by decide) (by decide) (by omega) (by omega) (Nat.le_of_ble_eq_true rfl) (ko_rt ?_)
  show T x 4 [(0, vI 1), (1, vI l), (2, vI x9), (3, vI y9)] [vI 0] _ _ _
  refine st_istore C dX8_isTile_4 (by decide) rfl ?_
  show T x 6 [(0, vI 1), (1, vI l), (2, vI x9), (3, vI y9), (4, vI 0)] [] _ _ _
  refine st_iload C dX8_isTile_6 rfl ?_
  refine st_iconst C dX8_isTile_8 (by decide) ?_
  refine st_icmp_eq (tgt := 19) C dX8_isTile_9 (by decide) (fun c_9 => by omega) (fun c_9 => ?_)
  refine st_iload_n C 1 dX8_isTile_12 rfl rfl ?_
  by_cases b_13 : 0 ≤ l ∧ l ≤ 2
  · refine st_callSN (st := []) C dX8_isTile_13 [vI l] (k_isLayer_t (v9 := l)  b_13) (fun _ _ q => by cases q.1) w_X8_29 rfl (by decide) (by decide) (by omega) (by omega) (Nat.le_of_ble_eq_true rfl) (ko_rt ?_)
    show T x 16 [(0, vI 1), (1, vI l), (2, vI x9), (3, vI y9), (4, vI 0)] [vI 1] _ _ _
    refine st_if_ne (tgt := 21) C dX8_isTile_16 (by decide) (fun c_16 => ?_) (fun c_16 => by omega)
    refine st_bipush C dX8_isTile_21 (by decide) (by decide) ?_
    refine st_iload C dX8_isTile_23 rfl ?_
    refine st_ishr C 0 dX8_isTile_25 (by omega) (by decide) ?_
    show T x 26 [(0, vI 1), (1, vI l), (2, vI x9), (3, vI y9), (4, vI 0)] [vI 8] _ _ _
    refine st_iconst C dX8_isTile_26 (by decide) ?_
    refine st_isub C dX8_isTile_27 ⟨(by omega), (by omega)⟩ ?_
    refine st_istore C dX8_isTile_28 (by decide) rfl ?_
    show T x 30 [(0, vI 1), (1, vI l), (2, vI x9), (3, vI y9), (4, vI 0), (5, vI 7)] [] _ _ _
    refine st_iload_n C 2 dX8_isTile_30 rfl rfl ?_
    refine st_iload C dX8_isTile_31 rfl ?_
    by_cases b_33 : 0 ≤ x9 ∧ x9 ≤ 7
    · refine st_callSN (st := []) C dX8_isTile_33 [vI x9, vI 7] (k_isWithin_t (v9 := x9) (m9 := 7)  b_33) (fun _ _ q => by cases q.1) w_X8_33 rfl (by decide) (by decide) (by omega) (by omega) (Nat.le_of_ble_eq_true rfl) (ko_rt ?_)
      show T x 36 [(0, vI 1), (1, vI l), (2, vI x9), (3, vI y9), (4, vI 0), (5, vI 7)] [vI 1] _ _ _
      refine st_if_eq (tgt := 52) C dX8_isTile_36 (by decide) (fun c_36 => by omega) (fun c_36 => ?_)
      refine st_iload_n C 3 dX8_isTile_39 rfl rfl ?_
      refine st_iload C dX8_isTile_40 rfl ?_
      by_cases b_42 : 0 ≤ y9 ∧ y9 ≤ 7
      · refine st_callSN (st := []) C dX8_isTile_42 [vI y9, vI 7] (k_isWithin_t (v9 := y9) (m9 := 7)  b_42) (fun _ _ q => by cases q.1) w_X8_33 rfl (by decide) (by decide) (by omega) (by omega) (Nat.le_of_ble_eq_true rfl) (ko_rt ?_)
        show T x 45 [(0, vI 1), (1, vI l), (2, vI x9), (3, vI y9), (4, vI 0), (5, vI 7)] [vI 1] _ _ _
        refine st_if_eq (tgt := 52) C dX8_isTile_45 (by decide) (fun c_45 => by omega) (fun c_45 => ?_)
        refine st_iconst C dX8_isTile_48 (by decide) ?_
        refine st_goto (tgt := 53) C dX8_isTile_49 (by decide) ?_
        exact st_zreturn C F dX8_isTile_53 rfl (by omega) (rt_i (by unfold TileOk at hP; omega) rfl) (by omega) (by omega)
      · refine st_callSN (st := []) C dX8_isTile_42 [vI y9, vI 7] (k_isWithin_f (v9 := y9) (m9 := 7)  b_42) (fun _ _ q => by cases q.1) w_X8_33 rfl (by decide) (by decide) (by omega) (by omega) (Nat.le_of_ble_eq_true rfl) (ko_rt ?_)
        show T x 45 [(0, vI 1), (1, vI l), (2, vI x9), (3, vI y9), (4, vI 0), (5, vI 7)] [vI 0] _ _ _
        refine st_if_eq (tgt := 52) C dX8_isTile_45 (by decide) (fun c_45 => ?_) (fun c_45 => by omega)
        refine st_iconst C dX8_isTile_52 (by decide) ?_
        exact st_zreturn C F dX8_isTile_53 rfl (by omega) (rt_i (by unfold TileOk at hP; omega) rfl) (by omega) (by omega)
    · refine st_callSN (st := []) C dX8_isTile_33 [vI x9, vI 7] (k_isWithin_f (v9 := x9) (m9 := 7)  b_33) (fun _ _ q => by cases q.1) w_X8_33 rfl (by decide) (by decide) (by omega) (by omega) (Nat.le_of_ble_eq_true rfl) (ko_rt ?_)
      show T x 36 [(0, vI 1), (1, vI l), (2, vI x9), (3, vI y9), (4, vI 0), (5, vI 7)] [vI 0] _ _ _
      refine st_if_eq (tgt := 52) C dX8_isTile_36 (by decide) (fun c_36 => ?_) (fun c_36 => by omega)
      refine st_iconst C dX8_isTile_52 (by decide) ?_
      exact st_zreturn C F dX8_isTile_53 rfl (by omega) (rt_i (by unfold TileOk at hP; omega) rfl) (by omega) (by omega)
  · refine st_callSN (st := []) C dX8_isTile_13 [vI l] (k_isLayer_f (v9 := l)  b_13) (fun _ _ q => by cases q.1) w_X8_29 rfl (by decide) (by decide) (by omega) (by omega) (Nat.le_of_ble_eq_true rfl) (ko_rt ?_)
    show T x 16 [(0, vI 1), (1, vI l), (2, vI x9), (3, vI y9), (4, vI 0)] [vI 0] _ _ _
    refine st_if_ne (tgt := 21) C dX8_isTile_16 (by decide) (fun c_16 => by omega) (fun c_16 => ?_)
    refine st_iconst C dX8_isTile_19 (by decide) ?_
    exact st_zreturn C F dX8_isTile_20 rfl (by omega) (rt_i (by unfold TileOk at hP; omega) rfl) (by omega) (by omega)
set_option maxRecDepth 20000 in
set_option maxHeartbeats 4000000 in
theorem k_isTile1_f {g : Gx} {h : HP} {l x9 y9 : Int} (hP : ¬ TileOk 2 l x9 y9) : Ct g yX8_isTile (.code yX8_isTile cX8_isTile 6 (some .boolean)) 3 0 0 [vI 2, vI l, vI x9, vI y9] h (Rt (some (vI 0)) h) := by
  refine Ct.of (by decide) (Nat.le_of_ble_eq_true rfl) (fun x hg C F => ?_)
  subst hg
  show T x 0 [(0, vI 2), (1, vI l), (2, vI x9), (3, vI y9)] [] h 0 0
  refine st_iload_n C 0 dX8_isTile_0 rfl rfl ?_
  refine st_callS (st := []) C dX8_isTile_1 [vI 2] k_levelOf1 w_X8_25 rfl (by decide) (by decide) (by omega) (by omega) (Nat.le_of_ble_eq_true rfl) (ko_rt ?_)
  show T x 4 [(0, vI 2), (1, vI l), (2, vI x9), (3, vI y9)] [vI 1] _ _ _
  refine st_istore C dX8_isTile_4 (by decide) rfl ?_
  show T x 6 [(0, vI 2), (1, vI l), (2, vI x9), (3, vI y9), (4, vI 1)] [] _ _ _
  refine st_iload C dX8_isTile_6 rfl ?_
  refine st_iconst C dX8_isTile_8 (by decide) ?_
  refine st_icmp_eq (tgt := 19) C dX8_isTile_9 (by decide) (fun c_9 => by omega) (fun c_9 => ?_)
  refine st_iload_n C 1 dX8_isTile_12 rfl rfl ?_
  by_cases b_13 : 0 ≤ l ∧ l ≤ 2
  · refine st_callSN (st := []) C dX8_isTile_13 [vI l] (k_isLayer_t (v9 := l)  b_13) (fun _ _ q => by cases q.1) w_X8_29 rfl (by decide) (by decide) (by omega) (by omega) (Nat.le_of_ble_eq_true rfl) (ko_rt ?_)
    show T x 16 [(0, vI 2), (1, vI l), (2, vI x9), (3, vI y9), (4, vI 1)] [vI 1] _ _ _
    refine st_if_ne (tgt := 21) C dX8_isTile_16 (by decide) (fun c_16 => ?_) (fun c_16 => by omega)
    refine st_bipush C dX8_isTile_21 (by decide) (by decide) ?_
    refine st_iload C dX8_isTile_23 rfl ?_
    refine st_ishr C 1 dX8_isTile_25 (by omega) (by decide) ?_
    show T x 26 [(0, vI 2), (1, vI l), (2, vI x9), (3, vI y9), (4, vI 1)] [vI 4] _ _ _
    refine st_iconst C dX8_isTile_26 (by decide) ?_
    refine st_isub C dX8_isTile_27 ⟨(by omega), (by omega)⟩ ?_
    refine st_istore C dX8_isTile_28 (by decide) rfl ?_
    show T x 30 [(0, vI 2), (1, vI l), (2, vI x9), (3, vI y9), (4, vI 1), (5, vI 3)] [] _ _ _
    refine st_iload_n C 2 dX8_isTile_30 rfl rfl ?_
    refine st_iload C dX8_isTile_31 rfl ?_
    by_cases b_33 : 0 ≤ x9 ∧ x9 ≤ 3
    · refine st_callSN (st := []) C dX8_isTile_33 [vI x9, vI 3] (k_isWithin_t (v9 := x9) (m9 := 3)  b_33) (fun _ _ q => by cases q.1) w_X8_33 rfl (by decide) (by decide) (by omega) (by omega) (Nat.le_of_ble_eq_true rfl) (ko_rt ?_)
      show T x 36 [(0, vI 2), (1, vI l), (2, vI x9), (3, vI y9), (4, vI 1), (5, vI 3)] [vI 1] _ _ _
      refine st_if_eq (tgt := 52) C dX8_isTile_36 (by decide) (fun c_36 => by omega) (fun c_36 => ?_)
      refine st_iload_n C 3 dX8_isTile_39 rfl rfl ?_
      refine st_iload C dX8_isTile_40 rfl ?_
      by_cases b_42 : 0 ≤ y9 ∧ y9 ≤ 3
      · refine st_callSN (st := []) C dX8_isTile_42 [vI y9, vI 3] (k_isWithin_t (v9 := y9) (m9 := 3)  b_42) (fun _ _ q => by cases q.1) w_X8_33 rfl (by decide) (by decide) (by omega) (by omega) (Nat.le_of_ble_eq_true rfl) (ko_rt ?_)
        show T x 45 [(0, vI 2), (1, vI l), (2, vI x9), (3, vI y9), (4, vI 1), (5, vI 3)] [vI 1] _ _ _
        refine st_if_eq (tgt := 52) C dX8_isTile_45 (by decide) (fun c_45 => by omega) (fun c_45 => ?_)
        refine st_iconst C dX8_isTile_48 (by decide) ?_
        refine st_goto (tgt := 53) C dX8_isTile_49 (by decide) ?_
        exact st_zreturn C F dX8_isTile_53 rfl (by omega) (rt_i (by unfold TileOk at hP; omega) rfl) (by omega) (by omega)
      · refine st_callSN (st := []) C dX8_isTile_42 [vI y9, vI 3] (k_isWithin_f (v9 := y9) (m9 := 3)  b_42) (fun _ _ q => by cases q.1) w_X8_33 rfl (by decide) (by decide) (by omega) (by omega) (Nat.le_of_ble_eq_true rfl) (ko_rt ?_)
        show T x 45 [(0, vI 2), (1, vI l), (2, vI x9), (3, vI y9), (4, vI 1), (5, vI 3)] [vI 0] _ _ _
        refine st_if_eq (tgt := 52) C dX8_isTile_45 (by decide) (fun c_45 => ?_) (fun c_45 => by omega)
        refine st_iconst C dX8_isTile_52 (by decide) ?_
        exact st_zreturn C F dX8_isTile_53 rfl (by omega) (rt_i (by unfold TileOk at hP; omega) rfl) (by omega) (by omega)
    · refine st_callSN (st := []) C dX8_isTile_33 [vI x9, vI 3] (k_isWithin_f (v9 := x9) (m9 := 3)  b_33) (fun _ _ q => by cases q.1) w_X8_33 rfl (by decide) (by decide) (by omega) (by omega) (Nat.le_of_ble_eq_true rfl) (ko_rt ?_)
      show T x 36 [(0, vI 2), (1, vI l), (2, vI x9), (3, vI y9), (4, vI 1), (5, vI 3)] [vI 0] _ _ _
      refine st_if_eq (tgt := 52) C dX8_isTile_36 (by decide) (fun c_36 => ?_) (fun c_36 => by omega)
      refine st_iconst C dX8_isTile_52 (by decide) ?_
      exact st_zreturn C F dX8_isTile_53 rfl (by omega) (rt_i (by unfold TileOk at hP; omega) rfl) (by omega) (by omega)
  · refine st_callSN (st := []) C dX8_isTile_13 [vI l] (k_isLayer_f (v9 := l)  b_13) (fun _ _ q => by cases q.1) w_X8_29 rfl (by decide) (by decide) (by omega) (by omega) (Nat.le_of_ble_eq_true rfl) (ko_rt ?_)
    show T x 16 [(0, vI 2), (1, vI l), (2, vI x9), (3, vI y9), (4, vI 1)] [vI 0] _ _ _
    refine st_if_ne (tgt := 21) C dX8_isTile_16 (by decide) (fun c_16 => by omega) (fun c_16 => ?_)
    refine st_iconst C dX8_isTile_19 (by decide) ?_
    exact st_zreturn C F dX8_isTile_20 rfl (by omega) (rt_i (by unfold TileOk at hP; omega) rfl) (by omega) (by omega)
set_option maxRecDepth 20000 in
set_option maxHeartbeats 4000000 in
theorem k_isTile2_f {g : Gx} {h : HP} {l x9 y9 : Int} (hP : ¬ TileOk 4 l x9 y9) : Ct g yX8_isTile (.code yX8_isTile cX8_isTile 6 (some .boolean)) 3 0 0 [vI 4, vI l, vI x9, vI y9] h (Rt (some (vI 0)) h) := by
  refine Ct.of (by decide) (Nat.le_of_ble_eq_true rfl) (fun x hg C F => ?_)
  subst hg
  show T x 0 [(0, vI 4), (1, vI l), (2, vI x9), (3, vI y9)] [] h 0 0
  refine st_iload_n C 0 dX8_isTile_0 rfl rfl ?_
  refine st_callS (st := []) C dX8_isTile_1 [vI 4] k_levelOf2 w_X8_25 rfl (by decide) (by decide) (by omega) (by omega) (Nat.le_of_ble_eq_true rfl) (ko_rt ?_)
  show T x 4 [(0, vI 4), (1, vI l), (2, vI x9), (3, vI y9)] [vI 2] _ _ _
  refine st_istore C dX8_isTile_4 (by decide) rfl ?_
  show T x 6 [(0, vI 4), (1, vI l), (2, vI x9), (3, vI y9), (4, vI 2)] [] _ _ _
  refine st_iload C dX8_isTile_6 rfl ?_
  refine st_iconst C dX8_isTile_8 (by decide) ?_
  refine st_icmp_eq (tgt := 19) C dX8_isTile_9 (by decide) (fun c_9 => by omega) (fun c_9 => ?_)
  refine st_iload_n C 1 dX8_isTile_12 rfl rfl ?_
  by_cases b_13 : 0 ≤ l ∧ l ≤ 2
  · refine st_callSN (st := []) C dX8_isTile_13 [vI l] (k_isLayer_t (v9 := l)  b_13) (fun _ _ q => by cases q.1) w_X8_29 rfl (by decide) (by decide) (by omega) (by omega) (Nat.le_of_ble_eq_true rfl) (ko_rt ?_)
    show T x 16 [(0, vI 4), (1, vI l), (2, vI x9), (3, vI y9), (4, vI 2)] [vI 1] _ _ _
    refine st_if_ne (tgt := 21) C dX8_isTile_16 (by decide) (fun c_16 => ?_) (fun c_16 => by omega)
    refine st_bipush C dX8_isTile_21 (by decide) (by decide) ?_
    refine st_iload C dX8_isTile_23 rfl ?_
    refine st_ishr C 2 dX8_isTile_25 (by omega) (by decide) ?_
    show T x 26 [(0, vI 4), (1, vI l), (2, vI x9), (3, vI y9), (4, vI 2)] [vI 2] _ _ _
    refine st_iconst C dX8_isTile_26 (by decide) ?_
    refine st_isub C dX8_isTile_27 ⟨(by omega), (by omega)⟩ ?_
    refine st_istore C dX8_isTile_28 (by decide) rfl ?_
    show T x 30 [(0, vI 4), (1, vI l), (2, vI x9), (3, vI y9), (4, vI 2), (5, vI 1)] [] _ _ _
    refine st_iload_n C 2 dX8_isTile_30 rfl rfl ?_
    refine st_iload C dX8_isTile_31 rfl ?_
    by_cases b_33 : 0 ≤ x9 ∧ x9 ≤ 1
    · refine st_callSN (st := []) C dX8_isTile_33 [vI x9, vI 1] (k_isWithin_t (v9 := x9) (m9 := 1)  b_33) (fun _ _ q => by cases q.1) w_X8_33 rfl (by decide) (by decide) (by omega) (by omega) (Nat.le_of_ble_eq_true rfl) (ko_rt ?_)
      show T x 36 [(0, vI 4), (1, vI l), (2, vI x9), (3, vI y9), (4, vI 2), (5, vI 1)] [vI 1] _ _ _
      refine st_if_eq (tgt := 52) C dX8_isTile_36 (by decide) (fun c_36 => by omega) (fun c_36 => ?_)
      refine st_iload_n C 3 dX8_isTile_39 rfl rfl ?_
      refine st_iload C dX8_isTile_40 rfl ?_
      by_cases b_42 : 0 ≤ y9 ∧ y9 ≤ 1
      · refine st_callSN (st := []) C dX8_isTile_42 [vI y9, vI 1] (k_isWithin_t (v9 := y9) (m9 := 1)  b_42) (fun _ _ q => by cases q.1) w_X8_33 rfl (by decide) (by decide) (by omega) (by omega) (Nat.le_of_ble_eq_true rfl) (ko_rt ?_)
        show T x 45 [(0, vI 4), (1, vI l), (2, vI x9), (3, vI y9), (4, vI 2), (5, vI 1)] [vI 1] _ _ _
        refine st_if_eq (tgt := 52) C dX8_isTile_45 (by decide) (fun c_45 => by omega) (fun c_45 => ?_)
        refine st_iconst C dX8_isTile_48 (by decide) ?_
        refine st_goto (tgt := 53) C dX8_isTile_49 (by decide) ?_
        exact st_zreturn C F dX8_isTile_53 rfl (by omega) (rt_i (by unfold TileOk at hP; omega) rfl) (by omega) (by omega)
      · refine st_callSN (st := []) C dX8_isTile_42 [vI y9, vI 1] (k_isWithin_f (v9 := y9) (m9 := 1)  b_42) (fun _ _ q => by cases q.1) w_X8_33 rfl (by decide) (by decide) (by omega) (by omega) (Nat.le_of_ble_eq_true rfl) (ko_rt ?_)
        show T x 45 [(0, vI 4), (1, vI l), (2, vI x9), (3, vI y9), (4, vI 2), (5, vI 1)] [vI 0] _ _ _
        refine st_if_eq (tgt := 52) C dX8_isTile_45 (by decide) (fun c_45 => ?_) (fun c_45 => by omega)
        refine st_iconst C dX8_isTile_52 (by decide) ?_
        exact st_zreturn C F dX8_isTile_53 rfl (by omega) (rt_i (by unfold TileOk at hP; omega) rfl) (by omega) (by omega)
    · refine st_callSN (st := []) C dX8_isTile_33 [vI x9, vI 1] (k_isWithin_f (v9 := x9) (m9 := 1)  b_33) (fun _ _ q => by cases q.1) w_X8_33 rfl (by decide) (by decide) (by omega) (by omega) (Nat.le_of_ble_eq_true rfl) (ko_rt ?_)
      show T x 36 [(0, vI 4), (1, vI l), (2, vI x9), (3, vI y9), (4, vI 2), (5, vI 1)] [vI 0] _ _ _
      refine st_if_eq (tgt := 52) C dX8_isTile_36 (by decide) (fun c_36 => ?_) (fun c_36 => by omega)
      refine st_iconst C dX8_isTile_52 (by decide) ?_
      exact st_zreturn C F dX8_isTile_53 rfl (by omega) (rt_i (by unfold TileOk at hP; omega) rfl) (by omega) (by omega)
  · refine st_callSN (st := []) C dX8_isTile_13 [vI l] (k_isLayer_f (v9 := l)  b_13) (fun _ _ q => by cases q.1) w_X8_29 rfl (by decide) (by decide) (by omega) (by omega) (Nat.le_of_ble_eq_true rfl) (ko_rt ?_)
    show T x 16 [(0, vI 4), (1, vI l), (2, vI x9), (3, vI y9), (4, vI 2)] [vI 0] _ _ _
    refine st_if_ne (tgt := 21) C dX8_isTile_16 (by decide) (fun c_16 => by omega) (fun c_16 => ?_)
    refine st_iconst C dX8_isTile_19 (by decide) ?_
    exact st_zreturn C F dX8_isTile_20 rfl (by omega) (rt_i (by unfold TileOk at hP; omega) rfl) (by omega) (by omega)
set_option maxRecDepth 20000 in
set_option maxHeartbeats 4000000 in
theorem k_isTile3_f {g : Gx} {h : HP} {l x9 y9 : Int} (hP : ¬ TileOk 8 l x9 y9) : Ct g yX8_isTile (.code yX8_isTile cX8_isTile 6 (some .boolean)) 3 0 0 [vI 8, vI l, vI x9, vI y9] h (Rt (some (vI 0)) h) := by
  refine Ct.of (by decide) (Nat.le_of_ble_eq_true rfl) (fun x hg C F => ?_)
  subst hg
  show T x 0 [(0, vI 8), (1, vI l), (2, vI x9), (3, vI y9)] [] h 0 0
  refine st_iload_n C 0 dX8_isTile_0 rfl rfl ?_
  refine st_callS (st := []) C dX8_isTile_1 [vI 8] k_levelOf3 w_X8_25 rfl (by decide) (by decide) (by omega) (by omega) (Nat.le_of_ble_eq_true rfl) (ko_rt ?_)
  show T x 4 [(0, vI 8), (1, vI l), (2, vI x9), (3, vI y9)] [vI 3] _ _ _
  refine st_istore C dX8_isTile_4 (by decide) rfl ?_
  show T x 6 [(0, vI 8), (1, vI l), (2, vI x9), (3, vI y9), (4, vI 3)] [] _ _ _
  refine st_iload C dX8_isTile_6 rfl ?_
  refine st_iconst C dX8_isTile_8 (by decide) ?_
  refine st_icmp_eq (tgt := 19) C dX8_isTile_9 (by decide) (fun c_9 => by omega) (fun c_9 => ?_)
  refine st_iload_n C 1 dX8_isTile_12 rfl rfl ?_
  by_cases b_13 : 0 ≤ l ∧ l ≤ 2
  · refine st_callSN (st := []) C dX8_isTile_13 [vI l] (k_isLayer_t (v9 := l)  b_13) (fun _ _ q => by cases q.1) w_X8_29 rfl (by decide) (by decide) (by omega) (by omega) (Nat.le_of_ble_eq_true rfl) (ko_rt ?_)
    show T x 16 [(0, vI 8), (1, vI l), (2, vI x9), (3, vI y9), (4, vI 3)] [vI 1] _ _ _
    refine st_if_ne (tgt := 21) C dX8_isTile_16 (by decide) (fun c_16 => ?_) (fun c_16 => by omega)
    refine st_bipush C dX8_isTile_21 (by decide) (by decide) ?_
    refine st_iload C dX8_isTile_23 rfl ?_
    refine st_ishr C 3 dX8_isTile_25 (by omega) (by decide) ?_
    show T x 26 [(0, vI 8), (1, vI l), (2, vI x9), (3, vI y9), (4, vI 3)] [vI 1] _ _ _
    refine st_iconst C dX8_isTile_26 (by decide) ?_
    refine st_isub C dX8_isTile_27 ⟨(by omega), (by omega)⟩ ?_
    refine st_istore C dX8_isTile_28 (by decide) rfl ?_
    show T x 30 [(0, vI 8), (1, vI l), (2, vI x9), (3, vI y9), (4, vI 3), (5, vI 0)] [] _ _ _
    refine st_iload_n C 2 dX8_isTile_30 rfl rfl ?_
    refine st_iload C dX8_isTile_31 rfl ?_
    by_cases b_33 : 0 ≤ x9 ∧ x9 ≤ 0
    · refine st_callSN (st := []) C dX8_isTile_33 [vI x9, vI 0] (k_isWithin_t (v9 := x9) (m9 := 0)  b_33) (fun _ _ q => by cases q.1) w_X8_33 rfl (by decide) (by decide) (by omega) (by omega) (Nat.le_of_ble_eq_true rfl) (ko_rt ?_)
      show T x 36 [(0, vI 8), (1, vI l), (2, vI x9), (3, vI y9), (4, vI 3), (5, vI 0)] [vI 1] _ _ _
      refine st_if_eq (tgt := 52) C dX8_isTile_36 (by decide) (fun c_36 => by omega) (fun c_36 => ?_)
      refine st_iload_n C 3 dX8_isTile_39 rfl rfl ?_
      refine st_iload C dX8_isTile_40 rfl ?_
      by_cases b_42 : 0 ≤ y9 ∧ y9 ≤ 0
      · refine st_callSN (st := []) C dX8_isTile_42 [vI y9, vI 0] (k_isWithin_t (v9 := y9) (m9 := 0)  b_42) (fun _ _ q => by cases q.1) w_X8_33 rfl (by decide) (by decide) (by omega) (by omega) (Nat.le_of_ble_eq_true rfl) (ko_rt ?_)
        show T x 45 [(0, vI 8), (1, vI l), (2, vI x9), (3, vI y9), (4, vI 3), (5, vI 0)] [vI 1] _ _ _
        refine st_if_eq (tgt := 52) C dX8_isTile_45 (by decide) (fun c_45 => by omega) (fun c_45 => ?_)
        refine st_iconst C dX8_isTile_48 (by decide) ?_
        refine st_goto (tgt := 53) C dX8_isTile_49 (by decide) ?_
        exact st_zreturn C F dX8_isTile_53 rfl (by omega) (rt_i (by unfold TileOk at hP; omega) rfl) (by omega) (by omega)
      · refine st_callSN (st := []) C dX8_isTile_42 [vI y9, vI 0] (k_isWithin_f (v9 := y9) (m9 := 0)  b_42) (fun _ _ q => by cases q.1) w_X8_33 rfl (by decide) (by decide) (by omega) (by omega) (Nat.le_of_ble_eq_true rfl) (ko_rt ?_)
        show T x 45 [(0, vI 8), (1, vI l), (2, vI x9), (3, vI y9), (4, vI 3), (5, vI 0)] [vI 0] _ _ _
        refine st_if_eq (tgt := 52) C dX8_isTile_45 (by decide) (fun c_45 => ?_) (fun c_45 => by omega)
        refine st_iconst C dX8_isTile_52 (by decide) ?_
        exact st_zreturn C F dX8_isTile_53 rfl (by omega) (rt_i (by unfold TileOk at hP; omega) rfl) (by omega) (by omega)
    · refine st_callSN (st := []) C dX8_isTile_33 [vI x9, vI 0] (k_isWithin_f (v9 := x9) (m9 := 0)  b_33) (fun _ _ q => by cases q.1) w_X8_33 rfl (by decide) (by decide) (by omega) (by omega) (Nat.le_of_ble_eq_true rfl) (ko_rt ?_)
      show T x 36 [(0, vI 8), (1, vI l), (2, vI x9), (3, vI y9), (4, vI 3), (5, vI 0)] [vI 0] _ _ _
      refine st_if_eq (tgt := 52) C dX8_isTile_36 (by decide) (fun c_36 => ?_) (fun c_36 => by omega)
      refine st_iconst C dX8_isTile_52 (by decide) ?_
      exact st_zreturn C F dX8_isTile_53 rfl (by omega) (rt_i (by unfold TileOk at hP; omega) rfl) (by omega) (by omega)
  · refine st_callSN (st := []) C dX8_isTile_13 [vI l] (k_isLayer_f (v9 := l)  b_13) (fun _ _ q => by cases q.1) w_X8_29 rfl (by decide) (by decide) (by omega) (by omega) (Nat.le_of_ble_eq_true rfl) (ko_rt ?_)
    show T x 16 [(0, vI 8), (1, vI l), (2, vI x9), (3, vI y9), (4, vI 3)] [vI 0] _ _ _
    refine st_if_ne (tgt := 21) C dX8_isTile_16 (by decide) (fun c_16 => by omega) (fun c_16 => ?_)
    refine st_iconst C dX8_isTile_19 (by decide) ?_
    exact st_zreturn C F dX8_isTile_20 rfl (by omega) (rt_i (by unfold TileOk at hP; omega) rfl) (by omega) (by omega)
set_option maxRecDepth 20000 in
set_option maxHeartbeats 4000000 in
theorem k_isTile4_f {g : Gx} {h : HP} {l x9 y9 s9 : Int} (hP : ¬ TileOk s9 l x9 y9) (hs : s9 ≠ 1 ∧ s9 ≠ 2 ∧ s9 ≠ 4 ∧ s9 ≠ 8) : Ct g yX8_isTile (.code yX8_isTile cX8_isTile 6 (some .boolean)) 3 0 0 [vI s9, vI l, vI x9, vI y9] h (Rt (some (vI 0)) h) := by
  refine Ct.of (by decide) (Nat.le_of_ble_eq_true rfl) (fun x hg C F => ?_)
  subst hg
  show T x 0 [(0, vI s9), (1, vI l), (2, vI x9), (3, vI y9)] [] h 0 0
  refine st_iload_n C 0 dX8_isTile_0 rfl rfl ?_
  refine st_callS (st := []) C dX8_isTile_1 [vI s9] (k_levelOfo hs) w_X8_25 rfl (by decide) (by decide) (by omega) (by omega) (Nat.le_of_ble_eq_true rfl) (ko_rt ?_)
  show T x 4 [(0, vI s9), (1, vI l), (2, vI x9), (3, vI y9)] [vI (-1)] _ _ _
  refine st_istore C dX8_isTile_4 (by decide) rfl ?_
  show T x 6 [(0, vI s9), (1, vI l), (2, vI x9), (3, vI y9), (4, vI (-1))] [] _ _ _
  refine st_iload C dX8_isTile_6 rfl ?_
  refine st_iconst C dX8_isTile_8 (by decide) ?_
  refine st_icmp_eq (tgt := 19) C dX8_isTile_9 (by decide) (fun c_9 => ?_) (fun c_9 => by omega)
  refine st_iconst C dX8_isTile_19 (by decide) ?_
  exact st_zreturn C F dX8_isTile_20 rfl (by omega) (rt_i (by unfold TileOk at hP; omega) rfl) (by omega) (by omega)
theorem k_isTile_f {g : Gx} {h : HP} {s9 l x9 y9 : Int} (hP : ¬ TileOk s9 l x9 y9) : Ct g yX8_isTile (.code yX8_isTile cX8_isTile 6 (some .boolean)) 3 0 0 [vI s9, vI l, vI x9, vI y9] h (Rt (some (vI 0)) h) := by
  by_cases c0 : s9 = 1
  · subst c0; exact k_isTile0_f hP
  by_cases c1 : s9 = 2
  · subst c1; exact k_isTile1_f hP
  by_cases c2 : s9 = 4
  · subst c2; exact k_isTile2_f hP
  by_cases c3 : s9 = 8
  · subst c3; exact k_isTile3_f hP
  exact k_isTile4_f hP ⟨c0, c1, c2, c3⟩
def slV (fs n l x y : Int) : Int := 85 * l + fs + n * y + x
set_option maxRecDepth 20000 in
set_option maxHeartbeats 4000000 in
theorem k_slotOf0 {g : Gx} {h : HP} {l x9 y9 : Int} (hl : 0 ≤ l ∧ l ≤ 2) (hx : 0 ≤ x9 ∧ x9 ≤ 7) (hy : 0 ≤ y9 ∧ y9 ≤ 7) : Ct g yX8_slotOf (.code yX8_slotOf cX8_slotOf 5 (some .int)) 1 0 0 [vI 0, vI l, vI x9, vI y9] h (Rt (some (vI (85 * l + 0 + 8 * y9 + x9))) h) := by
  refine Ct.of (by decide) (Nat.le_of_ble_eq_true rfl) (fun x hg C F => ?_)
  subst hg
  show T x 0 [(0, vI 0), (1, vI l), (2, vI x9), (3, vI y9)] [] h 0 0
  refine st_iload_n C 0 dX8_slotOf_0 rfl rfl ?_
  refine st_if_lt (tgt := 17) C dX8_slotOf_1 (by decide) (fun c_1 => by omega) (fun c_1 => ?_)
  refine st_iload_n C 0 dX8_slotOf_4 rfl rfl ?_
  refine st_iconst C dX8_slotOf_5 (by decide) ?_
  refine st_icmp_ge (tgt := 17) C dX8_slotOf_6 (by decide) (fun c_6 => by omega) (fun c_6 => ?_)
  refine st_slots C 0 dX8_slotOf_9 dX8_slotOf_12 rfl dX8_slotOf_13 gs_37 rfl (by omega) (by omega) ?_
  show T x 14 [(0, vI 0), (1, vI l), (2, vI x9), (3, vI y9)] [vI 0] _ _ _
  refine st_goto (tgt := 18) C dX8_slotOf_14 (by decide) ?_
  refine st_istore C dX8_slotOf_18 (by decide) rfl ?_
  show T x 20 [(0, vI 0), (1, vI l), (2, vI x9), (3, vI y9), (4, vI 0)] [] _ _ _
  refine st_bipush C dX8_slotOf_20 (by decide) (by decide) ?_
  refine st_iload_n C 1 dX8_slotOf_22 rfl rfl ?_
  refine st_imul C dX8_slotOf_23 ⟨(by omega), (by omega)⟩ ?_
  refine st_iload C dX8_slotOf_24 rfl ?_
  refine st_iadd C dX8_slotOf_26 ⟨(by omega), (by omega)⟩ ?_
  refine st_bipush C dX8_slotOf_27 (by decide) (by decide) ?_
  refine st_iload_n C 0 dX8_slotOf_29 rfl rfl ?_
  refine st_ishr C 0 dX8_slotOf_30 (by omega) (by decide) ?_
  show T x 31 [(0, vI 0), (1, vI l), (2, vI x9), (3, vI y9), (4, vI 0)] [vI 8, vI (85 * l + 0)] _ _ _
  refine st_iload_n C 3 dX8_slotOf_31 rfl rfl ?_
  refine st_imul C dX8_slotOf_32 ⟨(by omega), (by omega)⟩ ?_
  refine st_iadd C dX8_slotOf_33 ⟨(by omega), (by omega)⟩ ?_
  refine st_iload_n C 2 dX8_slotOf_34 rfl rfl ?_
  refine st_iadd C dX8_slotOf_35 ⟨(by omega), (by omega)⟩ ?_
  exact st_ireturn C F dX8_slotOf_36 rfl ⟨rfl, rfl⟩ (by omega) (by omega)
set_option maxRecDepth 20000 in
set_option maxHeartbeats 4000000 in
theorem k_slotOf1 {g : Gx} {h : HP} {l x9 y9 : Int} (hl : 0 ≤ l ∧ l ≤ 2) (hx : 0 ≤ x9 ∧ x9 ≤ 3) (hy : 0 ≤ y9 ∧ y9 ≤ 3) : Ct g yX8_slotOf (.code yX8_slotOf cX8_slotOf 5 (some .int)) 1 0 0 [vI 1, vI l, vI x9, vI y9] h (Rt (some (vI (85 * l + 64 + 4 * y9 + x9))) h) := by
  refine Ct.of (by decide) (Nat.le_of_ble_eq_true rfl) (fun x hg C F => ?_)
  subst hg
  show T x 0 [(0, vI 1), (1, vI l), (2, vI x9), (3, vI y9)] [] h 0 0
  refine st_iload_n C 0 dX8_slotOf_0 rfl rfl ?_
  refine st_if_lt (tgt := 17) C dX8_slotOf_1 (by decide) (fun c_1 => by omega) (fun c_1 => ?_)
  refine st_iload_n C 0 dX8_slotOf_4 rfl rfl ?_
  refine st_iconst C dX8_slotOf_5 (by decide) ?_
  refine st_icmp_ge (tgt := 17) C dX8_slotOf_6 (by decide) (fun c_6 => by omega) (fun c_6 => ?_)
  refine st_slots C 0 dX8_slotOf_9 dX8_slotOf_12 rfl dX8_slotOf_13 gs_37 rfl (by omega) (by omega) ?_
  show T x 14 [(0, vI 1), (1, vI l), (2, vI x9), (3, vI y9)] [vI 64] _ _ _
  refine st_goto (tgt := 18) C dX8_slotOf_14 (by decide) ?_
  refine st_istore C dX8_slotOf_18 (by decide) rfl ?_
  show T x 20 [(0, vI 1), (1, vI l), (2, vI x9), (3, vI y9), (4, vI 64)] [] _ _ _
  refine st_bipush C dX8_slotOf_20 (by decide) (by decide) ?_
  refine st_iload_n C 1 dX8_slotOf_22 rfl rfl ?_
  refine st_imul C dX8_slotOf_23 ⟨(by omega), (by omega)⟩ ?_
  refine st_iload C dX8_slotOf_24 rfl ?_
  refine st_iadd C dX8_slotOf_26 ⟨(by omega), (by omega)⟩ ?_
  refine st_bipush C dX8_slotOf_27 (by decide) (by decide) ?_
  refine st_iload_n C 0 dX8_slotOf_29 rfl rfl ?_
  refine st_ishr C 1 dX8_slotOf_30 (by omega) (by decide) ?_
  show T x 31 [(0, vI 1), (1, vI l), (2, vI x9), (3, vI y9), (4, vI 64)] [vI 4, vI (85 * l + 64)] _ _ _
  refine st_iload_n C 3 dX8_slotOf_31 rfl rfl ?_
  refine st_imul C dX8_slotOf_32 ⟨(by omega), (by omega)⟩ ?_
  refine st_iadd C dX8_slotOf_33 ⟨(by omega), (by omega)⟩ ?_
  refine st_iload_n C 2 dX8_slotOf_34 rfl rfl ?_
  refine st_iadd C dX8_slotOf_35 ⟨(by omega), (by omega)⟩ ?_
  exact st_ireturn C F dX8_slotOf_36 rfl ⟨rfl, rfl⟩ (by omega) (by omega)
set_option maxRecDepth 20000 in
set_option maxHeartbeats 4000000 in
theorem k_slotOf2 {g : Gx} {h : HP} {l x9 y9 : Int} (hl : 0 ≤ l ∧ l ≤ 2) (hx : 0 ≤ x9 ∧ x9 ≤ 1) (hy : 0 ≤ y9 ∧ y9 ≤ 1) : Ct g yX8_slotOf (.code yX8_slotOf cX8_slotOf 5 (some .int)) 1 0 0 [vI 2, vI l, vI x9, vI y9] h (Rt (some (vI (85 * l + 80 + 2 * y9 + x9))) h) := by
  refine Ct.of (by decide) (Nat.le_of_ble_eq_true rfl) (fun x hg C F => ?_)
  subst hg
  show T x 0 [(0, vI 2), (1, vI l), (2, vI x9), (3, vI y9)] [] h 0 0
  refine st_iload_n C 0 dX8_slotOf_0 rfl rfl ?_
  refine st_if_lt (tgt := 17) C dX8_slotOf_1 (by decide) (fun c_1 => by omega) (fun c_1 => ?_)
  refine st_iload_n C 0 dX8_slotOf_4 rfl rfl ?_
  refine st_iconst C dX8_slotOf_5 (by decide) ?_
  refine st_icmp_ge (tgt := 17) C dX8_slotOf_6 (by decide) (fun c_6 => by omega) (fun c_6 => ?_)
  refine st_slots C 0 dX8_slotOf_9 dX8_slotOf_12 rfl dX8_slotOf_13 gs_37 rfl (by omega) (by omega) ?_
  show T x 14 [(0, vI 2), (1, vI l), (2, vI x9), (3, vI y9)] [vI 80] _ _ _
  refine st_goto (tgt := 18) C dX8_slotOf_14 (by decide) ?_
  refine st_istore C dX8_slotOf_18 (by decide) rfl ?_
  show T x 20 [(0, vI 2), (1, vI l), (2, vI x9), (3, vI y9), (4, vI 80)] [] _ _ _
  refine st_bipush C dX8_slotOf_20 (by decide) (by decide) ?_
  refine st_iload_n C 1 dX8_slotOf_22 rfl rfl ?_
  refine st_imul C dX8_slotOf_23 ⟨(by omega), (by omega)⟩ ?_
  refine st_iload C dX8_slotOf_24 rfl ?_
  refine st_iadd C dX8_slotOf_26 ⟨(by omega), (by omega)⟩ ?_
  refine st_bipush C dX8_slotOf_27 (by decide) (by decide) ?_
  refine st_iload_n C 0 dX8_slotOf_29 rfl rfl ?_
  refine st_ishr C 2 dX8_slotOf_30 (by omega) (by decide) ?_
  show T x 31 [(0, vI 2), (1, vI l), (2, vI x9), (3, vI y9), (4, vI 80)] [vI 2, vI (85 * l + 80)] _ _ _
  refine st_iload_n C 3 dX8_slotOf_31 rfl rfl ?_
  refine st_imul C dX8_slotOf_32 ⟨(by omega), (by omega)⟩ ?_
  refine st_iadd C dX8_slotOf_33 ⟨(by omega), (by omega)⟩ ?_
  refine st_iload_n C 2 dX8_slotOf_34 rfl rfl ?_
  refine st_iadd C dX8_slotOf_35 ⟨(by omega), (by omega)⟩ ?_
  exact st_ireturn C F dX8_slotOf_36 rfl ⟨rfl, rfl⟩ (by omega) (by omega)
set_option maxRecDepth 20000 in
set_option maxHeartbeats 4000000 in
theorem k_slotOf3 {g : Gx} {h : HP} {l x9 y9 : Int} (hl : 0 ≤ l ∧ l ≤ 2) (hx : 0 ≤ x9 ∧ x9 ≤ 0) (hy : 0 ≤ y9 ∧ y9 ≤ 0) : Ct g yX8_slotOf (.code yX8_slotOf cX8_slotOf 5 (some .int)) 1 0 0 [vI 3, vI l, vI x9, vI y9] h (Rt (some (vI (85 * l + 84 + 1 * y9 + x9))) h) := by
  refine Ct.of (by decide) (Nat.le_of_ble_eq_true rfl) (fun x hg C F => ?_)
  subst hg
  show T x 0 [(0, vI 3), (1, vI l), (2, vI x9), (3, vI y9)] [] h 0 0
  refine st_iload_n C 0 dX8_slotOf_0 rfl rfl ?_
  refine st_if_lt (tgt := 17) C dX8_slotOf_1 (by decide) (fun c_1 => by omega) (fun c_1 => ?_)
  refine st_iload_n C 0 dX8_slotOf_4 rfl rfl ?_
  refine st_iconst C dX8_slotOf_5 (by decide) ?_
  refine st_icmp_ge (tgt := 17) C dX8_slotOf_6 (by decide) (fun c_6 => by omega) (fun c_6 => ?_)
  refine st_slots C 0 dX8_slotOf_9 dX8_slotOf_12 rfl dX8_slotOf_13 gs_37 rfl (by omega) (by omega) ?_
  show T x 14 [(0, vI 3), (1, vI l), (2, vI x9), (3, vI y9)] [vI 84] _ _ _
  refine st_goto (tgt := 18) C dX8_slotOf_14 (by decide) ?_
  refine st_istore C dX8_slotOf_18 (by decide) rfl ?_
  show T x 20 [(0, vI 3), (1, vI l), (2, vI x9), (3, vI y9), (4, vI 84)] [] _ _ _
  refine st_bipush C dX8_slotOf_20 (by decide) (by decide) ?_
  refine st_iload_n C 1 dX8_slotOf_22 rfl rfl ?_
  refine st_imul C dX8_slotOf_23 ⟨(by omega), (by omega)⟩ ?_
  refine st_iload C dX8_slotOf_24 rfl ?_
  refine st_iadd C dX8_slotOf_26 ⟨(by omega), (by omega)⟩ ?_
  refine st_bipush C dX8_slotOf_27 (by decide) (by decide) ?_
  refine st_iload_n C 0 dX8_slotOf_29 rfl rfl ?_
  refine st_ishr C 3 dX8_slotOf_30 (by omega) (by decide) ?_
  show T x 31 [(0, vI 3), (1, vI l), (2, vI x9), (3, vI y9), (4, vI 84)] [vI 1, vI (85 * l + 84)] _ _ _
  refine st_iload_n C 3 dX8_slotOf_31 rfl rfl ?_
  refine st_imul C dX8_slotOf_32 ⟨(by omega), (by omega)⟩ ?_
  refine st_iadd C dX8_slotOf_33 ⟨(by omega), (by omega)⟩ ?_
  refine st_iload_n C 2 dX8_slotOf_34 rfl rfl ?_
  refine st_iadd C dX8_slotOf_35 ⟨(by omega), (by omega)⟩ ?_
  exact st_ireturn C F dX8_slotOf_36 rfl ⟨rfl, rfl⟩ (by omega) (by omega)
/-- the best of the first n numbers by F, from 0, and its F; ties to the earlier -/
def mcb (F : Int → Int) : Nat → Int × Int
  | 0 => (0, 0)
  | n + 1 => if (mcb F n).2 < F n then ((n : Int), F n) else mcb F n
theorem mcb_0 {F : Int → Int} : (0 : Int) = (mcb F (0 : Int).toNat).1 ∧ (0 : Int) = (mcb F (0 : Int).toNat).2 := ⟨rfl, rfl⟩
theorem mcb_s {F : Int → Int} {i : Int} (h : 0 ≤ i) : mcb F (i + 1).toNat = if (mcb F i.toNat).2 < F i then (i, F i) else mcb F i.toNat := by
  rw [toNat_s h]
  show (if (mcb F i.toNat).2 < F (i.toNat : Int) then (((i.toNat : Nat) : Int), F (i.toNat : Int)) else mcb F i.toNat) = _
  rw [Int.toNat_of_nonneg h]
theorem mcb_t {F : Int → Int} {i b m : Int} (h : 0 ≤ i) (hb : b = (mcb F i.toNat).1 ∧ m = (mcb F i.toNat).2) (c : m < F i) : i = (mcb F (i + 1).toNat).1 ∧ F i = (mcb F (i + 1).toNat).2 := by
  rw [mcb_s h, if_pos (by rw [← hb.2]; exact c)]
  exact ⟨rfl, rfl⟩
theorem mcb_f {F : Int → Int} {i b m : Int} (h : 0 ≤ i) (hb : b = (mcb F i.toNat).1 ∧ m = (mcb F i.toNat).2) (c : ¬ m < F i) : b = (mcb F (i + 1).toNat).1 ∧ m = (mcb F (i + 1).toNat).2 := by
  rw [mcb_s h, if_neg (by rw [← hb.2]; exact c)]
  exact hb
theorem mcbE {F : Int → Int} {i b m : Int} (hb : b = (mcb F i.toNat).1 ∧ m = (mcb F i.toNat).2) (c : i = 10) : b = (mcb F 10).1 := by
  subst c; exact hb.1
/-- the most common area of a square of side s -/
noncomputable def mcaV (f : Int → Int) (l s x y : Int) : Int := (mcb (fun a => pin f l a s x y) 10).1
set_option maxRecDepth 20000 in
set_option maxHeartbeats 4000000 in
theorem k_mca0 {g : Gx} {h : HP} {m : Nat} {mf : Int → Int} {l x9 y9 : Int} (hm : h m = some (oI 304 mf)) (hl : 0 ≤ l ∧ l ≤ 2) (hx : 0 ≤ x9 ∧ x9 ≤ 7) (hy : 0 ≤ y9 ∧ y9 ≤ 7) : Ct g yX8_mostCommonArea (.code yX8_mostCommonArea cX8_mostCommonArea 9 (some .int)) 3 0 0 [vR m, vI 0, vI l, vI x9, vI y9] h (Rt (some (vI (mcaV mf l 1 x9 y9))) h) := by
  refine Ct.of (by decide) (Nat.le_of_ble_eq_true rfl) (fun x hg C F => ?_)
  subst hg
  show T x 0 [(0, vR m), (1, vI 0), (2, vI l), (3, vI x9), (4, vI y9)] [] h 0 0
  refine st_iconst C dX8_mostCommonArea_0 (by decide) ?_
  refine st_istore C dX8_mostCommonArea_1 (by decide) rfl ?_
  show T x 3 [(0, vR m), (1, vI 0), (2, vI l), (3, vI x9), (4, vI y9), (5, vI 0)] [] _ _ _
  refine st_iconst C dX8_mostCommonArea_3 (by decide) ?_
  refine st_istore C dX8_mostCommonArea_4 (by decide) rfl ?_
  show T x 6 [(0, vR m), (1, vI 0), (2, vI l), (3, vI x9), (4, vI y9), (5, vI 0), (6, vI 0)] [] _ _ _
  refine st_iconst C dX8_mostCommonArea_6 (by decide) ?_
  refine st_istore C dX8_mostCommonArea_7 (by decide) rfl ?_
  show T x 9 [(0, vR m), (1, vI 0), (2, vI l), (3, vI x9), (4, vI y9), (5, vI 0), (6, vI 0), (7, vI 0)] [] _ _ _
  have loop_9 : ∀ (n_9 : Nat) (b1 : Int) (m1 : Int) (i : Int), (0 ≤ i) → (i ≤ 10) → (b1 = (mcb (fun a => pin mf l a 1 x9 y9) i.toNat).1 ∧ m1 = (mcb (fun a => pin mf l a 1 x9 y9) i.toNat).2) → (10 - i).toNat < n_9 → T x 9 [(0, vR m), (1, vI 0), (2, vI l), (3, vI x9), (4, vI y9), (5, vI b1), (6, vI m1), (7, vI i)] [] h 0 0 := by
    intro n_9
    induction n_9 with
    | zero => intro b1 m1 i g1 g2 g3 hm_9; exact absurd hm_9 (Nat.not_lt_zero _)
    | succ n_9 ih_9 =>
      intro b1 m1 i g1 g2 g3 hm_9
      refine st_iload C dX8_mostCommonArea_9 rfl ?_
      refine st_bipush C dX8_mostCommonArea_11 (by decide) (by decide) ?_
      refine st_icmp_gt (tgt := 50) C dX8_mostCommonArea_13 (by decide) (fun c_13 => ?_) (fun c_13 => ?_)
      · refine st_iload C dX8_mostCommonArea_50 rfl ?_
        exact st_ireturn C F dX8_mostCommonArea_52 rfl (rt_i (mcbE g3 (by omega)) rfl) (by omega) (by omega)
      · refine st_aload_n C 0 dX8_mostCommonArea_16 rfl rfl ?_
        refine st_iload_n C 2 dX8_mostCommonArea_17 rfl rfl ?_
        refine st_iload C dX8_mostCommonArea_18 rfl ?_
        refine st_iload_n C 1 dX8_mostCommonArea_20 rfl rfl ?_
        refine st_iload_n C 3 dX8_mostCommonArea_21 rfl rfl ?_
        refine st_iload C dX8_mostCommonArea_22 rfl ?_
        refine st_callS (st := []) C dX8_mostCommonArea_24 [vR m, vI l, vI i, vI 0, vI x9, vI y9] (k_placesIn0 (f := mf) (l := l) (a9 := i) (x9 := x9) (y9 := y9) hm (by omega) (by omega) (by omega)) w_X8_48 rfl (by decide) (by decide) (by omega) (by omega) (Nat.le_of_ble_eq_true rfl) (ko_rt ?_)
        show T x 27 [(0, vR m), (1, vI 0), (2, vI l), (3, vI x9), (4, vI y9), (5, vI b1), (6, vI m1), (7, vI i)] [vI (pin mf l i 1 x9 y9)] _ _ _
        refine st_istore C dX8_mostCommonArea_27 (by decide) rfl ?_
        show T x 29 [(0, vR m), (1, vI 0), (2, vI l), (3, vI x9), (4, vI y9), (5, vI b1), (6, vI m1), (7, vI i), (8, vI (pin mf l i 1 x9 y9))] [] _ _ _
        refine st_iload C dX8_mostCommonArea_29 rfl ?_
        refine st_iload C dX8_mostCommonArea_31 rfl ?_
        refine st_icmp_le (tgt := 44) C dX8_mostCommonArea_33 (by decide) (fun c_33 => ?_) (fun c_33 => ?_)
        · refine st_iinc C dX8_mostCommonArea_44 rfl (by decide) rfl ⟨(by omega), (by omega)⟩ ?_
          show T x 47 [(0, vR m), (1, vI 0), (2, vI l), (3, vI x9), (4, vI y9), (5, vI b1), (6, vI m1), (7, vI (i + 1)), (8, vI (pin mf l i 1 x9 y9))] [] _ _ _
          refine st_goto (tgt := 9) C dX8_mostCommonArea_47 (by decide) ?_
          refine st_sub [0, 1, 2, 3, 4, 5, 6, 7] rfl ?_
          exact ih_9 b1 m1 (i + 1) (by omega) (by omega) (by first | exact mcb_t (F := (fun a => pin mf l a 1 x9 y9)) g1 g3 (by omega) | exact mcb_f (F := (fun a => pin mf l a 1 x9 y9)) g1 g3 (by omega)) (by omega)
        · refine st_iload C dX8_mostCommonArea_36 rfl ?_
          refine st_istore C dX8_mostCommonArea_38 (by decide) rfl ?_
          show T x 40 [(0, vR m), (1, vI 0), (2, vI l), (3, vI x9), (4, vI y9), (5, vI i), (6, vI m1), (7, vI i), (8, vI (pin mf l i 1 x9 y9))] [] _ _ _
          refine st_iload C dX8_mostCommonArea_40 rfl ?_
          refine st_istore C dX8_mostCommonArea_42 (by decide) rfl ?_
          show T x 44 [(0, vR m), (1, vI 0), (2, vI l), (3, vI x9), (4, vI y9), (5, vI i), (6, vI (pin mf l i 1 x9 y9)), (7, vI i), (8, vI (pin mf l i 1 x9 y9))] [] _ _ _
          refine st_iinc C dX8_mostCommonArea_44 rfl (by decide) rfl ⟨(by omega), (by omega)⟩ ?_
          show T x 47 [(0, vR m), (1, vI 0), (2, vI l), (3, vI x9), (4, vI y9), (5, vI i), (6, vI (pin mf l i 1 x9 y9)), (7, vI (i + 1)), (8, vI (pin mf l i 1 x9 y9))] [] _ _ _
          refine st_goto (tgt := 9) C dX8_mostCommonArea_47 (by decide) ?_
          refine st_sub [0, 1, 2, 3, 4, 5, 6, 7] rfl ?_
          exact ih_9 i (pin mf l i 1 x9 y9) (i + 1) (by omega) (by omega) (by first | exact mcb_t (F := (fun a => pin mf l a 1 x9 y9)) g1 g3 (by omega) | exact mcb_f (F := (fun a => pin mf l a 1 x9 y9)) g1 g3 (by omega)) (by omega)
  exact loop_9 _ 0 0 0 (by omega) (by omega) (mcb_0) (Nat.lt_succ_self _)
set_option maxRecDepth 20000 in
set_option maxHeartbeats 4000000 in
theorem k_mca1 {g : Gx} {h : HP} {m : Nat} {mf : Int → Int} {l x9 y9 : Int} (hm : h m = some (oI 304 mf)) (hl : 0 ≤ l ∧ l ≤ 2) (hx : 0 ≤ x9 ∧ x9 ≤ 3) (hy : 0 ≤ y9 ∧ y9 ≤ 3) : Ct g yX8_mostCommonArea (.code yX8_mostCommonArea cX8_mostCommonArea 9 (some .int)) 3 0 0 [vR m, vI 1, vI l, vI x9, vI y9] h (Rt (some (vI (mcaV mf l 2 x9 y9))) h) := by
  refine Ct.of (by decide) (Nat.le_of_ble_eq_true rfl) (fun x hg C F => ?_)
  subst hg
  show T x 0 [(0, vR m), (1, vI 1), (2, vI l), (3, vI x9), (4, vI y9)] [] h 0 0
  refine st_iconst C dX8_mostCommonArea_0 (by decide) ?_
  refine st_istore C dX8_mostCommonArea_1 (by decide) rfl ?_
  show T x 3 [(0, vR m), (1, vI 1), (2, vI l), (3, vI x9), (4, vI y9), (5, vI 0)] [] _ _ _
  refine st_iconst C dX8_mostCommonArea_3 (by decide) ?_
  refine st_istore C dX8_mostCommonArea_4 (by decide) rfl ?_
  show T x 6 [(0, vR m), (1, vI 1), (2, vI l), (3, vI x9), (4, vI y9), (5, vI 0), (6, vI 0)] [] _ _ _
  refine st_iconst C dX8_mostCommonArea_6 (by decide) ?_
  refine st_istore C dX8_mostCommonArea_7 (by decide) rfl ?_
  show T x 9 [(0, vR m), (1, vI 1), (2, vI l), (3, vI x9), (4, vI y9), (5, vI 0), (6, vI 0), (7, vI 0)] [] _ _ _
  have loop_9 : ∀ (n_9 : Nat) (b1 : Int) (m1 : Int) (i : Int), (0 ≤ i) → (i ≤ 10) → (b1 = (mcb (fun a => pin mf l a 2 x9 y9) i.toNat).1 ∧ m1 = (mcb (fun a => pin mf l a 2 x9 y9) i.toNat).2) → (10 - i).toNat < n_9 → T x 9 [(0, vR m), (1, vI 1), (2, vI l), (3, vI x9), (4, vI y9), (5, vI b1), (6, vI m1), (7, vI i)] [] h 0 0 := by
    intro n_9
    induction n_9 with
    | zero => intro b1 m1 i g1 g2 g3 hm_9; exact absurd hm_9 (Nat.not_lt_zero _)
    | succ n_9 ih_9 =>
      intro b1 m1 i g1 g2 g3 hm_9
      refine st_iload C dX8_mostCommonArea_9 rfl ?_
      refine st_bipush C dX8_mostCommonArea_11 (by decide) (by decide) ?_
      refine st_icmp_gt (tgt := 50) C dX8_mostCommonArea_13 (by decide) (fun c_13 => ?_) (fun c_13 => ?_)
      · refine st_iload C dX8_mostCommonArea_50 rfl ?_
        exact st_ireturn C F dX8_mostCommonArea_52 rfl (rt_i (mcbE g3 (by omega)) rfl) (by omega) (by omega)
      · refine st_aload_n C 0 dX8_mostCommonArea_16 rfl rfl ?_
        refine st_iload_n C 2 dX8_mostCommonArea_17 rfl rfl ?_
        refine st_iload C dX8_mostCommonArea_18 rfl ?_
        refine st_iload_n C 1 dX8_mostCommonArea_20 rfl rfl ?_
        refine st_iload_n C 3 dX8_mostCommonArea_21 rfl rfl ?_
        refine st_iload C dX8_mostCommonArea_22 rfl ?_
        refine st_callS (st := []) C dX8_mostCommonArea_24 [vR m, vI l, vI i, vI 1, vI x9, vI y9] (k_placesIn1 (f := mf) (l := l) (a9 := i) (x9 := x9) (y9 := y9) hm (by omega) (by omega) (by omega)) w_X8_48 rfl (by decide) (by decide) (by omega) (by omega) (Nat.le_of_ble_eq_true rfl) (ko_rt ?_)
        show T x 27 [(0, vR m), (1, vI 1), (2, vI l), (3, vI x9), (4, vI y9), (5, vI b1), (6, vI m1), (7, vI i)] [vI (pin mf l i 2 x9 y9)] _ _ _
        refine st_istore C dX8_mostCommonArea_27 (by decide) rfl ?_
        show T x 29 [(0, vR m), (1, vI 1), (2, vI l), (3, vI x9), (4, vI y9), (5, vI b1), (6, vI m1), (7, vI i), (8, vI (pin mf l i 2 x9 y9))] [] _ _ _
        refine st_iload C dX8_mostCommonArea_29 rfl ?_
        refine st_iload C dX8_mostCommonArea_31 rfl ?_
        refine st_icmp_le (tgt := 44) C dX8_mostCommonArea_33 (by decide) (fun c_33 => ?_) (fun c_33 => ?_)
        · refine st_iinc C dX8_mostCommonArea_44 rfl (by decide) rfl ⟨(by omega), (by omega)⟩ ?_
          show T x 47 [(0, vR m), (1, vI 1), (2, vI l), (3, vI x9), (4, vI y9), (5, vI b1), (6, vI m1), (7, vI (i + 1)), (8, vI (pin mf l i 2 x9 y9))] [] _ _ _
          refine st_goto (tgt := 9) C dX8_mostCommonArea_47 (by decide) ?_
          refine st_sub [0, 1, 2, 3, 4, 5, 6, 7] rfl ?_
          exact ih_9 b1 m1 (i + 1) (by omega) (by omega) (by first | exact mcb_t (F := (fun a => pin mf l a 2 x9 y9)) g1 g3 (by omega) | exact mcb_f (F := (fun a => pin mf l a 2 x9 y9)) g1 g3 (by omega)) (by omega)
        · refine st_iload C dX8_mostCommonArea_36 rfl ?_
          refine st_istore C dX8_mostCommonArea_38 (by decide) rfl ?_
          show T x 40 [(0, vR m), (1, vI 1), (2, vI l), (3, vI x9), (4, vI y9), (5, vI i), (6, vI m1), (7, vI i), (8, vI (pin mf l i 2 x9 y9))] [] _ _ _
          refine st_iload C dX8_mostCommonArea_40 rfl ?_
          refine st_istore C dX8_mostCommonArea_42 (by decide) rfl ?_
          show T x 44 [(0, vR m), (1, vI 1), (2, vI l), (3, vI x9), (4, vI y9), (5, vI i), (6, vI (pin mf l i 2 x9 y9)), (7, vI i), (8, vI (pin mf l i 2 x9 y9))] [] _ _ _
          refine st_iinc C dX8_mostCommonArea_44 rfl (by decide) rfl ⟨(by omega), (by omega)⟩ ?_
          show T x 47 [(0, vR m), (1, vI 1), (2, vI l), (3, vI x9), (4, vI y9), (5, vI i), (6, vI (pin mf l i 2 x9 y9)), (7, vI (i + 1)), (8, vI (pin mf l i 2 x9 y9))] [] _ _ _
          refine st_goto (tgt := 9) C dX8_mostCommonArea_47 (by decide) ?_
          refine st_sub [0, 1, 2, 3, 4, 5, 6, 7] rfl ?_
          exact ih_9 i (pin mf l i 2 x9 y9) (i + 1) (by omega) (by omega) (by first | exact mcb_t (F := (fun a => pin mf l a 2 x9 y9)) g1 g3 (by omega) | exact mcb_f (F := (fun a => pin mf l a 2 x9 y9)) g1 g3 (by omega)) (by omega)
  exact loop_9 _ 0 0 0 (by omega) (by omega) (mcb_0) (Nat.lt_succ_self _)
set_option maxRecDepth 20000 in
set_option maxHeartbeats 4000000 in
theorem k_mca2 {g : Gx} {h : HP} {m : Nat} {mf : Int → Int} {l x9 y9 : Int} (hm : h m = some (oI 304 mf)) (hl : 0 ≤ l ∧ l ≤ 2) (hx : 0 ≤ x9 ∧ x9 ≤ 1) (hy : 0 ≤ y9 ∧ y9 ≤ 1) : Ct g yX8_mostCommonArea (.code yX8_mostCommonArea cX8_mostCommonArea 9 (some .int)) 3 0 0 [vR m, vI 2, vI l, vI x9, vI y9] h (Rt (some (vI (mcaV mf l 4 x9 y9))) h) := by
  refine Ct.of (by decide) (Nat.le_of_ble_eq_true rfl) (fun x hg C F => ?_)
  subst hg
  show T x 0 [(0, vR m), (1, vI 2), (2, vI l), (3, vI x9), (4, vI y9)] [] h 0 0
  refine st_iconst C dX8_mostCommonArea_0 (by decide) ?_
  refine st_istore C dX8_mostCommonArea_1 (by decide) rfl ?_
  show T x 3 [(0, vR m), (1, vI 2), (2, vI l), (3, vI x9), (4, vI y9), (5, vI 0)] [] _ _ _
  refine st_iconst C dX8_mostCommonArea_3 (by decide) ?_
  refine st_istore C dX8_mostCommonArea_4 (by decide) rfl ?_
  show T x 6 [(0, vR m), (1, vI 2), (2, vI l), (3, vI x9), (4, vI y9), (5, vI 0), (6, vI 0)] [] _ _ _
  refine st_iconst C dX8_mostCommonArea_6 (by decide) ?_
  refine st_istore C dX8_mostCommonArea_7 (by decide) rfl ?_
  show T x 9 [(0, vR m), (1, vI 2), (2, vI l), (3, vI x9), (4, vI y9), (5, vI 0), (6, vI 0), (7, vI 0)] [] _ _ _
  have loop_9 : ∀ (n_9 : Nat) (b1 : Int) (m1 : Int) (i : Int), (0 ≤ i) → (i ≤ 10) → (b1 = (mcb (fun a => pin mf l a 4 x9 y9) i.toNat).1 ∧ m1 = (mcb (fun a => pin mf l a 4 x9 y9) i.toNat).2) → (10 - i).toNat < n_9 → T x 9 [(0, vR m), (1, vI 2), (2, vI l), (3, vI x9), (4, vI y9), (5, vI b1), (6, vI m1), (7, vI i)] [] h 0 0 := by
    intro n_9
    induction n_9 with
    | zero => intro b1 m1 i g1 g2 g3 hm_9; exact absurd hm_9 (Nat.not_lt_zero _)
    | succ n_9 ih_9 =>
      intro b1 m1 i g1 g2 g3 hm_9
      refine st_iload C dX8_mostCommonArea_9 rfl ?_
      refine st_bipush C dX8_mostCommonArea_11 (by decide) (by decide) ?_
      refine st_icmp_gt (tgt := 50) C dX8_mostCommonArea_13 (by decide) (fun c_13 => ?_) (fun c_13 => ?_)
      · refine st_iload C dX8_mostCommonArea_50 rfl ?_
        exact st_ireturn C F dX8_mostCommonArea_52 rfl (rt_i (mcbE g3 (by omega)) rfl) (by omega) (by omega)
      · refine st_aload_n C 0 dX8_mostCommonArea_16 rfl rfl ?_
        refine st_iload_n C 2 dX8_mostCommonArea_17 rfl rfl ?_
        refine st_iload C dX8_mostCommonArea_18 rfl ?_
        refine st_iload_n C 1 dX8_mostCommonArea_20 rfl rfl ?_
        refine st_iload_n C 3 dX8_mostCommonArea_21 rfl rfl ?_
        refine st_iload C dX8_mostCommonArea_22 rfl ?_
        refine st_callS (st := []) C dX8_mostCommonArea_24 [vR m, vI l, vI i, vI 2, vI x9, vI y9] (k_placesIn2 (f := mf) (l := l) (a9 := i) (x9 := x9) (y9 := y9) hm (by omega) (by omega) (by omega)) w_X8_48 rfl (by decide) (by decide) (by omega) (by omega) (Nat.le_of_ble_eq_true rfl) (ko_rt ?_)
        show T x 27 [(0, vR m), (1, vI 2), (2, vI l), (3, vI x9), (4, vI y9), (5, vI b1), (6, vI m1), (7, vI i)] [vI (pin mf l i 4 x9 y9)] _ _ _
        refine st_istore C dX8_mostCommonArea_27 (by decide) rfl ?_
        show T x 29 [(0, vR m), (1, vI 2), (2, vI l), (3, vI x9), (4, vI y9), (5, vI b1), (6, vI m1), (7, vI i), (8, vI (pin mf l i 4 x9 y9))] [] _ _ _
        refine st_iload C dX8_mostCommonArea_29 rfl ?_
        refine st_iload C dX8_mostCommonArea_31 rfl ?_
        refine st_icmp_le (tgt := 44) C dX8_mostCommonArea_33 (by decide) (fun c_33 => ?_) (fun c_33 => ?_)
        · refine st_iinc C dX8_mostCommonArea_44 rfl (by decide) rfl ⟨(by omega), (by omega)⟩ ?_
          show T x 47 [(0, vR m), (1, vI 2), (2, vI l), (3, vI x9), (4, vI y9), (5, vI b1), (6, vI m1), (7, vI (i + 1)), (8, vI (pin mf l i 4 x9 y9))] [] _ _ _
          refine st_goto (tgt := 9) C dX8_mostCommonArea_47 (by decide) ?_
          refine st_sub [0, 1, 2, 3, 4, 5, 6, 7] rfl ?_
          exact ih_9 b1 m1 (i + 1) (by omega) (by omega) (by first | exact mcb_t (F := (fun a => pin mf l a 4 x9 y9)) g1 g3 (by omega) | exact mcb_f (F := (fun a => pin mf l a 4 x9 y9)) g1 g3 (by omega)) (by omega)
        · refine st_iload C dX8_mostCommonArea_36 rfl ?_
          refine st_istore C dX8_mostCommonArea_38 (by decide) rfl ?_
          show T x 40 [(0, vR m), (1, vI 2), (2, vI l), (3, vI x9), (4, vI y9), (5, vI i), (6, vI m1), (7, vI i), (8, vI (pin mf l i 4 x9 y9))] [] _ _ _
          refine st_iload C dX8_mostCommonArea_40 rfl ?_
          refine st_istore C dX8_mostCommonArea_42 (by decide) rfl ?_
          show T x 44 [(0, vR m), (1, vI 2), (2, vI l), (3, vI x9), (4, vI y9), (5, vI i), (6, vI (pin mf l i 4 x9 y9)), (7, vI i), (8, vI (pin mf l i 4 x9 y9))] [] _ _ _
          refine st_iinc C dX8_mostCommonArea_44 rfl (by decide) rfl ⟨(by omega), (by omega)⟩ ?_
          show T x 47 [(0, vR m), (1, vI 2), (2, vI l), (3, vI x9), (4, vI y9), (5, vI i), (6, vI (pin mf l i 4 x9 y9)), (7, vI (i + 1)), (8, vI (pin mf l i 4 x9 y9))] [] _ _ _
          refine st_goto (tgt := 9) C dX8_mostCommonArea_47 (by decide) ?_
          refine st_sub [0, 1, 2, 3, 4, 5, 6, 7] rfl ?_
          exact ih_9 i (pin mf l i 4 x9 y9) (i + 1) (by omega) (by omega) (by first | exact mcb_t (F := (fun a => pin mf l a 4 x9 y9)) g1 g3 (by omega) | exact mcb_f (F := (fun a => pin mf l a 4 x9 y9)) g1 g3 (by omega)) (by omega)
  exact loop_9 _ 0 0 0 (by omega) (by omega) (mcb_0) (Nat.lt_succ_self _)
set_option maxRecDepth 20000 in
set_option maxHeartbeats 4000000 in
theorem k_mca3 {g : Gx} {h : HP} {m : Nat} {mf : Int → Int} {l x9 y9 : Int} (hm : h m = some (oI 304 mf)) (hl : 0 ≤ l ∧ l ≤ 2) (hx : 0 ≤ x9 ∧ x9 ≤ 0) (hy : 0 ≤ y9 ∧ y9 ≤ 0) : Ct g yX8_mostCommonArea (.code yX8_mostCommonArea cX8_mostCommonArea 9 (some .int)) 3 0 0 [vR m, vI 3, vI l, vI x9, vI y9] h (Rt (some (vI (mcaV mf l 8 x9 y9))) h) := by
  refine Ct.of (by decide) (Nat.le_of_ble_eq_true rfl) (fun x hg C F => ?_)
  subst hg
  show T x 0 [(0, vR m), (1, vI 3), (2, vI l), (3, vI x9), (4, vI y9)] [] h 0 0
  refine st_iconst C dX8_mostCommonArea_0 (by decide) ?_
  refine st_istore C dX8_mostCommonArea_1 (by decide) rfl ?_
  show T x 3 [(0, vR m), (1, vI 3), (2, vI l), (3, vI x9), (4, vI y9), (5, vI 0)] [] _ _ _
  refine st_iconst C dX8_mostCommonArea_3 (by decide) ?_
  refine st_istore C dX8_mostCommonArea_4 (by decide) rfl ?_
  show T x 6 [(0, vR m), (1, vI 3), (2, vI l), (3, vI x9), (4, vI y9), (5, vI 0), (6, vI 0)] [] _ _ _
  refine st_iconst C dX8_mostCommonArea_6 (by decide) ?_
  refine st_istore C dX8_mostCommonArea_7 (by decide) rfl ?_
  show T x 9 [(0, vR m), (1, vI 3), (2, vI l), (3, vI x9), (4, vI y9), (5, vI 0), (6, vI 0), (7, vI 0)] [] _ _ _
  have loop_9 : ∀ (n_9 : Nat) (b1 : Int) (m1 : Int) (i : Int), (0 ≤ i) → (i ≤ 10) → (b1 = (mcb (fun a => pin mf l a 8 x9 y9) i.toNat).1 ∧ m1 = (mcb (fun a => pin mf l a 8 x9 y9) i.toNat).2) → (10 - i).toNat < n_9 → T x 9 [(0, vR m), (1, vI 3), (2, vI l), (3, vI x9), (4, vI y9), (5, vI b1), (6, vI m1), (7, vI i)] [] h 0 0 := by
    intro n_9
    induction n_9 with
    | zero => intro b1 m1 i g1 g2 g3 hm_9; exact absurd hm_9 (Nat.not_lt_zero _)
    | succ n_9 ih_9 =>
      intro b1 m1 i g1 g2 g3 hm_9
      refine st_iload C dX8_mostCommonArea_9 rfl ?_
      refine st_bipush C dX8_mostCommonArea_11 (by decide) (by decide) ?_
      refine st_icmp_gt (tgt := 50) C dX8_mostCommonArea_13 (by decide) (fun c_13 => ?_) (fun c_13 => ?_)
      · refine st_iload C dX8_mostCommonArea_50 rfl ?_
        exact st_ireturn C F dX8_mostCommonArea_52 rfl (rt_i (mcbE g3 (by omega)) rfl) (by omega) (by omega)
      · refine st_aload_n C 0 dX8_mostCommonArea_16 rfl rfl ?_
        refine st_iload_n C 2 dX8_mostCommonArea_17 rfl rfl ?_
        refine st_iload C dX8_mostCommonArea_18 rfl ?_
        refine st_iload_n C 1 dX8_mostCommonArea_20 rfl rfl ?_
        refine st_iload_n C 3 dX8_mostCommonArea_21 rfl rfl ?_
        refine st_iload C dX8_mostCommonArea_22 rfl ?_
        refine st_callS (st := []) C dX8_mostCommonArea_24 [vR m, vI l, vI i, vI 3, vI x9, vI y9] (k_placesIn3 (f := mf) (l := l) (a9 := i) (x9 := x9) (y9 := y9) hm (by omega) (by omega) (by omega)) w_X8_48 rfl (by decide) (by decide) (by omega) (by omega) (Nat.le_of_ble_eq_true rfl) (ko_rt ?_)
        show T x 27 [(0, vR m), (1, vI 3), (2, vI l), (3, vI x9), (4, vI y9), (5, vI b1), (6, vI m1), (7, vI i)] [vI (pin mf l i 8 x9 y9)] _ _ _
        refine st_istore C dX8_mostCommonArea_27 (by decide) rfl ?_
        show T x 29 [(0, vR m), (1, vI 3), (2, vI l), (3, vI x9), (4, vI y9), (5, vI b1), (6, vI m1), (7, vI i), (8, vI (pin mf l i 8 x9 y9))] [] _ _ _
        refine st_iload C dX8_mostCommonArea_29 rfl ?_
        refine st_iload C dX8_mostCommonArea_31 rfl ?_
        refine st_icmp_le (tgt := 44) C dX8_mostCommonArea_33 (by decide) (fun c_33 => ?_) (fun c_33 => ?_)
        · refine st_iinc C dX8_mostCommonArea_44 rfl (by decide) rfl ⟨(by omega), (by omega)⟩ ?_
          show T x 47 [(0, vR m), (1, vI 3), (2, vI l), (3, vI x9), (4, vI y9), (5, vI b1), (6, vI m1), (7, vI (i + 1)), (8, vI (pin mf l i 8 x9 y9))] [] _ _ _
          refine st_goto (tgt := 9) C dX8_mostCommonArea_47 (by decide) ?_
          refine st_sub [0, 1, 2, 3, 4, 5, 6, 7] rfl ?_
          exact ih_9 b1 m1 (i + 1) (by omega) (by omega) (by first | exact mcb_t (F := (fun a => pin mf l a 8 x9 y9)) g1 g3 (by omega) | exact mcb_f (F := (fun a => pin mf l a 8 x9 y9)) g1 g3 (by omega)) (by omega)
        · refine st_iload C dX8_mostCommonArea_36 rfl ?_
          refine st_istore C dX8_mostCommonArea_38 (by decide) rfl ?_
          show T x 40 [(0, vR m), (1, vI 3), (2, vI l), (3, vI x9), (4, vI y9), (5, vI i), (6, vI m1), (7, vI i), (8, vI (pin mf l i 8 x9 y9))] [] _ _ _
          refine st_iload C dX8_mostCommonArea_40 rfl ?_
          refine st_istore C dX8_mostCommonArea_42 (by decide) rfl ?_
          show T x 44 [(0, vR m), (1, vI 3), (2, vI l), (3, vI x9), (4, vI y9), (5, vI i), (6, vI (pin mf l i 8 x9 y9)), (7, vI i), (8, vI (pin mf l i 8 x9 y9))] [] _ _ _
          refine st_iinc C dX8_mostCommonArea_44 rfl (by decide) rfl ⟨(by omega), (by omega)⟩ ?_
          show T x 47 [(0, vR m), (1, vI 3), (2, vI l), (3, vI x9), (4, vI y9), (5, vI i), (6, vI (pin mf l i 8 x9 y9)), (7, vI (i + 1)), (8, vI (pin mf l i 8 x9 y9))] [] _ _ _
          refine st_goto (tgt := 9) C dX8_mostCommonArea_47 (by decide) ?_
          refine st_sub [0, 1, 2, 3, 4, 5, 6, 7] rfl ?_
          exact ih_9 i (pin mf l i 8 x9 y9) (i + 1) (by omega) (by omega) (by first | exact mcb_t (F := (fun a => pin mf l a 8 x9 y9)) g1 g3 (by omega) | exact mcb_f (F := (fun a => pin mf l a 8 x9 y9)) g1 g3 (by omega)) (by omega)
  exact loop_9 _ 0 0 0 (by omega) (by omega) (mcb_0) (Nat.lt_succ_self _)
set_option maxRecDepth 20000 in
set_option maxHeartbeats 4000000 in
theorem k_holds0_t {g : Gx} {h : HP} {t A : Nat} {mk : Int} {af : Int → Int} {l x9 y9 : Int} (ht : h t = some (oO 7 [vI mk, vR A])) (hA : h A = some (oI 255 af)) (hl : 0 ≤ l ∧ l ≤ 2) (hx : 0 ≤ x9 ∧ x9 ≤ 7) (hy : 0 ≤ y9 ∧ y9 ≤ 7) (hP : af (85 * l + 0 + 8 * y9 + x9) ≠ -1) : Ct g yX8_holds (.code yX8_holds cX8_holds 6 (some .boolean)) 2 0 0 [vR t, vI 0, vI l, vI x9, vI y9] h (Rt (some (vI 1)) h) := by
  refine Ct.of (by decide) (Nat.le_of_ble_eq_true rfl) (fun x hg C F => ?_)
  subst hg
  show T x 0 [(0, vR t), (1, vI 0), (2, vI l), (3, vI x9), (4, vI y9)] [] h 0 0
  refine st_iload_n C 1 dX8_holds_0 rfl rfl ?_
  refine st_iload_n C 2 dX8_holds_1 rfl rfl ?_
  refine st_iload_n C 3 dX8_holds_2 rfl rfl ?_
  refine st_iload C dX8_holds_3 rfl ?_
  refine st_callS (st := []) C dX8_holds_5 [vI 0, vI l, vI x9, vI y9] (k_slotOf0 (l := l) (x9 := x9) (y9 := y9) (by omega) (by omega) (by omega)) w_X8_40 rfl (by decide) (by decide) (by omega) (by omega) (Nat.le_of_ble_eq_true rfl) (ko_rt ?_)
  show T x 8 [(0, vR t), (1, vI 0), (2, vI l), (3, vI x9), (4, vI y9)] [vI (85 * l + 0 + 8 * y9 + x9)] _ _ _
  refine st_istore C dX8_holds_8 (by decide) rfl ?_
  show T x 10 [(0, vR t), (1, vI 0), (2, vI l), (3, vI x9), (4, vI y9), (5, vI (85 * l + 0 + 8 * y9 + x9))] [] _ _ _
  refine st_iload C dX8_holds_10 rfl ?_
  refine st_if_lt (tgt := 40) C dX8_holds_12 (by decide) (fun c_12 => by omega) (fun c_12 => ?_)
  refine st_iload C dX8_holds_15 rfl ?_
  refine st_aload_n C 0 dX8_holds_17 rfl rfl ?_
  refine st_getf C dX8_holds_18 fl_X8_15 ht rfl ?_
  refine st_alenI C dX8_holds_21 hA (by decide) ?_
  show T x 22 [(0, vR t), (1, vI 0), (2, vI l), (3, vI x9), (4, vI y9), (5, vI (85 * l + 0 + 8 * y9 + x9))] [vI 255, vI (85 * l + 0 + 8 * y9 + x9)] _ _ _
  refine st_icmp_ge (tgt := 40) C dX8_holds_22 (by decide) (fun c_22 => by omega) (fun c_22 => ?_)
  refine st_aload_n C 0 dX8_holds_25 rfl rfl ?_
  refine st_getf C dX8_holds_26 fl_X8_15 ht rfl ?_
  refine st_iload C dX8_holds_29 rfl ?_
  refine st_iald C dX8_holds_31 hA (by omega) (by omega) ?_
  refine st_iconst C dX8_holds_32 (by decide) ?_
  refine st_icmp_eq (tgt := 40) C dX8_holds_33 (by decide) (fun c_33 => ?_) (fun c_33 => ?_)
  · refine st_iconst C dX8_holds_40 (by decide) ?_
    exact st_zreturn C F dX8_holds_41 rfl (by omega) (rt_i (by first | rfl | omega) rfl) (by omega) (by omega)
  · refine st_iconst C dX8_holds_36 (by decide) ?_
    refine st_goto (tgt := 41) C dX8_holds_37 (by decide) ?_
    exact st_zreturn C F dX8_holds_41 rfl (by omega) (rt_i (by first | rfl | omega) rfl) (by omega) (by omega)
set_option maxRecDepth 20000 in
set_option maxHeartbeats 4000000 in
theorem k_holds0_f {g : Gx} {h : HP} {t A : Nat} {mk : Int} {af : Int → Int} {l x9 y9 : Int} (ht : h t = some (oO 7 [vI mk, vR A])) (hA : h A = some (oI 255 af)) (hl : 0 ≤ l ∧ l ≤ 2) (hx : 0 ≤ x9 ∧ x9 ≤ 7) (hy : 0 ≤ y9 ∧ y9 ≤ 7) (hP : ¬ (af (85 * l + 0 + 8 * y9 + x9) ≠ -1)) : Ct g yX8_holds (.code yX8_holds cX8_holds 6 (some .boolean)) 2 0 0 [vR t, vI 0, vI l, vI x9, vI y9] h (Rt (some (vI 0)) h) := by
  refine Ct.of (by decide) (Nat.le_of_ble_eq_true rfl) (fun x hg C F => ?_)
  subst hg
  show T x 0 [(0, vR t), (1, vI 0), (2, vI l), (3, vI x9), (4, vI y9)] [] h 0 0
  refine st_iload_n C 1 dX8_holds_0 rfl rfl ?_
  refine st_iload_n C 2 dX8_holds_1 rfl rfl ?_
  refine st_iload_n C 3 dX8_holds_2 rfl rfl ?_
  refine st_iload C dX8_holds_3 rfl ?_
  refine st_callS (st := []) C dX8_holds_5 [vI 0, vI l, vI x9, vI y9] (k_slotOf0 (l := l) (x9 := x9) (y9 := y9) (by omega) (by omega) (by omega)) w_X8_40 rfl (by decide) (by decide) (by omega) (by omega) (Nat.le_of_ble_eq_true rfl) (ko_rt ?_)
  show T x 8 [(0, vR t), (1, vI 0), (2, vI l), (3, vI x9), (4, vI y9)] [vI (85 * l + 0 + 8 * y9 + x9)] _ _ _
  refine st_istore C dX8_holds_8 (by decide) rfl ?_
  show T x 10 [(0, vR t), (1, vI 0), (2, vI l), (3, vI x9), (4, vI y9), (5, vI (85 * l + 0 + 8 * y9 + x9))] [] _ _ _
  refine st_iload C dX8_holds_10 rfl ?_
  refine st_if_lt (tgt := 40) C dX8_holds_12 (by decide) (fun c_12 => by omega) (fun c_12 => ?_)
  refine st_iload C dX8_holds_15 rfl ?_
  refine st_aload_n C 0 dX8_holds_17 rfl rfl ?_
  refine st_getf C dX8_holds_18 fl_X8_15 ht rfl ?_
  refine st_alenI C dX8_holds_21 hA (by decide) ?_
  show T x 22 [(0, vR t), (1, vI 0), (2, vI l), (3, vI x9), (4, vI y9), (5, vI (85 * l + 0 + 8 * y9 + x9))] [vI 255, vI (85 * l + 0 + 8 * y9 + x9)] _ _ _
  refine st_icmp_ge (tgt := 40) C dX8_holds_22 (by decide) (fun c_22 => by omega) (fun c_22 => ?_)
  refine st_aload_n C 0 dX8_holds_25 rfl rfl ?_
  refine st_getf C dX8_holds_26 fl_X8_15 ht rfl ?_
  refine st_iload C dX8_holds_29 rfl ?_
  refine st_iald C dX8_holds_31 hA (by omega) (by omega) ?_
  refine st_iconst C dX8_holds_32 (by decide) ?_
  refine st_icmp_eq (tgt := 40) C dX8_holds_33 (by decide) (fun c_33 => ?_) (fun c_33 => ?_)
  · refine st_iconst C dX8_holds_40 (by decide) ?_
    exact st_zreturn C F dX8_holds_41 rfl (by omega) (rt_i (by first | rfl | omega) rfl) (by omega) (by omega)
  · refine st_iconst C dX8_holds_36 (by decide) ?_
    refine st_goto (tgt := 41) C dX8_holds_37 (by decide) ?_
    exact st_zreturn C F dX8_holds_41 rfl (by omega) (rt_i (by first | rfl | omega) rfl) (by omega) (by omega)
set_option maxRecDepth 20000 in
set_option maxHeartbeats 4000000 in
theorem k_ask0_f {g : Gx} {h : HP} {t A m : Nat} {mk : Int} {af mf : Int → Int} {l x9 y9 : Int} (ht : h t = some (oO 7 [vI mk, vR A])) (hA : h A = some (oI 255 af)) (hm : h m = some (oI 304 mf)) (n1 : m ≠ t) (n2 : m ≠ A) (n3 : A ≠ t) (hl : 0 ≤ l ∧ l ≤ 2) (hx : 0 ≤ x9 ∧ x9 ≤ 7) (hy : 0 ≤ y9 ∧ y9 ≤ 7) (hP : ¬ (af (85 * l + 0 + 8 * y9 + x9) = -1)) : Ct g yX8_ask (.code yX8_ask cX8_ask 7 (some .int)) 4 0 0 [vR t, vR m, vI 0, vI l, vI x9, vI y9] h (Rt (some (vI (af (85 * l + 0 + 8 * y9 + x9)))) h) := by
  refine Ct.of (by decide) (Nat.le_of_ble_eq_true rfl) (fun x hg C F => ?_)
  subst hg
  show T x 0 [(0, vR t), (1, vR m), (2, vI 0), (3, vI l), (4, vI x9), (5, vI y9)] [] h 0 0
  refine st_iload_n C 2 dX8_ask_0 rfl rfl ?_
  refine st_iload_n C 3 dX8_ask_1 rfl rfl ?_
  refine st_iload C dX8_ask_2 rfl ?_
  refine st_iload C dX8_ask_4 rfl ?_
  refine st_callS (st := []) C dX8_ask_6 [vI 0, vI l, vI x9, vI y9] (k_slotOf0 (l := l) (x9 := x9) (y9 := y9) (by omega) (by omega) (by omega)) w_X8_40 rfl (by decide) (by decide) (by omega) (by omega) (Nat.le_of_ble_eq_true rfl) (ko_rt ?_)
  show T x 9 [(0, vR t), (1, vR m), (2, vI 0), (3, vI l), (4, vI x9), (5, vI y9)] [vI (85 * l + 0 + 8 * y9 + x9)] _ _ _
  refine st_istore C dX8_ask_9 (by decide) rfl ?_
  show T x 11 [(0, vR t), (1, vR m), (2, vI 0), (3, vI l), (4, vI x9), (5, vI y9), (6, vI (85 * l + 0 + 8 * y9 + x9))] [] _ _ _
  refine st_iload C dX8_ask_11 rfl ?_
  refine st_if_lt (tgt := 26) C dX8_ask_13 (by decide) (fun c_13 => by omega) (fun c_13 => ?_)
  refine st_iload C dX8_ask_16 rfl ?_
  refine st_aload_n C 0 dX8_ask_18 rfl rfl ?_
  refine st_getf C dX8_ask_19 fl_X8_15 ht rfl ?_
  refine st_alenI C dX8_ask_22 hA (by decide) ?_
  show T x 23 [(0, vR t), (1, vR m), (2, vI 0), (3, vI l), (4, vI x9), (5, vI y9), (6, vI (85 * l + 0 + 8 * y9 + x9))] [vI 255, vI (85 * l + 0 + 8 * y9 + x9)] _ _ _
  refine st_icmp_lt (tgt := 28) C dX8_ask_23 (by decide) (fun c_23 => ?_) (fun c_23 => by omega)
  refine st_aload_n C 0 dX8_ask_28 rfl rfl ?_
  refine st_getf C dX8_ask_29 fl_X8_15 ht rfl ?_
  refine st_iload C dX8_ask_32 rfl ?_
  refine st_iald C dX8_ask_34 hA (by omega) (by omega) ?_
  refine st_iconst C dX8_ask_35 (by decide) ?_
  refine st_icmp_ne (tgt := 66) C dX8_ask_36 (by decide) (fun c_36 => ?_) (fun c_36 => ?_)
  · refine st_aload_n C 0 dX8_ask_66 rfl rfl ?_
    refine st_getf C dX8_ask_67 fl_X8_15 ht rfl ?_
    refine st_iload C dX8_ask_70 rfl ?_
    refine st_iald C dX8_ask_72 hA (by omega) (by omega) ?_
    exact st_ireturn C F dX8_ask_73 rfl (by first | exact rt_i (by first | rfl | omega) rfl | exact absurd (by assumption) hP) (by omega) (by omega)
  · refine st_aload_n C 0 dX8_ask_39 rfl rfl ?_
    refine st_getf C dX8_ask_40 fl_X8_15 ht rfl ?_
    refine st_iload C dX8_ask_43 rfl ?_
    refine st_aload_n C 1 dX8_ask_45 rfl rfl ?_
    refine st_iload_n C 2 dX8_ask_46 rfl rfl ?_
    refine st_iload_n C 3 dX8_ask_47 rfl rfl ?_
    refine st_iload C dX8_ask_48 rfl ?_
    refine st_iload C dX8_ask_50 rfl ?_
    refine st_callS (st := [vI (85 * l + 0 + 8 * y9 + x9), vR A]) C dX8_ask_52 [vR m, vI 0, vI l, vI x9, vI y9] (k_mca0 (mf := mf) (l := l) (x9 := x9) (y9 := y9) hm (by omega) (by omega) (by omega)) w_X8_44 rfl (by decide) (by decide) (by omega) (by omega) (Nat.le_of_ble_eq_true rfl) (ko_rt ?_)
    show T x 55 [(0, vR t), (1, vR m), (2, vI 0), (3, vI l), (4, vI x9), (5, vI y9), (6, vI (85 * l + 0 + 8 * y9 + x9))] [vI (mcaV mf l 1 x9 y9), vI (85 * l + 0 + 8 * y9 + x9), vR A] _ _ _
    refine st_iast C dX8_ask_55 hA (by omega) (by omega) ?_
    refine st_aload_n C 0 dX8_ask_56 rfl rfl ?_
    refine st_dup C dX8_ask_57 rfl ?_
    refine st_getf C dX8_ask_58 fl_X8_9 (hput_o (by omega) ht) rfl ?_
    refine st_iconst C dX8_ask_61 (by decide) ?_
    refine st_iadd C dX8_ask_62 ⟨(by omega), (by omega)⟩ ?_
    refine st_putf C dX8_ask_63 fp_X8_9 (fun q => by cases q) (hput_o (by omega) ht) (Nat.le_of_ble_eq_true rfl) fit_int ?_
    show T x 66 [(0, vR t), (1, vR m), (2, vI 0), (3, vI l), (4, vI x9), (5, vI y9), (6, vI (85 * l + 0 + 8 * y9 + x9))] [] (hput (hput h A (oI 255 (fput af (85 * l + 0 + 8 * y9 + x9) (mcaV mf l 1 x9 y9)))) t (oO 7 [vI (mk + 1), vR A])) _ _
    refine st_aload_n C 0 dX8_ask_66 rfl rfl ?_
    refine st_getf C dX8_ask_67 fl_X8_15 hput_s rfl ?_
    refine st_iload C dX8_ask_70 rfl ?_
    refine st_iald C dX8_ask_72 (hput_o (by omega) hput_s) (by omega) (by omega) ?_
    exact st_ireturn C F dX8_ask_73 rfl (by first | exact rt_i (by first | rfl | omega) rfl | exact absurd (by assumption) hP) (by omega) (by omega)
set_option maxRecDepth 20000 in
set_option maxHeartbeats 4000000 in
theorem k_ask0_t {g : Gx} {h : HP} {t A m : Nat} {mk : Int} {af mf : Int → Int} {l x9 y9 : Int} (ht : h t = some (oO 7 [vI mk, vR A])) (hA : h A = some (oI 255 af)) (hm : h m = some (oI 304 mf)) (n1 : m ≠ t) (n2 : m ≠ A) (n3 : A ≠ t) (hl : 0 ≤ l ∧ l ≤ 2) (hx : 0 ≤ x9 ∧ x9 ≤ 7) (hy : 0 ≤ y9 ∧ y9 ≤ 7) (hP : af (85 * l + 0 + 8 * y9 + x9) = -1) (hk : 0 ≤ mk ∧ mk < 1000000) : Ct g yX8_ask (.code yX8_ask cX8_ask 7 (some .int)) 4 0 0 [vR t, vR m, vI 0, vI l, vI x9, vI y9] h (Rt (some (vI (mcaV mf l 1 x9 y9))) (hput (hput h A (oI 255 (fput af (85 * l + 0 + 8 * y9 + x9) (mcaV mf l 1 x9 y9)))) t (oO 7 [vI (mk + 1), vR A]))) := by
  refine Ct.of (by decide) (Nat.le_of_ble_eq_true rfl) (fun x hg C F => ?_)
  subst hg
  show T x 0 [(0, vR t), (1, vR m), (2, vI 0), (3, vI l), (4, vI x9), (5, vI y9)] [] h 0 0
  refine st_iload_n C 2 dX8_ask_0 rfl rfl ?_
  refine st_iload_n C 3 dX8_ask_1 rfl rfl ?_
  refine st_iload C dX8_ask_2 rfl ?_
  refine st_iload C dX8_ask_4 rfl ?_
  refine st_callS (st := []) C dX8_ask_6 [vI 0, vI l, vI x9, vI y9] (k_slotOf0 (l := l) (x9 := x9) (y9 := y9) (by omega) (by omega) (by omega)) w_X8_40 rfl (by decide) (by decide) (by omega) (by omega) (Nat.le_of_ble_eq_true rfl) (ko_rt ?_)
  show T x 9 [(0, vR t), (1, vR m), (2, vI 0), (3, vI l), (4, vI x9), (5, vI y9)] [vI (85 * l + 0 + 8 * y9 + x9)] _ _ _
  refine st_istore C dX8_ask_9 (by decide) rfl ?_
  show T x 11 [(0, vR t), (1, vR m), (2, vI 0), (3, vI l), (4, vI x9), (5, vI y9), (6, vI (85 * l + 0 + 8 * y9 + x9))] [] _ _ _
  refine st_iload C dX8_ask_11 rfl ?_
  refine st_if_lt (tgt := 26) C dX8_ask_13 (by decide) (fun c_13 => by omega) (fun c_13 => ?_)
  refine st_iload C dX8_ask_16 rfl ?_
  refine st_aload_n C 0 dX8_ask_18 rfl rfl ?_
  refine st_getf C dX8_ask_19 fl_X8_15 ht rfl ?_
  refine st_alenI C dX8_ask_22 hA (by decide) ?_
  show T x 23 [(0, vR t), (1, vR m), (2, vI 0), (3, vI l), (4, vI x9), (5, vI y9), (6, vI (85 * l + 0 + 8 * y9 + x9))] [vI 255, vI (85 * l + 0 + 8 * y9 + x9)] _ _ _
  refine st_icmp_lt (tgt := 28) C dX8_ask_23 (by decide) (fun c_23 => ?_) (fun c_23 => by omega)
  refine st_aload_n C 0 dX8_ask_28 rfl rfl ?_
  refine st_getf C dX8_ask_29 fl_X8_15 ht rfl ?_
  refine st_iload C dX8_ask_32 rfl ?_
  refine st_iald C dX8_ask_34 hA (by omega) (by omega) ?_
  refine st_iconst C dX8_ask_35 (by decide) ?_
  refine st_icmp_ne (tgt := 66) C dX8_ask_36 (by decide) (fun c_36 => ?_) (fun c_36 => ?_)
  · refine st_aload_n C 0 dX8_ask_66 rfl rfl ?_
    refine st_getf C dX8_ask_67 fl_X8_15 ht rfl ?_
    refine st_iload C dX8_ask_70 rfl ?_
    refine st_iald C dX8_ask_72 hA (by omega) (by omega) ?_
    exact st_ireturn C F dX8_ask_73 rfl (rt_i (by first | exact fput_s | omega) (by first | rfl | omega)) (by omega) (by omega)
  · refine st_aload_n C 0 dX8_ask_39 rfl rfl ?_
    refine st_getf C dX8_ask_40 fl_X8_15 ht rfl ?_
    refine st_iload C dX8_ask_43 rfl ?_
    refine st_aload_n C 1 dX8_ask_45 rfl rfl ?_
    refine st_iload_n C 2 dX8_ask_46 rfl rfl ?_
    refine st_iload_n C 3 dX8_ask_47 rfl rfl ?_
    refine st_iload C dX8_ask_48 rfl ?_
    refine st_iload C dX8_ask_50 rfl ?_
    refine st_callS (st := [vI (85 * l + 0 + 8 * y9 + x9), vR A]) C dX8_ask_52 [vR m, vI 0, vI l, vI x9, vI y9] (k_mca0 (mf := mf) (l := l) (x9 := x9) (y9 := y9) hm (by omega) (by omega) (by omega)) w_X8_44 rfl (by decide) (by decide) (by omega) (by omega) (Nat.le_of_ble_eq_true rfl) (ko_rt ?_)
    show T x 55 [(0, vR t), (1, vR m), (2, vI 0), (3, vI l), (4, vI x9), (5, vI y9), (6, vI (85 * l + 0 + 8 * y9 + x9))] [vI (mcaV mf l 1 x9 y9), vI (85 * l + 0 + 8 * y9 + x9), vR A] _ _ _
    refine st_iast C dX8_ask_55 hA (by omega) (by omega) ?_
    refine st_aload_n C 0 dX8_ask_56 rfl rfl ?_
    refine st_dup C dX8_ask_57 rfl ?_
    refine st_getf C dX8_ask_58 fl_X8_9 (hput_o (by omega) ht) rfl ?_
    refine st_iconst C dX8_ask_61 (by decide) ?_
    refine st_iadd C dX8_ask_62 ⟨(by omega), (by omega)⟩ ?_
    refine st_putf C dX8_ask_63 fp_X8_9 (fun q => by cases q) (hput_o (by omega) ht) (Nat.le_of_ble_eq_true rfl) fit_int ?_
    show T x 66 [(0, vR t), (1, vR m), (2, vI 0), (3, vI l), (4, vI x9), (5, vI y9), (6, vI (85 * l + 0 + 8 * y9 + x9))] [] (hput (hput h A (oI 255 (fput af (85 * l + 0 + 8 * y9 + x9) (mcaV mf l 1 x9 y9)))) t (oO 7 [vI (mk + 1), vR A])) _ _
    refine st_aload_n C 0 dX8_ask_66 rfl rfl ?_
    refine st_getf C dX8_ask_67 fl_X8_15 hput_s rfl ?_
    refine st_iload C dX8_ask_70 rfl ?_
    refine st_iald C dX8_ask_72 (hput_o (by omega) hput_s) (by omega) (by omega) ?_
    exact st_ireturn C F dX8_ask_73 rfl (rt_i (by first | exact fput_s | omega) (by first | rfl | omega)) (by omega) (by omega)
set_option maxRecDepth 20000 in
set_option maxHeartbeats 4000000 in
theorem k_holds1_t {g : Gx} {h : HP} {t A : Nat} {mk : Int} {af : Int → Int} {l x9 y9 : Int} (ht : h t = some (oO 7 [vI mk, vR A])) (hA : h A = some (oI 255 af)) (hl : 0 ≤ l ∧ l ≤ 2) (hx : 0 ≤ x9 ∧ x9 ≤ 3) (hy : 0 ≤ y9 ∧ y9 ≤ 3) (hP : af (85 * l + 64 + 4 * y9 + x9) ≠ -1) : Ct g yX8_holds (.code yX8_holds cX8_holds 6 (some .boolean)) 2 0 0 [vR t, vI 1, vI l, vI x9, vI y9] h (Rt (some (vI 1)) h) := by
  refine Ct.of (by decide) (Nat.le_of_ble_eq_true rfl) (fun x hg C F => ?_)
  subst hg
  show T x 0 [(0, vR t), (1, vI 1), (2, vI l), (3, vI x9), (4, vI y9)] [] h 0 0
  refine st_iload_n C 1 dX8_holds_0 rfl rfl ?_
  refine st_iload_n C 2 dX8_holds_1 rfl rfl ?_
  refine st_iload_n C 3 dX8_holds_2 rfl rfl ?_
  refine st_iload C dX8_holds_3 rfl ?_
  refine st_callS (st := []) C dX8_holds_5 [vI 1, vI l, vI x9, vI y9] (k_slotOf1 (l := l) (x9 := x9) (y9 := y9) (by omega) (by omega) (by omega)) w_X8_40 rfl (by decide) (by decide) (by omega) (by omega) (Nat.le_of_ble_eq_true rfl) (ko_rt ?_)
  show T x 8 [(0, vR t), (1, vI 1), (2, vI l), (3, vI x9), (4, vI y9)] [vI (85 * l + 64 + 4 * y9 + x9)] _ _ _
  refine st_istore C dX8_holds_8 (by decide) rfl ?_
  show T x 10 [(0, vR t), (1, vI 1), (2, vI l), (3, vI x9), (4, vI y9), (5, vI (85 * l + 64 + 4 * y9 + x9))] [] _ _ _
  refine st_iload C dX8_holds_10 rfl ?_
  refine st_if_lt (tgt := 40) C dX8_holds_12 (by decide) (fun c_12 => by omega) (fun c_12 => ?_)
  refine st_iload C dX8_holds_15 rfl ?_
  refine st_aload_n C 0 dX8_holds_17 rfl rfl ?_
  refine st_getf C dX8_holds_18 fl_X8_15 ht rfl ?_
  refine st_alenI C dX8_holds_21 hA (by decide) ?_
  show T x 22 [(0, vR t), (1, vI 1), (2, vI l), (3, vI x9), (4, vI y9), (5, vI (85 * l + 64 + 4 * y9 + x9))] [vI 255, vI (85 * l + 64 + 4 * y9 + x9)] _ _ _
  refine st_icmp_ge (tgt := 40) C dX8_holds_22 (by decide) (fun c_22 => by omega) (fun c_22 => ?_)
  refine st_aload_n C 0 dX8_holds_25 rfl rfl ?_
  refine st_getf C dX8_holds_26 fl_X8_15 ht rfl ?_
  refine st_iload C dX8_holds_29 rfl ?_
  refine st_iald C dX8_holds_31 hA (by omega) (by omega) ?_
  refine st_iconst C dX8_holds_32 (by decide) ?_
  refine st_icmp_eq (tgt := 40) C dX8_holds_33 (by decide) (fun c_33 => ?_) (fun c_33 => ?_)
  · refine st_iconst C dX8_holds_40 (by decide) ?_
    exact st_zreturn C F dX8_holds_41 rfl (by omega) (rt_i (by first | rfl | omega) rfl) (by omega) (by omega)
  · refine st_iconst C dX8_holds_36 (by decide) ?_
    refine st_goto (tgt := 41) C dX8_holds_37 (by decide) ?_
    exact st_zreturn C F dX8_holds_41 rfl (by omega) (rt_i (by first | rfl | omega) rfl) (by omega) (by omega)
set_option maxRecDepth 20000 in
set_option maxHeartbeats 4000000 in
theorem k_holds1_f {g : Gx} {h : HP} {t A : Nat} {mk : Int} {af : Int → Int} {l x9 y9 : Int} (ht : h t = some (oO 7 [vI mk, vR A])) (hA : h A = some (oI 255 af)) (hl : 0 ≤ l ∧ l ≤ 2) (hx : 0 ≤ x9 ∧ x9 ≤ 3) (hy : 0 ≤ y9 ∧ y9 ≤ 3) (hP : ¬ (af (85 * l + 64 + 4 * y9 + x9) ≠ -1)) : Ct g yX8_holds (.code yX8_holds cX8_holds 6 (some .boolean)) 2 0 0 [vR t, vI 1, vI l, vI x9, vI y9] h (Rt (some (vI 0)) h) := by
  refine Ct.of (by decide) (Nat.le_of_ble_eq_true rfl) (fun x hg C F => ?_)
  subst hg
  show T x 0 [(0, vR t), (1, vI 1), (2, vI l), (3, vI x9), (4, vI y9)] [] h 0 0
  refine st_iload_n C 1 dX8_holds_0 rfl rfl ?_
  refine st_iload_n C 2 dX8_holds_1 rfl rfl ?_
  refine st_iload_n C 3 dX8_holds_2 rfl rfl ?_
  refine st_iload C dX8_holds_3 rfl ?_
  refine st_callS (st := []) C dX8_holds_5 [vI 1, vI l, vI x9, vI y9] (k_slotOf1 (l := l) (x9 := x9) (y9 := y9) (by omega) (by omega) (by omega)) w_X8_40 rfl (by decide) (by decide) (by omega) (by omega) (Nat.le_of_ble_eq_true rfl) (ko_rt ?_)
  show T x 8 [(0, vR t), (1, vI 1), (2, vI l), (3, vI x9), (4, vI y9)] [vI (85 * l + 64 + 4 * y9 + x9)] _ _ _
  refine st_istore C dX8_holds_8 (by decide) rfl ?_
  show T x 10 [(0, vR t), (1, vI 1), (2, vI l), (3, vI x9), (4, vI y9), (5, vI (85 * l + 64 + 4 * y9 + x9))] [] _ _ _
  refine st_iload C dX8_holds_10 rfl ?_
  refine st_if_lt (tgt := 40) C dX8_holds_12 (by decide) (fun c_12 => by omega) (fun c_12 => ?_)
  refine st_iload C dX8_holds_15 rfl ?_
  refine st_aload_n C 0 dX8_holds_17 rfl rfl ?_
  refine st_getf C dX8_holds_18 fl_X8_15 ht rfl ?_
  refine st_alenI C dX8_holds_21 hA (by decide) ?_
  show T x 22 [(0, vR t), (1, vI 1), (2, vI l), (3, vI x9), (4, vI y9), (5, vI (85 * l + 64 + 4 * y9 + x9))] [vI 255, vI (85 * l + 64 + 4 * y9 + x9)] _ _ _
  refine st_icmp_ge (tgt := 40) C dX8_holds_22 (by decide) (fun c_22 => by omega) (fun c_22 => ?_)
  refine st_aload_n C 0 dX8_holds_25 rfl rfl ?_
  refine st_getf C dX8_holds_26 fl_X8_15 ht rfl ?_
  refine st_iload C dX8_holds_29 rfl ?_
  refine st_iald C dX8_holds_31 hA (by omega) (by omega) ?_
  refine st_iconst C dX8_holds_32 (by decide) ?_
  refine st_icmp_eq (tgt := 40) C dX8_holds_33 (by decide) (fun c_33 => ?_) (fun c_33 => ?_)
  · refine st_iconst C dX8_holds_40 (by decide) ?_
    exact st_zreturn C F dX8_holds_41 rfl (by omega) (rt_i (by first | rfl | omega) rfl) (by omega) (by omega)
  · refine st_iconst C dX8_holds_36 (by decide) ?_
    refine st_goto (tgt := 41) C dX8_holds_37 (by decide) ?_
    exact st_zreturn C F dX8_holds_41 rfl (by omega) (rt_i (by first | rfl | omega) rfl) (by omega) (by omega)
set_option maxRecDepth 20000 in
set_option maxHeartbeats 4000000 in
theorem k_ask1_f {g : Gx} {h : HP} {t A m : Nat} {mk : Int} {af mf : Int → Int} {l x9 y9 : Int} (ht : h t = some (oO 7 [vI mk, vR A])) (hA : h A = some (oI 255 af)) (hm : h m = some (oI 304 mf)) (n1 : m ≠ t) (n2 : m ≠ A) (n3 : A ≠ t) (hl : 0 ≤ l ∧ l ≤ 2) (hx : 0 ≤ x9 ∧ x9 ≤ 3) (hy : 0 ≤ y9 ∧ y9 ≤ 3) (hP : ¬ (af (85 * l + 64 + 4 * y9 + x9) = -1)) : Ct g yX8_ask (.code yX8_ask cX8_ask 7 (some .int)) 4 0 0 [vR t, vR m, vI 1, vI l, vI x9, vI y9] h (Rt (some (vI (af (85 * l + 64 + 4 * y9 + x9)))) h) := by
  refine Ct.of (by decide) (Nat.le_of_ble_eq_true rfl) (fun x hg C F => ?_)
  subst hg
  show T x 0 [(0, vR t), (1, vR m), (2, vI 1), (3, vI l), (4, vI x9), (5, vI y9)] [] h 0 0
  refine st_iload_n C 2 dX8_ask_0 rfl rfl ?_
  refine st_iload_n C 3 dX8_ask_1 rfl rfl ?_
  refine st_iload C dX8_ask_2 rfl ?_
  refine st_iload C dX8_ask_4 rfl ?_
  refine st_callS (st := []) C dX8_ask_6 [vI 1, vI l, vI x9, vI y9] (k_slotOf1 (l := l) (x9 := x9) (y9 := y9) (by omega) (by omega) (by omega)) w_X8_40 rfl (by decide) (by decide) (by omega) (by omega) (Nat.le_of_ble_eq_true rfl) (ko_rt ?_)
  show T x 9 [(0, vR t), (1, vR m), (2, vI 1), (3, vI l), (4, vI x9), (5, vI y9)] [vI (85 * l + 64 + 4 * y9 + x9)] _ _ _
  refine st_istore C dX8_ask_9 (by decide) rfl ?_
  show T x 11 [(0, vR t), (1, vR m), (2, vI 1), (3, vI l), (4, vI x9), (5, vI y9), (6, vI (85 * l + 64 + 4 * y9 + x9))] [] _ _ _
  refine st_iload C dX8_ask_11 rfl ?_
  refine st_if_lt (tgt := 26) C dX8_ask_13 (by decide) (fun c_13 => by omega) (fun c_13 => ?_)
  refine st_iload C dX8_ask_16 rfl ?_
  refine st_aload_n C 0 dX8_ask_18 rfl rfl ?_
  refine st_getf C dX8_ask_19 fl_X8_15 ht rfl ?_
  refine st_alenI C dX8_ask_22 hA (by decide) ?_
  show T x 23 [(0, vR t), (1, vR m), (2, vI 1), (3, vI l), (4, vI x9), (5, vI y9), (6, vI (85 * l + 64 + 4 * y9 + x9))] [vI 255, vI (85 * l + 64 + 4 * y9 + x9)] _ _ _
  refine st_icmp_lt (tgt := 28) C dX8_ask_23 (by decide) (fun c_23 => ?_) (fun c_23 => by omega)
  refine st_aload_n C 0 dX8_ask_28 rfl rfl ?_
  refine st_getf C dX8_ask_29 fl_X8_15 ht rfl ?_
  refine st_iload C dX8_ask_32 rfl ?_
  refine st_iald C dX8_ask_34 hA (by omega) (by omega) ?_
  refine st_iconst C dX8_ask_35 (by decide) ?_
  refine st_icmp_ne (tgt := 66) C dX8_ask_36 (by decide) (fun c_36 => ?_) (fun c_36 => ?_)
  · refine st_aload_n C 0 dX8_ask_66 rfl rfl ?_
    refine st_getf C dX8_ask_67 fl_X8_15 ht rfl ?_
    refine st_iload C dX8_ask_70 rfl ?_
    refine st_iald C dX8_ask_72 hA (by omega) (by omega) ?_
    exact st_ireturn C F dX8_ask_73 rfl (by first | exact rt_i (by first | rfl | omega) rfl | exact absurd (by assumption) hP) (by omega) (by omega)
  · refine st_aload_n C 0 dX8_ask_39 rfl rfl ?_
    refine st_getf C dX8_ask_40 fl_X8_15 ht rfl ?_
    refine st_iload C dX8_ask_43 rfl ?_
    refine st_aload_n C 1 dX8_ask_45 rfl rfl ?_
    refine st_iload_n C 2 dX8_ask_46 rfl rfl ?_
    refine st_iload_n C 3 dX8_ask_47 rfl rfl ?_
    refine st_iload C dX8_ask_48 rfl ?_
    refine st_iload C dX8_ask_50 rfl ?_
    refine st_callS (st := [vI (85 * l + 64 + 4 * y9 + x9), vR A]) C dX8_ask_52 [vR m, vI 1, vI l, vI x9, vI y9] (k_mca1 (mf := mf) (l := l) (x9 := x9) (y9 := y9) hm (by omega) (by omega) (by omega)) w_X8_44 rfl (by decide) (by decide) (by omega) (by omega) (Nat.le_of_ble_eq_true rfl) (ko_rt ?_)
    show T x 55 [(0, vR t), (1, vR m), (2, vI 1), (3, vI l), (4, vI x9), (5, vI y9), (6, vI (85 * l + 64 + 4 * y9 + x9))] [vI (mcaV mf l 2 x9 y9), vI (85 * l + 64 + 4 * y9 + x9), vR A] _ _ _
    refine st_iast C dX8_ask_55 hA (by omega) (by omega) ?_
    refine st_aload_n C 0 dX8_ask_56 rfl rfl ?_
    refine st_dup C dX8_ask_57 rfl ?_
    refine st_getf C dX8_ask_58 fl_X8_9 (hput_o (by omega) ht) rfl ?_
    refine st_iconst C dX8_ask_61 (by decide) ?_
    refine st_iadd C dX8_ask_62 ⟨(by omega), (by omega)⟩ ?_
    refine st_putf C dX8_ask_63 fp_X8_9 (fun q => by cases q) (hput_o (by omega) ht) (Nat.le_of_ble_eq_true rfl) fit_int ?_
    show T x 66 [(0, vR t), (1, vR m), (2, vI 1), (3, vI l), (4, vI x9), (5, vI y9), (6, vI (85 * l + 64 + 4 * y9 + x9))] [] (hput (hput h A (oI 255 (fput af (85 * l + 64 + 4 * y9 + x9) (mcaV mf l 2 x9 y9)))) t (oO 7 [vI (mk + 1), vR A])) _ _
    refine st_aload_n C 0 dX8_ask_66 rfl rfl ?_
    refine st_getf C dX8_ask_67 fl_X8_15 hput_s rfl ?_
    refine st_iload C dX8_ask_70 rfl ?_
    refine st_iald C dX8_ask_72 (hput_o (by omega) hput_s) (by omega) (by omega) ?_
    exact st_ireturn C F dX8_ask_73 rfl (by first | exact rt_i (by first | rfl | omega) rfl | exact absurd (by assumption) hP) (by omega) (by omega)
set_option maxRecDepth 20000 in
set_option maxHeartbeats 4000000 in
theorem k_ask1_t {g : Gx} {h : HP} {t A m : Nat} {mk : Int} {af mf : Int → Int} {l x9 y9 : Int} (ht : h t = some (oO 7 [vI mk, vR A])) (hA : h A = some (oI 255 af)) (hm : h m = some (oI 304 mf)) (n1 : m ≠ t) (n2 : m ≠ A) (n3 : A ≠ t) (hl : 0 ≤ l ∧ l ≤ 2) (hx : 0 ≤ x9 ∧ x9 ≤ 3) (hy : 0 ≤ y9 ∧ y9 ≤ 3) (hP : af (85 * l + 64 + 4 * y9 + x9) = -1) (hk : 0 ≤ mk ∧ mk < 1000000) : Ct g yX8_ask (.code yX8_ask cX8_ask 7 (some .int)) 4 0 0 [vR t, vR m, vI 1, vI l, vI x9, vI y9] h (Rt (some (vI (mcaV mf l 2 x9 y9))) (hput (hput h A (oI 255 (fput af (85 * l + 64 + 4 * y9 + x9) (mcaV mf l 2 x9 y9)))) t (oO 7 [vI (mk + 1), vR A]))) := by
  refine Ct.of (by decide) (Nat.le_of_ble_eq_true rfl) (fun x hg C F => ?_)
  subst hg
  show T x 0 [(0, vR t), (1, vR m), (2, vI 1), (3, vI l), (4, vI x9), (5, vI y9)] [] h 0 0
  refine st_iload_n C 2 dX8_ask_0 rfl rfl ?_
  refine st_iload_n C 3 dX8_ask_1 rfl rfl ?_
  refine st_iload C dX8_ask_2 rfl ?_
  refine st_iload C dX8_ask_4 rfl ?_
  refine st_callS (st := []) C dX8_ask_6 [vI 1, vI l, vI x9, vI y9] (k_slotOf1 (l := l) (x9 := x9) (y9 := y9) (by omega) (by omega) (by omega)) w_X8_40 rfl (by decide) (by decide) (by omega) (by omega) (Nat.le_of_ble_eq_true rfl) (ko_rt ?_)
  show T x 9 [(0, vR t), (1, vR m), (2, vI 1), (3, vI l), (4, vI x9), (5, vI y9)] [vI (85 * l + 64 + 4 * y9 + x9)] _ _ _
  refine st_istore C dX8_ask_9 (by decide) rfl ?_
  show T x 11 [(0, vR t), (1, vR m), (2, vI 1), (3, vI l), (4, vI x9), (5, vI y9), (6, vI (85 * l + 64 + 4 * y9 + x9))] [] _ _ _
  refine st_iload C dX8_ask_11 rfl ?_
  refine st_if_lt (tgt := 26) C dX8_ask_13 (by decide) (fun c_13 => by omega) (fun c_13 => ?_)
  refine st_iload C dX8_ask_16 rfl ?_
  refine st_aload_n C 0 dX8_ask_18 rfl rfl ?_
  refine st_getf C dX8_ask_19 fl_X8_15 ht rfl ?_
  refine st_alenI C dX8_ask_22 hA (by decide) ?_
  show T x 23 [(0, vR t), (1, vR m), (2, vI 1), (3, vI l), (4, vI x9), (5, vI y9), (6, vI (85 * l + 64 + 4 * y9 + x9))] [vI 255, vI (85 * l + 64 + 4 * y9 + x9)] _ _ _
  refine st_icmp_lt (tgt := 28) C dX8_ask_23 (by decide) (fun c_23 => ?_) (fun c_23 => by omega)
  refine st_aload_n C 0 dX8_ask_28 rfl rfl ?_
  refine st_getf C dX8_ask_29 fl_X8_15 ht rfl ?_
  refine st_iload C dX8_ask_32 rfl ?_
  refine st_iald C dX8_ask_34 hA (by omega) (by omega) ?_
  refine st_iconst C dX8_ask_35 (by decide) ?_
  refine st_icmp_ne (tgt := 66) C dX8_ask_36 (by decide) (fun c_36 => ?_) (fun c_36 => ?_)
  · refine st_aload_n C 0 dX8_ask_66 rfl rfl ?_
    refine st_getf C dX8_ask_67 fl_X8_15 ht rfl ?_
    refine st_iload C dX8_ask_70 rfl ?_
    refine st_iald C dX8_ask_72 hA (by omega) (by omega) ?_
    exact st_ireturn C F dX8_ask_73 rfl (rt_i (by first | exact fput_s | omega) (by first | rfl | omega)) (by omega) (by omega)
  · refine st_aload_n C 0 dX8_ask_39 rfl rfl ?_
    refine st_getf C dX8_ask_40 fl_X8_15 ht rfl ?_
    refine st_iload C dX8_ask_43 rfl ?_
    refine st_aload_n C 1 dX8_ask_45 rfl rfl ?_
    refine st_iload_n C 2 dX8_ask_46 rfl rfl ?_
    refine st_iload_n C 3 dX8_ask_47 rfl rfl ?_
    refine st_iload C dX8_ask_48 rfl ?_
    refine st_iload C dX8_ask_50 rfl ?_
    refine st_callS (st := [vI (85 * l + 64 + 4 * y9 + x9), vR A]) C dX8_ask_52 [vR m, vI 1, vI l, vI x9, vI y9] (k_mca1 (mf := mf) (l := l) (x9 := x9) (y9 := y9) hm (by omega) (by omega) (by omega)) w_X8_44 rfl (by decide) (by decide) (by omega) (by omega) (Nat.le_of_ble_eq_true rfl) (ko_rt ?_)
    show T x 55 [(0, vR t), (1, vR m), (2, vI 1), (3, vI l), (4, vI x9), (5, vI y9), (6, vI (85 * l + 64 + 4 * y9 + x9))] [vI (mcaV mf l 2 x9 y9), vI (85 * l + 64 + 4 * y9 + x9), vR A] _ _ _
    refine st_iast C dX8_ask_55 hA (by omega) (by omega) ?_
    refine st_aload_n C 0 dX8_ask_56 rfl rfl ?_
    refine st_dup C dX8_ask_57 rfl ?_
    refine st_getf C dX8_ask_58 fl_X8_9 (hput_o (by omega) ht) rfl ?_
    refine st_iconst C dX8_ask_61 (by decide) ?_
    refine st_iadd C dX8_ask_62 ⟨(by omega), (by omega)⟩ ?_
    refine st_putf C dX8_ask_63 fp_X8_9 (fun q => by cases q) (hput_o (by omega) ht) (Nat.le_of_ble_eq_true rfl) fit_int ?_
    show T x 66 [(0, vR t), (1, vR m), (2, vI 1), (3, vI l), (4, vI x9), (5, vI y9), (6, vI (85 * l + 64 + 4 * y9 + x9))] [] (hput (hput h A (oI 255 (fput af (85 * l + 64 + 4 * y9 + x9) (mcaV mf l 2 x9 y9)))) t (oO 7 [vI (mk + 1), vR A])) _ _
    refine st_aload_n C 0 dX8_ask_66 rfl rfl ?_
    refine st_getf C dX8_ask_67 fl_X8_15 hput_s rfl ?_
    refine st_iload C dX8_ask_70 rfl ?_
    refine st_iald C dX8_ask_72 (hput_o (by omega) hput_s) (by omega) (by omega) ?_
    exact st_ireturn C F dX8_ask_73 rfl (rt_i (by first | exact fput_s | omega) (by first | rfl | omega)) (by omega) (by omega)
set_option maxRecDepth 20000 in
set_option maxHeartbeats 4000000 in
theorem k_holds2_t {g : Gx} {h : HP} {t A : Nat} {mk : Int} {af : Int → Int} {l x9 y9 : Int} (ht : h t = some (oO 7 [vI mk, vR A])) (hA : h A = some (oI 255 af)) (hl : 0 ≤ l ∧ l ≤ 2) (hx : 0 ≤ x9 ∧ x9 ≤ 1) (hy : 0 ≤ y9 ∧ y9 ≤ 1) (hP : af (85 * l + 80 + 2 * y9 + x9) ≠ -1) : Ct g yX8_holds (.code yX8_holds cX8_holds 6 (some .boolean)) 2 0 0 [vR t, vI 2, vI l, vI x9, vI y9] h (Rt (some (vI 1)) h) := by
  refine Ct.of (by decide) (Nat.le_of_ble_eq_true rfl) (fun x hg C F => ?_)
  subst hg
  show T x 0 [(0, vR t), (1, vI 2), (2, vI l), (3, vI x9), (4, vI y9)] [] h 0 0
  refine st_iload_n C 1 dX8_holds_0 rfl rfl ?_
  refine st_iload_n C 2 dX8_holds_1 rfl rfl ?_
  refine st_iload_n C 3 dX8_holds_2 rfl rfl ?_
  refine st_iload C dX8_holds_3 rfl ?_
  refine st_callS (st := []) C dX8_holds_5 [vI 2, vI l, vI x9, vI y9] (k_slotOf2 (l := l) (x9 := x9) (y9 := y9) (by omega) (by omega) (by omega)) w_X8_40 rfl (by decide) (by decide) (by omega) (by omega) (Nat.le_of_ble_eq_true rfl) (ko_rt ?_)
  show T x 8 [(0, vR t), (1, vI 2), (2, vI l), (3, vI x9), (4, vI y9)] [vI (85 * l + 80 + 2 * y9 + x9)] _ _ _
  refine st_istore C dX8_holds_8 (by decide) rfl ?_
  show T x 10 [(0, vR t), (1, vI 2), (2, vI l), (3, vI x9), (4, vI y9), (5, vI (85 * l + 80 + 2 * y9 + x9))] [] _ _ _
  refine st_iload C dX8_holds_10 rfl ?_
  refine st_if_lt (tgt := 40) C dX8_holds_12 (by decide) (fun c_12 => by omega) (fun c_12 => ?_)
  refine st_iload C dX8_holds_15 rfl ?_
  refine st_aload_n C 0 dX8_holds_17 rfl rfl ?_
  refine st_getf C dX8_holds_18 fl_X8_15 ht rfl ?_
  refine st_alenI C dX8_holds_21 hA (by decide) ?_
  show T x 22 [(0, vR t), (1, vI 2), (2, vI l), (3, vI x9), (4, vI y9), (5, vI (85 * l + 80 + 2 * y9 + x9))] [vI 255, vI (85 * l + 80 + 2 * y9 + x9)] _ _ _
  refine st_icmp_ge (tgt := 40) C dX8_holds_22 (by decide) (fun c_22 => by omega) (fun c_22 => ?_)
  refine st_aload_n C 0 dX8_holds_25 rfl rfl ?_
  refine st_getf C dX8_holds_26 fl_X8_15 ht rfl ?_
  refine st_iload C dX8_holds_29 rfl ?_
  refine st_iald C dX8_holds_31 hA (by omega) (by omega) ?_
  refine st_iconst C dX8_holds_32 (by decide) ?_
  refine st_icmp_eq (tgt := 40) C dX8_holds_33 (by decide) (fun c_33 => ?_) (fun c_33 => ?_)
  · refine st_iconst C dX8_holds_40 (by decide) ?_
    exact st_zreturn C F dX8_holds_41 rfl (by omega) (rt_i (by first | rfl | omega) rfl) (by omega) (by omega)
  · refine st_iconst C dX8_holds_36 (by decide) ?_
    refine st_goto (tgt := 41) C dX8_holds_37 (by decide) ?_
    exact st_zreturn C F dX8_holds_41 rfl (by omega) (rt_i (by first | rfl | omega) rfl) (by omega) (by omega)
set_option maxRecDepth 20000 in
set_option maxHeartbeats 4000000 in
theorem k_holds2_f {g : Gx} {h : HP} {t A : Nat} {mk : Int} {af : Int → Int} {l x9 y9 : Int} (ht : h t = some (oO 7 [vI mk, vR A])) (hA : h A = some (oI 255 af)) (hl : 0 ≤ l ∧ l ≤ 2) (hx : 0 ≤ x9 ∧ x9 ≤ 1) (hy : 0 ≤ y9 ∧ y9 ≤ 1) (hP : ¬ (af (85 * l + 80 + 2 * y9 + x9) ≠ -1)) : Ct g yX8_holds (.code yX8_holds cX8_holds 6 (some .boolean)) 2 0 0 [vR t, vI 2, vI l, vI x9, vI y9] h (Rt (some (vI 0)) h) := by
  refine Ct.of (by decide) (Nat.le_of_ble_eq_true rfl) (fun x hg C F => ?_)
  subst hg
  show T x 0 [(0, vR t), (1, vI 2), (2, vI l), (3, vI x9), (4, vI y9)] [] h 0 0
  refine st_iload_n C 1 dX8_holds_0 rfl rfl ?_
  refine st_iload_n C 2 dX8_holds_1 rfl rfl ?_
  refine st_iload_n C 3 dX8_holds_2 rfl rfl ?_
  refine st_iload C dX8_holds_3 rfl ?_
  refine st_callS (st := []) C dX8_holds_5 [vI 2, vI l, vI x9, vI y9] (k_slotOf2 (l := l) (x9 := x9) (y9 := y9) (by omega) (by omega) (by omega)) w_X8_40 rfl (by decide) (by decide) (by omega) (by omega) (Nat.le_of_ble_eq_true rfl) (ko_rt ?_)
  show T x 8 [(0, vR t), (1, vI 2), (2, vI l), (3, vI x9), (4, vI y9)] [vI (85 * l + 80 + 2 * y9 + x9)] _ _ _
  refine st_istore C dX8_holds_8 (by decide) rfl ?_
  show T x 10 [(0, vR t), (1, vI 2), (2, vI l), (3, vI x9), (4, vI y9), (5, vI (85 * l + 80 + 2 * y9 + x9))] [] _ _ _
  refine st_iload C dX8_holds_10 rfl ?_
  refine st_if_lt (tgt := 40) C dX8_holds_12 (by decide) (fun c_12 => by omega) (fun c_12 => ?_)
  refine st_iload C dX8_holds_15 rfl ?_
  refine st_aload_n C 0 dX8_holds_17 rfl rfl ?_
  refine st_getf C dX8_holds_18 fl_X8_15 ht rfl ?_
  refine st_alenI C dX8_holds_21 hA (by decide) ?_
  show T x 22 [(0, vR t), (1, vI 2), (2, vI l), (3, vI x9), (4, vI y9), (5, vI (85 * l + 80 + 2 * y9 + x9))] [vI 255, vI (85 * l + 80 + 2 * y9 + x9)] _ _ _
  refine st_icmp_ge (tgt := 40) C dX8_holds_22 (by decide) (fun c_22 => by omega) (fun c_22 => ?_)
  refine st_aload_n C 0 dX8_holds_25 rfl rfl ?_
  refine st_getf C dX8_holds_26 fl_X8_15 ht rfl ?_
  refine st_iload C dX8_holds_29 rfl ?_
  refine st_iald C dX8_holds_31 hA (by omega) (by omega) ?_
  refine st_iconst C dX8_holds_32 (by decide) ?_
  refine st_icmp_eq (tgt := 40) C dX8_holds_33 (by decide) (fun c_33 => ?_) (fun c_33 => ?_)
  · refine st_iconst C dX8_holds_40 (by decide) ?_
    exact st_zreturn C F dX8_holds_41 rfl (by omega) (rt_i (by first | rfl | omega) rfl) (by omega) (by omega)
  · refine st_iconst C dX8_holds_36 (by decide) ?_
    refine st_goto (tgt := 41) C dX8_holds_37 (by decide) ?_
    exact st_zreturn C F dX8_holds_41 rfl (by omega) (rt_i (by first | rfl | omega) rfl) (by omega) (by omega)
set_option maxRecDepth 20000 in
set_option maxHeartbeats 4000000 in
theorem k_ask2_f {g : Gx} {h : HP} {t A m : Nat} {mk : Int} {af mf : Int → Int} {l x9 y9 : Int} (ht : h t = some (oO 7 [vI mk, vR A])) (hA : h A = some (oI 255 af)) (hm : h m = some (oI 304 mf)) (n1 : m ≠ t) (n2 : m ≠ A) (n3 : A ≠ t) (hl : 0 ≤ l ∧ l ≤ 2) (hx : 0 ≤ x9 ∧ x9 ≤ 1) (hy : 0 ≤ y9 ∧ y9 ≤ 1) (hP : ¬ (af (85 * l + 80 + 2 * y9 + x9) = -1)) : Ct g yX8_ask (.code yX8_ask cX8_ask 7 (some .int)) 4 0 0 [vR t, vR m, vI 2, vI l, vI x9, vI y9] h (Rt (some (vI (af (85 * l + 80 + 2 * y9 + x9)))) h) := by
  refine Ct.of (by decide) (Nat.le_of_ble_eq_true rfl) (fun x hg C F => ?_)
  subst hg
  show T x 0 [(0, vR t), (1, vR m), (2, vI 2), (3, vI l), (4, vI x9), (5, vI y9)] [] h 0 0
  refine st_iload_n C 2 dX8_ask_0 rfl rfl ?_
  refine st_iload_n C 3 dX8_ask_1 rfl rfl ?_
  refine st_iload C dX8_ask_2 rfl ?_
  refine st_iload C dX8_ask_4 rfl ?_
  refine st_callS (st := []) C dX8_ask_6 [vI 2, vI l, vI x9, vI y9] (k_slotOf2 (l := l) (x9 := x9) (y9 := y9) (by omega) (by omega) (by omega)) w_X8_40 rfl (by decide) (by decide) (by omega) (by omega) (Nat.le_of_ble_eq_true rfl) (ko_rt ?_)
  show T x 9 [(0, vR t), (1, vR m), (2, vI 2), (3, vI l), (4, vI x9), (5, vI y9)] [vI (85 * l + 80 + 2 * y9 + x9)] _ _ _
  refine st_istore C dX8_ask_9 (by decide) rfl ?_
  show T x 11 [(0, vR t), (1, vR m), (2, vI 2), (3, vI l), (4, vI x9), (5, vI y9), (6, vI (85 * l + 80 + 2 * y9 + x9))] [] _ _ _
  refine st_iload C dX8_ask_11 rfl ?_
  refine st_if_lt (tgt := 26) C dX8_ask_13 (by decide) (fun c_13 => by omega) (fun c_13 => ?_)
  refine st_iload C dX8_ask_16 rfl ?_
  refine st_aload_n C 0 dX8_ask_18 rfl rfl ?_
  refine st_getf C dX8_ask_19 fl_X8_15 ht rfl ?_
  refine st_alenI C dX8_ask_22 hA (by decide) ?_
  show T x 23 [(0, vR t), (1, vR m), (2, vI 2), (3, vI l), (4, vI x9), (5, vI y9), (6, vI (85 * l + 80 + 2 * y9 + x9))] [vI 255, vI (85 * l + 80 + 2 * y9 + x9)] _ _ _
  refine st_icmp_lt (tgt := 28) C dX8_ask_23 (by decide) (fun c_23 => ?_) (fun c_23 => by omega)
  refine st_aload_n C 0 dX8_ask_28 rfl rfl ?_
  refine st_getf C dX8_ask_29 fl_X8_15 ht rfl ?_
  refine st_iload C dX8_ask_32 rfl ?_
  refine st_iald C dX8_ask_34 hA (by omega) (by omega) ?_
  refine st_iconst C dX8_ask_35 (by decide) ?_
  refine st_icmp_ne (tgt := 66) C dX8_ask_36 (by decide) (fun c_36 => ?_) (fun c_36 => ?_)
  · refine st_aload_n C 0 dX8_ask_66 rfl rfl ?_
    refine st_getf C dX8_ask_67 fl_X8_15 ht rfl ?_
    refine st_iload C dX8_ask_70 rfl ?_
    refine st_iald C dX8_ask_72 hA (by omega) (by omega) ?_
    exact st_ireturn C F dX8_ask_73 rfl (by first | exact rt_i (by first | rfl | omega) rfl | exact absurd (by assumption) hP) (by omega) (by omega)
  · refine st_aload_n C 0 dX8_ask_39 rfl rfl ?_
    refine st_getf C dX8_ask_40 fl_X8_15 ht rfl ?_
    refine st_iload C dX8_ask_43 rfl ?_
    refine st_aload_n C 1 dX8_ask_45 rfl rfl ?_
    refine st_iload_n C 2 dX8_ask_46 rfl rfl ?_
    refine st_iload_n C 3 dX8_ask_47 rfl rfl ?_
    refine st_iload C dX8_ask_48 rfl ?_
    refine st_iload C dX8_ask_50 rfl ?_
    refine st_callS (st := [vI (85 * l + 80 + 2 * y9 + x9), vR A]) C dX8_ask_52 [vR m, vI 2, vI l, vI x9, vI y9] (k_mca2 (mf := mf) (l := l) (x9 := x9) (y9 := y9) hm (by omega) (by omega) (by omega)) w_X8_44 rfl (by decide) (by decide) (by omega) (by omega) (Nat.le_of_ble_eq_true rfl) (ko_rt ?_)
    show T x 55 [(0, vR t), (1, vR m), (2, vI 2), (3, vI l), (4, vI x9), (5, vI y9), (6, vI (85 * l + 80 + 2 * y9 + x9))] [vI (mcaV mf l 4 x9 y9), vI (85 * l + 80 + 2 * y9 + x9), vR A] _ _ _
    refine st_iast C dX8_ask_55 hA (by omega) (by omega) ?_
    refine st_aload_n C 0 dX8_ask_56 rfl rfl ?_
    refine st_dup C dX8_ask_57 rfl ?_
    refine st_getf C dX8_ask_58 fl_X8_9 (hput_o (by omega) ht) rfl ?_
    refine st_iconst C dX8_ask_61 (by decide) ?_
    refine st_iadd C dX8_ask_62 ⟨(by omega), (by omega)⟩ ?_
    refine st_putf C dX8_ask_63 fp_X8_9 (fun q => by cases q) (hput_o (by omega) ht) (Nat.le_of_ble_eq_true rfl) fit_int ?_
    show T x 66 [(0, vR t), (1, vR m), (2, vI 2), (3, vI l), (4, vI x9), (5, vI y9), (6, vI (85 * l + 80 + 2 * y9 + x9))] [] (hput (hput h A (oI 255 (fput af (85 * l + 80 + 2 * y9 + x9) (mcaV mf l 4 x9 y9)))) t (oO 7 [vI (mk + 1), vR A])) _ _
    refine st_aload_n C 0 dX8_ask_66 rfl rfl ?_
    refine st_getf C dX8_ask_67 fl_X8_15 hput_s rfl ?_
    refine st_iload C dX8_ask_70 rfl ?_
    refine st_iald C dX8_ask_72 (hput_o (by omega) hput_s) (by omega) (by omega) ?_
    exact st_ireturn C F dX8_ask_73 rfl (by first | exact rt_i (by first | rfl | omega) rfl | exact absurd (by assumption) hP) (by omega) (by omega)
set_option maxRecDepth 20000 in
set_option maxHeartbeats 4000000 in
theorem k_ask2_t {g : Gx} {h : HP} {t A m : Nat} {mk : Int} {af mf : Int → Int} {l x9 y9 : Int} (ht : h t = some (oO 7 [vI mk, vR A])) (hA : h A = some (oI 255 af)) (hm : h m = some (oI 304 mf)) (n1 : m ≠ t) (n2 : m ≠ A) (n3 : A ≠ t) (hl : 0 ≤ l ∧ l ≤ 2) (hx : 0 ≤ x9 ∧ x9 ≤ 1) (hy : 0 ≤ y9 ∧ y9 ≤ 1) (hP : af (85 * l + 80 + 2 * y9 + x9) = -1) (hk : 0 ≤ mk ∧ mk < 1000000) : Ct g yX8_ask (.code yX8_ask cX8_ask 7 (some .int)) 4 0 0 [vR t, vR m, vI 2, vI l, vI x9, vI y9] h (Rt (some (vI (mcaV mf l 4 x9 y9))) (hput (hput h A (oI 255 (fput af (85 * l + 80 + 2 * y9 + x9) (mcaV mf l 4 x9 y9)))) t (oO 7 [vI (mk + 1), vR A]))) := by
  refine Ct.of (by decide) (Nat.le_of_ble_eq_true rfl) (fun x hg C F => ?_)
  subst hg
  show T x 0 [(0, vR t), (1, vR m), (2, vI 2), (3, vI l), (4, vI x9), (5, vI y9)] [] h 0 0
  refine st_iload_n C 2 dX8_ask_0 rfl rfl ?_
  refine st_iload_n C 3 dX8_ask_1 rfl rfl ?_
  refine st_iload C dX8_ask_2 rfl ?_
  refine st_iload C dX8_ask_4 rfl ?_
  refine st_callS (st := []) C dX8_ask_6 [vI 2, vI l, vI x9, vI y9] (k_slotOf2 (l := l) (x9 := x9) (y9 := y9) (by omega) (by omega) (by omega)) w_X8_40 rfl (by decide) (by decide) (by omega) (by omega) (Nat.le_of_ble_eq_true rfl) (ko_rt ?_)
  show T x 9 [(0, vR t), (1, vR m), (2, vI 2), (3, vI l), (4, vI x9), (5, vI y9)] [vI (85 * l + 80 + 2 * y9 + x9)] _ _ _
  refine st_istore C dX8_ask_9 (by decide) rfl ?_
  show T x 11 [(0, vR t), (1, vR m), (2, vI 2), (3, vI l), (4, vI x9), (5, vI y9), (6, vI (85 * l + 80 + 2 * y9 + x9))] [] _ _ _
  refine st_iload C dX8_ask_11 rfl ?_
  refine st_if_lt (tgt := 26) C dX8_ask_13 (by decide) (fun c_13 => by omega) (fun c_13 => ?_)
  refine st_iload C dX8_ask_16 rfl ?_
  refine st_aload_n C 0 dX8_ask_18 rfl rfl ?_
  refine st_getf C dX8_ask_19 fl_X8_15 ht rfl ?_
  refine st_alenI C dX8_ask_22 hA (by decide) ?_
  show T x 23 [(0, vR t), (1, vR m), (2, vI 2), (3, vI l), (4, vI x9), (5, vI y9), (6, vI (85 * l + 80 + 2 * y9 + x9))] [vI 255, vI (85 * l + 80 + 2 * y9 + x9)] _ _ _
  refine st_icmp_lt (tgt := 28) C dX8_ask_23 (by decide) (fun c_23 => ?_) (fun c_23 => by omega)
  refine st_aload_n C 0 dX8_ask_28 rfl rfl ?_
  refine st_getf C dX8_ask_29 fl_X8_15 ht rfl ?_
  refine st_iload C dX8_ask_32 rfl ?_
  refine st_iald C dX8_ask_34 hA (by omega) (by omega) ?_
  refine st_iconst C dX8_ask_35 (by decide) ?_
  refine st_icmp_ne (tgt := 66) C dX8_ask_36 (by decide) (fun c_36 => ?_) (fun c_36 => ?_)
  · refine st_aload_n C 0 dX8_ask_66 rfl rfl ?_
    refine st_getf C dX8_ask_67 fl_X8_15 ht rfl ?_
    refine st_iload C dX8_ask_70 rfl ?_
    refine st_iald C dX8_ask_72 hA (by omega) (by omega) ?_
    exact st_ireturn C F dX8_ask_73 rfl (rt_i (by first | exact fput_s | omega) (by first | rfl | omega)) (by omega) (by omega)
  · refine st_aload_n C 0 dX8_ask_39 rfl rfl ?_
    refine st_getf C dX8_ask_40 fl_X8_15 ht rfl ?_
    refine st_iload C dX8_ask_43 rfl ?_
    refine st_aload_n C 1 dX8_ask_45 rfl rfl ?_
    refine st_iload_n C 2 dX8_ask_46 rfl rfl ?_
    refine st_iload_n C 3 dX8_ask_47 rfl rfl ?_
    refine st_iload C dX8_ask_48 rfl ?_
    refine st_iload C dX8_ask_50 rfl ?_
    refine st_callS (st := [vI (85 * l + 80 + 2 * y9 + x9), vR A]) C dX8_ask_52 [vR m, vI 2, vI l, vI x9, vI y9] (k_mca2 (mf := mf) (l := l) (x9 := x9) (y9 := y9) hm (by omega) (by omega) (by omega)) w_X8_44 rfl (by decide) (by decide) (by omega) (by omega) (Nat.le_of_ble_eq_true rfl) (ko_rt ?_)
    show T x 55 [(0, vR t), (1, vR m), (2, vI 2), (3, vI l), (4, vI x9), (5, vI y9), (6, vI (85 * l + 80 + 2 * y9 + x9))] [vI (mcaV mf l 4 x9 y9), vI (85 * l + 80 + 2 * y9 + x9), vR A] _ _ _
    refine st_iast C dX8_ask_55 hA (by omega) (by omega) ?_
    refine st_aload_n C 0 dX8_ask_56 rfl rfl ?_
    refine st_dup C dX8_ask_57 rfl ?_
    refine st_getf C dX8_ask_58 fl_X8_9 (hput_o (by omega) ht) rfl ?_
    refine st_iconst C dX8_ask_61 (by decide) ?_
    refine st_iadd C dX8_ask_62 ⟨(by omega), (by omega)⟩ ?_
    refine st_putf C dX8_ask_63 fp_X8_9 (fun q => by cases q) (hput_o (by omega) ht) (Nat.le_of_ble_eq_true rfl) fit_int ?_
    show T x 66 [(0, vR t), (1, vR m), (2, vI 2), (3, vI l), (4, vI x9), (5, vI y9), (6, vI (85 * l + 80 + 2 * y9 + x9))] [] (hput (hput h A (oI 255 (fput af (85 * l + 80 + 2 * y9 + x9) (mcaV mf l 4 x9 y9)))) t (oO 7 [vI (mk + 1), vR A])) _ _
    refine st_aload_n C 0 dX8_ask_66 rfl rfl ?_
    refine st_getf C dX8_ask_67 fl_X8_15 hput_s rfl ?_
    refine st_iload C dX8_ask_70 rfl ?_
    refine st_iald C dX8_ask_72 (hput_o (by omega) hput_s) (by omega) (by omega) ?_
    exact st_ireturn C F dX8_ask_73 rfl (rt_i (by first | exact fput_s | omega) (by first | rfl | omega)) (by omega) (by omega)
set_option maxRecDepth 20000 in
set_option maxHeartbeats 4000000 in
theorem k_holds3_t {g : Gx} {h : HP} {t A : Nat} {mk : Int} {af : Int → Int} {l x9 y9 : Int} (ht : h t = some (oO 7 [vI mk, vR A])) (hA : h A = some (oI 255 af)) (hl : 0 ≤ l ∧ l ≤ 2) (hx : 0 ≤ x9 ∧ x9 ≤ 0) (hy : 0 ≤ y9 ∧ y9 ≤ 0) (hP : af (85 * l + 84 + 1 * y9 + x9) ≠ -1) : Ct g yX8_holds (.code yX8_holds cX8_holds 6 (some .boolean)) 2 0 0 [vR t, vI 3, vI l, vI x9, vI y9] h (Rt (some (vI 1)) h) := by
  refine Ct.of (by decide) (Nat.le_of_ble_eq_true rfl) (fun x hg C F => ?_)
  subst hg
  show T x 0 [(0, vR t), (1, vI 3), (2, vI l), (3, vI x9), (4, vI y9)] [] h 0 0
  refine st_iload_n C 1 dX8_holds_0 rfl rfl ?_
  refine st_iload_n C 2 dX8_holds_1 rfl rfl ?_
  refine st_iload_n C 3 dX8_holds_2 rfl rfl ?_
  refine st_iload C dX8_holds_3 rfl ?_
  refine st_callS (st := []) C dX8_holds_5 [vI 3, vI l, vI x9, vI y9] (k_slotOf3 (l := l) (x9 := x9) (y9 := y9) (by omega) (by omega) (by omega)) w_X8_40 rfl (by decide) (by decide) (by omega) (by omega) (Nat.le_of_ble_eq_true rfl) (ko_rt ?_)
  show T x 8 [(0, vR t), (1, vI 3), (2, vI l), (3, vI x9), (4, vI y9)] [vI (85 * l + 84 + 1 * y9 + x9)] _ _ _
  refine st_istore C dX8_holds_8 (by decide) rfl ?_
  show T x 10 [(0, vR t), (1, vI 3), (2, vI l), (3, vI x9), (4, vI y9), (5, vI (85 * l + 84 + 1 * y9 + x9))] [] _ _ _
  refine st_iload C dX8_holds_10 rfl ?_
  refine st_if_lt (tgt := 40) C dX8_holds_12 (by decide) (fun c_12 => by omega) (fun c_12 => ?_)
  refine st_iload C dX8_holds_15 rfl ?_
  refine st_aload_n C 0 dX8_holds_17 rfl rfl ?_
  refine st_getf C dX8_holds_18 fl_X8_15 ht rfl ?_
  refine st_alenI C dX8_holds_21 hA (by decide) ?_
  show T x 22 [(0, vR t), (1, vI 3), (2, vI l), (3, vI x9), (4, vI y9), (5, vI (85 * l + 84 + 1 * y9 + x9))] [vI 255, vI (85 * l + 84 + 1 * y9 + x9)] _ _ _
  refine st_icmp_ge (tgt := 40) C dX8_holds_22 (by decide) (fun c_22 => by omega) (fun c_22 => ?_)
  refine st_aload_n C 0 dX8_holds_25 rfl rfl ?_
  refine st_getf C dX8_holds_26 fl_X8_15 ht rfl ?_
  refine st_iload C dX8_holds_29 rfl ?_
  refine st_iald C dX8_holds_31 hA (by omega) (by omega) ?_
  refine st_iconst C dX8_holds_32 (by decide) ?_
  refine st_icmp_eq (tgt := 40) C dX8_holds_33 (by decide) (fun c_33 => ?_) (fun c_33 => ?_)
  · refine st_iconst C dX8_holds_40 (by decide) ?_
    exact st_zreturn C F dX8_holds_41 rfl (by omega) (rt_i (by first | rfl | omega) rfl) (by omega) (by omega)
  · refine st_iconst C dX8_holds_36 (by decide) ?_
    refine st_goto (tgt := 41) C dX8_holds_37 (by decide) ?_
    exact st_zreturn C F dX8_holds_41 rfl (by omega) (rt_i (by first | rfl | omega) rfl) (by omega) (by omega)
set_option maxRecDepth 20000 in
set_option maxHeartbeats 4000000 in
theorem k_holds3_f {g : Gx} {h : HP} {t A : Nat} {mk : Int} {af : Int → Int} {l x9 y9 : Int} (ht : h t = some (oO 7 [vI mk, vR A])) (hA : h A = some (oI 255 af)) (hl : 0 ≤ l ∧ l ≤ 2) (hx : 0 ≤ x9 ∧ x9 ≤ 0) (hy : 0 ≤ y9 ∧ y9 ≤ 0) (hP : ¬ (af (85 * l + 84 + 1 * y9 + x9) ≠ -1)) : Ct g yX8_holds (.code yX8_holds cX8_holds 6 (some .boolean)) 2 0 0 [vR t, vI 3, vI l, vI x9, vI y9] h (Rt (some (vI 0)) h) := by
  refine Ct.of (by decide) (Nat.le_of_ble_eq_true rfl) (fun x hg C F => ?_)
  subst hg
  show T x 0 [(0, vR t), (1, vI 3), (2, vI l), (3, vI x9), (4, vI y9)] [] h 0 0
  refine st_iload_n C 1 dX8_holds_0 rfl rfl ?_
  refine st_iload_n C 2 dX8_holds_1 rfl rfl ?_
  refine st_iload_n C 3 dX8_holds_2 rfl rfl ?_
  refine st_iload C dX8_holds_3 rfl ?_
  refine st_callS (st := []) C dX8_holds_5 [vI 3, vI l, vI x9, vI y9] (k_slotOf3 (l := l) (x9 := x9) (y9 := y9) (by omega) (by omega) (by omega)) w_X8_40 rfl (by decide) (by decide) (by omega) (by omega) (Nat.le_of_ble_eq_true rfl) (ko_rt ?_)
  show T x 8 [(0, vR t), (1, vI 3), (2, vI l), (3, vI x9), (4, vI y9)] [vI (85 * l + 84 + 1 * y9 + x9)] _ _ _
  refine st_istore C dX8_holds_8 (by decide) rfl ?_
  show T x 10 [(0, vR t), (1, vI 3), (2, vI l), (3, vI x9), (4, vI y9), (5, vI (85 * l + 84 + 1 * y9 + x9))] [] _ _ _
  refine st_iload C dX8_holds_10 rfl ?_
  refine st_if_lt (tgt := 40) C dX8_holds_12 (by decide) (fun c_12 => by omega) (fun c_12 => ?_)
  refine st_iload C dX8_holds_15 rfl ?_
  refine st_aload_n C 0 dX8_holds_17 rfl rfl ?_
  refine st_getf C dX8_holds_18 fl_X8_15 ht rfl ?_
  refine st_alenI C dX8_holds_21 hA (by decide) ?_
  show T x 22 [(0, vR t), (1, vI 3), (2, vI l), (3, vI x9), (4, vI y9), (5, vI (85 * l + 84 + 1 * y9 + x9))] [vI 255, vI (85 * l + 84 + 1 * y9 + x9)] _ _ _
  refine st_icmp_ge (tgt := 40) C dX8_holds_22 (by decide) (fun c_22 => by omega) (fun c_22 => ?_)
  refine st_aload_n C 0 dX8_holds_25 rfl rfl ?_
  refine st_getf C dX8_holds_26 fl_X8_15 ht rfl ?_
  refine st_iload C dX8_holds_29 rfl ?_
  refine st_iald C dX8_holds_31 hA (by omega) (by omega) ?_
  refine st_iconst C dX8_holds_32 (by decide) ?_
  refine st_icmp_eq (tgt := 40) C dX8_holds_33 (by decide) (fun c_33 => ?_) (fun c_33 => ?_)
  · refine st_iconst C dX8_holds_40 (by decide) ?_
    exact st_zreturn C F dX8_holds_41 rfl (by omega) (rt_i (by first | rfl | omega) rfl) (by omega) (by omega)
  · refine st_iconst C dX8_holds_36 (by decide) ?_
    refine st_goto (tgt := 41) C dX8_holds_37 (by decide) ?_
    exact st_zreturn C F dX8_holds_41 rfl (by omega) (rt_i (by first | rfl | omega) rfl) (by omega) (by omega)
set_option maxRecDepth 20000 in
set_option maxHeartbeats 4000000 in
theorem k_ask3_f {g : Gx} {h : HP} {t A m : Nat} {mk : Int} {af mf : Int → Int} {l x9 y9 : Int} (ht : h t = some (oO 7 [vI mk, vR A])) (hA : h A = some (oI 255 af)) (hm : h m = some (oI 304 mf)) (n1 : m ≠ t) (n2 : m ≠ A) (n3 : A ≠ t) (hl : 0 ≤ l ∧ l ≤ 2) (hx : 0 ≤ x9 ∧ x9 ≤ 0) (hy : 0 ≤ y9 ∧ y9 ≤ 0) (hP : ¬ (af (85 * l + 84 + 1 * y9 + x9) = -1)) : Ct g yX8_ask (.code yX8_ask cX8_ask 7 (some .int)) 4 0 0 [vR t, vR m, vI 3, vI l, vI x9, vI y9] h (Rt (some (vI (af (85 * l + 84 + 1 * y9 + x9)))) h) := by
  refine Ct.of (by decide) (Nat.le_of_ble_eq_true rfl) (fun x hg C F => ?_)
  subst hg
  show T x 0 [(0, vR t), (1, vR m), (2, vI 3), (3, vI l), (4, vI x9), (5, vI y9)] [] h 0 0
  refine st_iload_n C 2 dX8_ask_0 rfl rfl ?_
  refine st_iload_n C 3 dX8_ask_1 rfl rfl ?_
  refine st_iload C dX8_ask_2 rfl ?_
  refine st_iload C dX8_ask_4 rfl ?_
  refine st_callS (st := []) C dX8_ask_6 [vI 3, vI l, vI x9, vI y9] (k_slotOf3 (l := l) (x9 := x9) (y9 := y9) (by omega) (by omega) (by omega)) w_X8_40 rfl (by decide) (by decide) (by omega) (by omega) (Nat.le_of_ble_eq_true rfl) (ko_rt ?_)
  show T x 9 [(0, vR t), (1, vR m), (2, vI 3), (3, vI l), (4, vI x9), (5, vI y9)] [vI (85 * l + 84 + 1 * y9 + x9)] _ _ _
  refine st_istore C dX8_ask_9 (by decide) rfl ?_
  show T x 11 [(0, vR t), (1, vR m), (2, vI 3), (3, vI l), (4, vI x9), (5, vI y9), (6, vI (85 * l + 84 + 1 * y9 + x9))] [] _ _ _
  refine st_iload C dX8_ask_11 rfl ?_
  refine st_if_lt (tgt := 26) C dX8_ask_13 (by decide) (fun c_13 => by omega) (fun c_13 => ?_)
  refine st_iload C dX8_ask_16 rfl ?_
  refine st_aload_n C 0 dX8_ask_18 rfl rfl ?_
  refine st_getf C dX8_ask_19 fl_X8_15 ht rfl ?_
  refine st_alenI C dX8_ask_22 hA (by decide) ?_
  show T x 23 [(0, vR t), (1, vR m), (2, vI 3), (3, vI l), (4, vI x9), (5, vI y9), (6, vI (85 * l + 84 + 1 * y9 + x9))] [vI 255, vI (85 * l + 84 + 1 * y9 + x9)] _ _ _
  refine st_icmp_lt (tgt := 28) C dX8_ask_23 (by decide) (fun c_23 => ?_) (fun c_23 => by omega)
  refine st_aload_n C 0 dX8_ask_28 rfl rfl ?_
  refine st_getf C dX8_ask_29 fl_X8_15 ht rfl ?_
  refine st_iload C dX8_ask_32 rfl ?_
  refine st_iald C dX8_ask_34 hA (by omega) (by omega) ?_
  refine st_iconst C dX8_ask_35 (by decide) ?_
  refine st_icmp_ne (tgt := 66) C dX8_ask_36 (by decide) (fun c_36 => ?_) (fun c_36 => ?_)
  · refine st_aload_n C 0 dX8_ask_66 rfl rfl ?_
    refine st_getf C dX8_ask_67 fl_X8_15 ht rfl ?_
    refine st_iload C dX8_ask_70 rfl ?_
    refine st_iald C dX8_ask_72 hA (by omega) (by omega) ?_
    exact st_ireturn C F dX8_ask_73 rfl (by first | exact rt_i (by first | rfl | omega) rfl | exact absurd (by assumption) hP) (by omega) (by omega)
  · refine st_aload_n C 0 dX8_ask_39 rfl rfl ?_
    refine st_getf C dX8_ask_40 fl_X8_15 ht rfl ?_
    refine st_iload C dX8_ask_43 rfl ?_
    refine st_aload_n C 1 dX8_ask_45 rfl rfl ?_
    refine st_iload_n C 2 dX8_ask_46 rfl rfl ?_
    refine st_iload_n C 3 dX8_ask_47 rfl rfl ?_
    refine st_iload C dX8_ask_48 rfl ?_
    refine st_iload C dX8_ask_50 rfl ?_
    refine st_callS (st := [vI (85 * l + 84 + 1 * y9 + x9), vR A]) C dX8_ask_52 [vR m, vI 3, vI l, vI x9, vI y9] (k_mca3 (mf := mf) (l := l) (x9 := x9) (y9 := y9) hm (by omega) (by omega) (by omega)) w_X8_44 rfl (by decide) (by decide) (by omega) (by omega) (Nat.le_of_ble_eq_true rfl) (ko_rt ?_)
    show T x 55 [(0, vR t), (1, vR m), (2, vI 3), (3, vI l), (4, vI x9), (5, vI y9), (6, vI (85 * l + 84 + 1 * y9 + x9))] [vI (mcaV mf l 8 x9 y9), vI (85 * l + 84 + 1 * y9 + x9), vR A] _ _ _
    refine st_iast C dX8_ask_55 hA (by omega) (by omega) ?_
    refine st_aload_n C 0 dX8_ask_56 rfl rfl ?_
    refine st_dup C dX8_ask_57 rfl ?_
    refine st_getf C dX8_ask_58 fl_X8_9 (hput_o (by omega) ht) rfl ?_
    refine st_iconst C dX8_ask_61 (by decide) ?_
    refine st_iadd C dX8_ask_62 ⟨(by omega), (by omega)⟩ ?_
    refine st_putf C dX8_ask_63 fp_X8_9 (fun q => by cases q) (hput_o (by omega) ht) (Nat.le_of_ble_eq_true rfl) fit_int ?_
    show T x 66 [(0, vR t), (1, vR m), (2, vI 3), (3, vI l), (4, vI x9), (5, vI y9), (6, vI (85 * l + 84 + 1 * y9 + x9))] [] (hput (hput h A (oI 255 (fput af (85 * l + 84 + 1 * y9 + x9) (mcaV mf l 8 x9 y9)))) t (oO 7 [vI (mk + 1), vR A])) _ _
    refine st_aload_n C 0 dX8_ask_66 rfl rfl ?_
    refine st_getf C dX8_ask_67 fl_X8_15 hput_s rfl ?_
    refine st_iload C dX8_ask_70 rfl ?_
    refine st_iald C dX8_ask_72 (hput_o (by omega) hput_s) (by omega) (by omega) ?_
    exact st_ireturn C F dX8_ask_73 rfl (by first | exact rt_i (by first | rfl | omega) rfl | exact absurd (by assumption) hP) (by omega) (by omega)
set_option maxRecDepth 20000 in
set_option maxHeartbeats 4000000 in
theorem k_ask3_t {g : Gx} {h : HP} {t A m : Nat} {mk : Int} {af mf : Int → Int} {l x9 y9 : Int} (ht : h t = some (oO 7 [vI mk, vR A])) (hA : h A = some (oI 255 af)) (hm : h m = some (oI 304 mf)) (n1 : m ≠ t) (n2 : m ≠ A) (n3 : A ≠ t) (hl : 0 ≤ l ∧ l ≤ 2) (hx : 0 ≤ x9 ∧ x9 ≤ 0) (hy : 0 ≤ y9 ∧ y9 ≤ 0) (hP : af (85 * l + 84 + 1 * y9 + x9) = -1) (hk : 0 ≤ mk ∧ mk < 1000000) : Ct g yX8_ask (.code yX8_ask cX8_ask 7 (some .int)) 4 0 0 [vR t, vR m, vI 3, vI l, vI x9, vI y9] h (Rt (some (vI (mcaV mf l 8 x9 y9))) (hput (hput h A (oI 255 (fput af (85 * l + 84 + 1 * y9 + x9) (mcaV mf l 8 x9 y9)))) t (oO 7 [vI (mk + 1), vR A]))) := by
  refine Ct.of (by decide) (Nat.le_of_ble_eq_true rfl) (fun x hg C F => ?_)
  subst hg
  show T x 0 [(0, vR t), (1, vR m), (2, vI 3), (3, vI l), (4, vI x9), (5, vI y9)] [] h 0 0
  refine st_iload_n C 2 dX8_ask_0 rfl rfl ?_
  refine st_iload_n C 3 dX8_ask_1 rfl rfl ?_
  refine st_iload C dX8_ask_2 rfl ?_
  refine st_iload C dX8_ask_4 rfl ?_
  refine st_callS (st := []) C dX8_ask_6 [vI 3, vI l, vI x9, vI y9] (k_slotOf3 (l := l) (x9 := x9) (y9 := y9) (by omega) (by omega) (by omega)) w_X8_40 rfl (by decide) (by decide) (by omega) (by omega) (Nat.le_of_ble_eq_true rfl) (ko_rt ?_)
  show T x 9 [(0, vR t), (1, vR m), (2, vI 3), (3, vI l), (4, vI x9), (5, vI y9)] [vI (85 * l + 84 + 1 * y9 + x9)] _ _ _
  refine st_istore C dX8_ask_9 (by decide) rfl ?_
  show T x 11 [(0, vR t), (1, vR m), (2, vI 3), (3, vI l), (4, vI x9), (5, vI y9), (6, vI (85 * l + 84 + 1 * y9 + x9))] [] _ _ _
  refine st_iload C dX8_ask_11 rfl ?_
  refine st_if_lt (tgt := 26) C dX8_ask_13 (by decide) (fun c_13 => by omega) (fun c_13 => ?_)
  refine st_iload C dX8_ask_16 rfl ?_
  refine st_aload_n C 0 dX8_ask_18 rfl rfl ?_
  refine st_getf C dX8_ask_19 fl_X8_15 ht rfl ?_
  refine st_alenI C dX8_ask_22 hA (by decide) ?_
  show T x 23 [(0, vR t), (1, vR m), (2, vI 3), (3, vI l), (4, vI x9), (5, vI y9), (6, vI (85 * l + 84 + 1 * y9 + x9))] [vI 255, vI (85 * l + 84 + 1 * y9 + x9)] _ _ _
  refine st_icmp_lt (tgt := 28) C dX8_ask_23 (by decide) (fun c_23 => ?_) (fun c_23 => by omega)
  refine st_aload_n C 0 dX8_ask_28 rfl rfl ?_
  refine st_getf C dX8_ask_29 fl_X8_15 ht rfl ?_
  refine st_iload C dX8_ask_32 rfl ?_
  refine st_iald C dX8_ask_34 hA (by omega) (by omega) ?_
  refine st_iconst C dX8_ask_35 (by decide) ?_
  refine st_icmp_ne (tgt := 66) C dX8_ask_36 (by decide) (fun c_36 => ?_) (fun c_36 => ?_)
  · refine st_aload_n C 0 dX8_ask_66 rfl rfl ?_
    refine st_getf C dX8_ask_67 fl_X8_15 ht rfl ?_
    refine st_iload C dX8_ask_70 rfl ?_
    refine st_iald C dX8_ask_72 hA (by omega) (by omega) ?_
    exact st_ireturn C F dX8_ask_73 rfl (rt_i (by first | exact fput_s | omega) (by first | rfl | omega)) (by omega) (by omega)
  · refine st_aload_n C 0 dX8_ask_39 rfl rfl ?_
    refine st_getf C dX8_ask_40 fl_X8_15 ht rfl ?_
    refine st_iload C dX8_ask_43 rfl ?_
    refine st_aload_n C 1 dX8_ask_45 rfl rfl ?_
    refine st_iload_n C 2 dX8_ask_46 rfl rfl ?_
    refine st_iload_n C 3 dX8_ask_47 rfl rfl ?_
    refine st_iload C dX8_ask_48 rfl ?_
    refine st_iload C dX8_ask_50 rfl ?_
    refine st_callS (st := [vI (85 * l + 84 + 1 * y9 + x9), vR A]) C dX8_ask_52 [vR m, vI 3, vI l, vI x9, vI y9] (k_mca3 (mf := mf) (l := l) (x9 := x9) (y9 := y9) hm (by omega) (by omega) (by omega)) w_X8_44 rfl (by decide) (by decide) (by omega) (by omega) (Nat.le_of_ble_eq_true rfl) (ko_rt ?_)
    show T x 55 [(0, vR t), (1, vR m), (2, vI 3), (3, vI l), (4, vI x9), (5, vI y9), (6, vI (85 * l + 84 + 1 * y9 + x9))] [vI (mcaV mf l 8 x9 y9), vI (85 * l + 84 + 1 * y9 + x9), vR A] _ _ _
    refine st_iast C dX8_ask_55 hA (by omega) (by omega) ?_
    refine st_aload_n C 0 dX8_ask_56 rfl rfl ?_
    refine st_dup C dX8_ask_57 rfl ?_
    refine st_getf C dX8_ask_58 fl_X8_9 (hput_o (by omega) ht) rfl ?_
    refine st_iconst C dX8_ask_61 (by decide) ?_
    refine st_iadd C dX8_ask_62 ⟨(by omega), (by omega)⟩ ?_
    refine st_putf C dX8_ask_63 fp_X8_9 (fun q => by cases q) (hput_o (by omega) ht) (Nat.le_of_ble_eq_true rfl) fit_int ?_
    show T x 66 [(0, vR t), (1, vR m), (2, vI 3), (3, vI l), (4, vI x9), (5, vI y9), (6, vI (85 * l + 84 + 1 * y9 + x9))] [] (hput (hput h A (oI 255 (fput af (85 * l + 84 + 1 * y9 + x9) (mcaV mf l 8 x9 y9)))) t (oO 7 [vI (mk + 1), vR A])) _ _
    refine st_aload_n C 0 dX8_ask_66 rfl rfl ?_
    refine st_getf C dX8_ask_67 fl_X8_15 hput_s rfl ?_
    refine st_iload C dX8_ask_70 rfl ?_
    refine st_iald C dX8_ask_72 (hput_o (by omega) hput_s) (by omega) (by omega) ?_
    exact st_ireturn C F dX8_ask_73 rfl (rt_i (by first | exact fput_s | omega) (by first | rfl | omega)) (by omega) (by omega)
def thr (f : Int → Int) (l x y : Int) : Int → Int := fput (fput (fput (fput f (slV 0 8 l (x / 1) (y / 1)) (-1)) (slV 64 4 l (x / 2) (y / 2)) (-1)) (slV 80 2 l (x / 4) (y / 4)) (-1)) (slV 84 1 l (x / 8) (y / 8)) (-1)
/-- the tiles after the first n places of the rows -/
def thU (f r1 r2 : Int → Int) : Nat → Int → Int
  | 0 => f
  | n + 1 => if r1 (n : Int) ≠ r2 (n : Int) then thr (thU f r1 r2 n) ((n : Int) / 64) ((n : Int) % 64 % 8) ((n : Int) % 64 / 8) else thU f r1 r2 n
theorem thU_s {f r1 r2 : Int → Int} {l p : Int} (hl : 0 ≤ l) (hp : 0 ≤ p ∧ p < 64) : thU f r1 r2 (64 * l + (p + 1)).toNat = if r1 (64 * l + p) ≠ r2 (64 * l + p) then thr (thU f r1 r2 (64 * l + p).toNat) l (p % 8) (p / 8) else thU f r1 r2 (64 * l + p).toNat := by
  have e : ((64 * l + p).toNat : Int) = 64 * l + p := by omega
  rw [show (64 * l + (p + 1)).toNat = (64 * l + p).toNat + 1 by omega]
  show (if r1 ((64 * l + p).toNat : Int) ≠ r2 ((64 * l + p).toNat : Int) then thr _ (((64 * l + p).toNat : Int) / 64) (((64 * l + p).toNat : Int) % 64 % 8) (((64 * l + p).toNat : Int) % 64 / 8) else _) = _
  rw [e, show (64 * l + p) / 64 = l by omega, show (64 * l + p) % 64 = p by omega]
theorem thU_t {f r1 r2 : Int → Int} {l p : Int} (hl : 0 ≤ l) (hp : 0 ≤ p ∧ p < 64) (c : r1 (64 * l + p) ≠ r2 (64 * l + p)) : thr (thU f r1 r2 (64 * l + p).toNat) l (p % 8) (p / 8) = thU f r1 r2 (64 * l + (p + 1)).toNat := by
  rw [thU_s hl hp, if_pos c]
theorem thU_f {f r1 r2 : Int → Int} {l p : Int} (hl : 0 ≤ l) (hp : 0 ≤ p ∧ p < 64) (c : r1 (64 * l + p) = r2 (64 * l + p)) : thU f r1 r2 (64 * l + p).toNat = thU f r1 r2 (64 * l + (p + 1)).toNat := by
  rw [thU_s hl hp, if_neg (fun z => z c)]
set_option maxRecDepth 20000 in
set_option maxHeartbeats 4000000 in
theorem k_throwOutOver {g : Gx} {h : HP} {t A : Nat} {mk : Int} {af : Int → Int} {l x9 y9 : Int} (ht : h t = some (oO 7 [vI mk, vR A])) (hA : h A = some (oI 255 af)) (n3 : A ≠ t) (hl : 0 ≤ l ∧ l ≤ 2) (hx : 0 ≤ x9 ∧ x9 ≤ 7) (hy : 0 ≤ y9 ∧ y9 ≤ 7) : Ct g yX8_throwOutOver (.code yX8_throwOutOver cX8_throwOutOver 6 none) 2 0 0 [vR t, vI l, vI x9, vI y9] h (Rt none (hput h A (oI 255 (thr af l x9 y9)))) := by
  refine Ct.of (by decide) (Nat.le_of_ble_eq_true rfl) (fun x hg C F => ?_)
  subst hg
  show T x 0 [(0, vR t), (1, vI l), (2, vI x9), (3, vI y9)] [] h 0 0
  refine st_iconst C dX8_throwOutOver_0 (by decide) ?_
  refine st_istore C dX8_throwOutOver_1 (by decide) rfl ?_
  show T x 3 [(0, vR t), (1, vI l), (2, vI x9), (3, vI y9), (4, vI 0)] [] _ _ _
  refine st_iload C dX8_throwOutOver_3 rfl ?_
  refine st_iconst C dX8_throwOutOver_5 (by decide) ?_
  refine st_icmp_ge (tgt := 54) C dX8_throwOutOver_6 (by decide) (fun c_6 => by omega) (fun c_6 => ?_)
  refine st_iload C dX8_throwOutOver_9 rfl ?_
  refine st_iload_n C 1 dX8_throwOutOver_11 rfl rfl ?_
  refine st_iload_n C 2 dX8_throwOutOver_12 rfl rfl ?_
  refine st_iload C dX8_throwOutOver_13 rfl ?_
  refine st_ishr C 0 dX8_throwOutOver_15 (by omega) (by decide) ?_
  show T x 16 [(0, vR t), (1, vI l), (2, vI x9), (3, vI y9), (4, vI 0)] [vI (x9 / 1), vI l, vI 0] _ _ _
  refine st_iload_n C 3 dX8_throwOutOver_16 rfl rfl ?_
  refine st_iload C dX8_throwOutOver_17 rfl ?_
  refine st_ishr C 0 dX8_throwOutOver_19 (by omega) (by decide) ?_
  show T x 20 [(0, vR t), (1, vI l), (2, vI x9), (3, vI y9), (4, vI 0)] [vI (y9 / 1), vI (x9 / 1), vI l, vI 0] _ _ _
  refine st_callS (st := []) C dX8_throwOutOver_20 [vI 0, vI l, vI (x9 / 1), vI (y9 / 1)] (k_slotOf0 (l := l) (x9 := (x9 / 1)) (y9 := (y9 / 1)) (by omega) (by omega) (by omega)) w_X8_40 rfl (by decide) (by decide) (by omega) (by omega) (Nat.le_of_ble_eq_true rfl) (ko_rt ?_)
  show T x 23 [(0, vR t), (1, vI l), (2, vI x9), (3, vI y9), (4, vI 0)] [vI (85 * l + 0 + 8 * (y9 / 1) + (x9 / 1))] _ _ _
  refine st_istore C dX8_throwOutOver_23 (by decide) rfl ?_
  show T x 25 [(0, vR t), (1, vI l), (2, vI x9), (3, vI y9), (4, vI 0), (5, vI (85 * l + 0 + 8 * (y9 / 1) + (x9 / 1)))] [] _ _ _
  refine st_iload C dX8_throwOutOver_25 rfl ?_
  refine st_if_lt (tgt := 48) C dX8_throwOutOver_27 (by decide) (fun c_27 => by omega) (fun c_27 => ?_)
  refine st_iload C dX8_throwOutOver_30 rfl ?_
  refine st_aload_n C 0 dX8_throwOutOver_32 rfl rfl ?_
  refine st_getf C dX8_throwOutOver_33 fl_X8_15 ht rfl ?_
  refine st_alenI C dX8_throwOutOver_36 hA (by decide) ?_
  show T x 37 [(0, vR t), (1, vI l), (2, vI x9), (3, vI y9), (4, vI 0), (5, vI (85 * l + 0 + 8 * (y9 / 1) + (x9 / 1)))] [vI 255, vI (85 * l + 0 + 8 * (y9 / 1) + (x9 / 1))] _ _ _
  refine st_icmp_ge (tgt := 48) C dX8_throwOutOver_37 (by decide) (fun c_37 => by omega) (fun c_37 => ?_)
  refine st_aload_n C 0 dX8_throwOutOver_40 rfl rfl ?_
  refine st_getf C dX8_throwOutOver_41 fl_X8_15 ht rfl ?_
  refine st_iload C dX8_throwOutOver_44 rfl ?_
  refine st_iconst C dX8_throwOutOver_46 (by decide) ?_
  refine st_iast C dX8_throwOutOver_47 hA (by omega) (by omega) ?_
  refine st_iinc C dX8_throwOutOver_48 rfl (by decide) rfl ⟨(by omega), (by omega)⟩ ?_
  show T x 51 [(0, vR t), (1, vI l), (2, vI x9), (3, vI y9), (4, vI 1), (5, vI (85 * l + 0 + 8 * (y9 / 1) + (x9 / 1)))] [] _ _ _
  refine st_goto (tgt := 3) C dX8_throwOutOver_51 (by decide) ?_
  refine st_iload C dX8_throwOutOver_3 rfl ?_
  refine st_iconst C dX8_throwOutOver_5 (by decide) ?_
  refine st_icmp_ge (tgt := 54) C dX8_throwOutOver_6 (by decide) (fun c_6 => by omega) (fun c_6 => ?_)
  refine st_iload C dX8_throwOutOver_9 rfl ?_
  refine st_iload_n C 1 dX8_throwOutOver_11 rfl rfl ?_
  refine st_iload_n C 2 dX8_throwOutOver_12 rfl rfl ?_
  refine st_iload C dX8_throwOutOver_13 rfl ?_
  refine st_ishr C 1 dX8_throwOutOver_15 (by omega) (by decide) ?_
  show T x 16 [(0, vR t), (1, vI l), (2, vI x9), (3, vI y9), (4, vI 1), (5, vI (85 * l + 0 + 8 * (y9 / 1) + (x9 / 1)))] [vI (x9 / 2), vI l, vI 1] _ _ _
  refine st_iload_n C 3 dX8_throwOutOver_16 rfl rfl ?_
  refine st_iload C dX8_throwOutOver_17 rfl ?_
  refine st_ishr C 1 dX8_throwOutOver_19 (by omega) (by decide) ?_
  show T x 20 [(0, vR t), (1, vI l), (2, vI x9), (3, vI y9), (4, vI 1), (5, vI (85 * l + 0 + 8 * (y9 / 1) + (x9 / 1)))] [vI (y9 / 2), vI (x9 / 2), vI l, vI 1] _ _ _
  refine st_callS (st := []) C dX8_throwOutOver_20 [vI 1, vI l, vI (x9 / 2), vI (y9 / 2)] (k_slotOf1 (l := l) (x9 := (x9 / 2)) (y9 := (y9 / 2)) (by omega) (by omega) (by omega)) w_X8_40 rfl (by decide) (by decide) (by omega) (by omega) (Nat.le_of_ble_eq_true rfl) (ko_rt ?_)
  show T x 23 [(0, vR t), (1, vI l), (2, vI x9), (3, vI y9), (4, vI 1), (5, vI (85 * l + 0 + 8 * (y9 / 1) + (x9 / 1)))] [vI (85 * l + 64 + 4 * (y9 / 2) + (x9 / 2))] _ _ _
  refine st_istore C dX8_throwOutOver_23 (by decide) rfl ?_
  show T x 25 [(0, vR t), (1, vI l), (2, vI x9), (3, vI y9), (4, vI 1), (5, vI (85 * l + 64 + 4 * (y9 / 2) + (x9 / 2)))] [] _ _ _
  refine st_iload C dX8_throwOutOver_25 rfl ?_
  refine st_if_lt (tgt := 48) C dX8_throwOutOver_27 (by decide) (fun c_27 => by omega) (fun c_27 => ?_)
  refine st_iload C dX8_throwOutOver_30 rfl ?_
  refine st_aload_n C 0 dX8_throwOutOver_32 rfl rfl ?_
  refine st_getf C dX8_throwOutOver_33 fl_X8_15 (hput_o (by omega) ht) rfl ?_
  refine st_alenI C dX8_throwOutOver_36 hput_s (by decide) ?_
  show T x 37 [(0, vR t), (1, vI l), (2, vI x9), (3, vI y9), (4, vI 1), (5, vI (85 * l + 64 + 4 * (y9 / 2) + (x9 / 2)))] [vI 255, vI (85 * l + 64 + 4 * (y9 / 2) + (x9 / 2))] _ _ _
  refine st_icmp_ge (tgt := 48) C dX8_throwOutOver_37 (by decide) (fun c_37 => by omega) (fun c_37 => ?_)
  refine st_aload_n C 0 dX8_throwOutOver_40 rfl rfl ?_
  refine st_getf C dX8_throwOutOver_41 fl_X8_15 (hput_o (by omega) ht) rfl ?_
  refine st_iload C dX8_throwOutOver_44 rfl ?_
  refine st_iconst C dX8_throwOutOver_46 (by decide) ?_
  refine st_iast C dX8_throwOutOver_47 hput_s (by omega) (by omega) ?_
  refine st_iinc C dX8_throwOutOver_48 rfl (by decide) rfl ⟨(by omega), (by omega)⟩ ?_
  show T x 51 [(0, vR t), (1, vI l), (2, vI x9), (3, vI y9), (4, vI 2), (5, vI (85 * l + 64 + 4 * (y9 / 2) + (x9 / 2)))] [] _ _ _
  refine st_goto (tgt := 3) C dX8_throwOutOver_51 (by decide) ?_
  refine st_iload C dX8_throwOutOver_3 rfl ?_
  refine st_iconst C dX8_throwOutOver_5 (by decide) ?_
  refine st_icmp_ge (tgt := 54) C dX8_throwOutOver_6 (by decide) (fun c_6 => by omega) (fun c_6 => ?_)
  refine st_iload C dX8_throwOutOver_9 rfl ?_
  refine st_iload_n C 1 dX8_throwOutOver_11 rfl rfl ?_
  refine st_iload_n C 2 dX8_throwOutOver_12 rfl rfl ?_
  refine st_iload C dX8_throwOutOver_13 rfl ?_
  refine st_ishr C 2 dX8_throwOutOver_15 (by omega) (by decide) ?_
  show T x 16 [(0, vR t), (1, vI l), (2, vI x9), (3, vI y9), (4, vI 2), (5, vI (85 * l + 64 + 4 * (y9 / 2) + (x9 / 2)))] [vI (x9 / 4), vI l, vI 2] _ _ _
  refine st_iload_n C 3 dX8_throwOutOver_16 rfl rfl ?_
  refine st_iload C dX8_throwOutOver_17 rfl ?_
  refine st_ishr C 2 dX8_throwOutOver_19 (by omega) (by decide) ?_
  show T x 20 [(0, vR t), (1, vI l), (2, vI x9), (3, vI y9), (4, vI 2), (5, vI (85 * l + 64 + 4 * (y9 / 2) + (x9 / 2)))] [vI (y9 / 4), vI (x9 / 4), vI l, vI 2] _ _ _
  refine st_callS (st := []) C dX8_throwOutOver_20 [vI 2, vI l, vI (x9 / 4), vI (y9 / 4)] (k_slotOf2 (l := l) (x9 := (x9 / 4)) (y9 := (y9 / 4)) (by omega) (by omega) (by omega)) w_X8_40 rfl (by decide) (by decide) (by omega) (by omega) (Nat.le_of_ble_eq_true rfl) (ko_rt ?_)
  show T x 23 [(0, vR t), (1, vI l), (2, vI x9), (3, vI y9), (4, vI 2), (5, vI (85 * l + 64 + 4 * (y9 / 2) + (x9 / 2)))] [vI (85 * l + 80 + 2 * (y9 / 4) + (x9 / 4))] _ _ _
  refine st_istore C dX8_throwOutOver_23 (by decide) rfl ?_
  show T x 25 [(0, vR t), (1, vI l), (2, vI x9), (3, vI y9), (4, vI 2), (5, vI (85 * l + 80 + 2 * (y9 / 4) + (x9 / 4)))] [] _ _ _
  refine st_iload C dX8_throwOutOver_25 rfl ?_
  refine st_if_lt (tgt := 48) C dX8_throwOutOver_27 (by decide) (fun c_27 => by omega) (fun c_27 => ?_)
  refine st_iload C dX8_throwOutOver_30 rfl ?_
  refine st_aload_n C 0 dX8_throwOutOver_32 rfl rfl ?_
  refine st_getf C dX8_throwOutOver_33 fl_X8_15 (hput_o (by omega) (hput_o (by omega) ht)) rfl ?_
  refine st_alenI C dX8_throwOutOver_36 hput_s (by decide) ?_
  show T x 37 [(0, vR t), (1, vI l), (2, vI x9), (3, vI y9), (4, vI 2), (5, vI (85 * l + 80 + 2 * (y9 / 4) + (x9 / 4)))] [vI 255, vI (85 * l + 80 + 2 * (y9 / 4) + (x9 / 4))] _ _ _
  refine st_icmp_ge (tgt := 48) C dX8_throwOutOver_37 (by decide) (fun c_37 => ?_) (fun c_37 => ?_)
  · refine st_iinc C dX8_throwOutOver_48 rfl (by decide) rfl ⟨(by omega), (by omega)⟩ ?_
    show T x 51 [(0, vR t), (1, vI l), (2, vI x9), (3, vI y9), (4, vI 3), (5, vI (85 * l + 80 + 2 * (y9 / 4) + (x9 / 4)))] [] _ _ _
    refine st_goto (tgt := 3) C dX8_throwOutOver_51 (by decide) ?_
    refine st_iload C dX8_throwOutOver_3 rfl ?_
    refine st_iconst C dX8_throwOutOver_5 (by decide) ?_
    refine st_icmp_ge (tgt := 54) C dX8_throwOutOver_6 (by decide) (fun c_6 => by omega) (fun c_6 => ?_)
    refine st_iload C dX8_throwOutOver_9 rfl ?_
    refine st_iload_n C 1 dX8_throwOutOver_11 rfl rfl ?_
    refine st_iload_n C 2 dX8_throwOutOver_12 rfl rfl ?_
    refine st_iload C dX8_throwOutOver_13 rfl ?_
    refine st_ishr C 3 dX8_throwOutOver_15 (by omega) (by decide) ?_
    show T x 16 [(0, vR t), (1, vI l), (2, vI x9), (3, vI y9), (4, vI 3), (5, vI (85 * l + 80 + 2 * (y9 / 4) + (x9 / 4)))] [vI (x9 / 8), vI l, vI 3] _ _ _
    refine st_iload_n C 3 dX8_throwOutOver_16 rfl rfl ?_
    refine st_iload C dX8_throwOutOver_17 rfl ?_
    refine st_ishr C 3 dX8_throwOutOver_19 (by omega) (by decide) ?_
    show T x 20 [(0, vR t), (1, vI l), (2, vI x9), (3, vI y9), (4, vI 3), (5, vI (85 * l + 80 + 2 * (y9 / 4) + (x9 / 4)))] [vI (y9 / 8), vI (x9 / 8), vI l, vI 3] _ _ _
    refine st_callS (st := []) C dX8_throwOutOver_20 [vI 3, vI l, vI (x9 / 8), vI (y9 / 8)] (k_slotOf3 (l := l) (x9 := (x9 / 8)) (y9 := (y9 / 8)) (by omega) (by omega) (by omega)) w_X8_40 rfl (by decide) (by decide) (by omega) (by omega) (Nat.le_of_ble_eq_true rfl) (ko_rt ?_)
    show T x 23 [(0, vR t), (1, vI l), (2, vI x9), (3, vI y9), (4, vI 3), (5, vI (85 * l + 80 + 2 * (y9 / 4) + (x9 / 4)))] [vI (85 * l + 84 + 1 * (y9 / 8) + (x9 / 8))] _ _ _
    refine st_istore C dX8_throwOutOver_23 (by decide) rfl ?_
    show T x 25 [(0, vR t), (1, vI l), (2, vI x9), (3, vI y9), (4, vI 3), (5, vI (85 * l + 84 + 1 * (y9 / 8) + (x9 / 8)))] [] _ _ _
    refine st_iload C dX8_throwOutOver_25 rfl ?_
    refine st_if_lt (tgt := 48) C dX8_throwOutOver_27 (by decide) (fun c_27 => by omega) (fun c_27 => ?_)
    refine st_iload C dX8_throwOutOver_30 rfl ?_
    refine st_aload_n C 0 dX8_throwOutOver_32 rfl rfl ?_
    refine st_getf C dX8_throwOutOver_33 fl_X8_15 (hput_o (by omega) (hput_o (by omega) ht)) rfl ?_
    refine st_alenI C dX8_throwOutOver_36 hput_s (by decide) ?_
    show T x 37 [(0, vR t), (1, vI l), (2, vI x9), (3, vI y9), (4, vI 3), (5, vI (85 * l + 84 + 1 * (y9 / 8) + (x9 / 8)))] [vI 255, vI (85 * l + 84 + 1 * (y9 / 8) + (x9 / 8))] _ _ _
    refine st_icmp_ge (tgt := 48) C dX8_throwOutOver_37 (by decide) (fun c_37 => ?_) (fun c_37 => ?_)
    · refine st_iinc C dX8_throwOutOver_48 rfl (by decide) rfl ⟨(by omega), (by omega)⟩ ?_
      show T x 51 [(0, vR t), (1, vI l), (2, vI x9), (3, vI y9), (4, vI 4), (5, vI (85 * l + 84 + 1 * (y9 / 8) + (x9 / 8)))] [] _ _ _
      refine st_goto (tgt := 3) C dX8_throwOutOver_51 (by decide) ?_
      refine st_iload C dX8_throwOutOver_3 rfl ?_
      refine st_iconst C dX8_throwOutOver_5 (by decide) ?_
      refine st_icmp_ge (tgt := 54) C dX8_throwOutOver_6 (by decide) (fun c_6 => ?_) (fun c_6 => by omega)
      exact st_return C F dX8_throwOutOver_54 rfl (by first | exact rt_n (by rw [hput_hput, hput_hput, hput_hput]; rfl) | (exfalso; omega)) (by omega) (by omega)
    · refine st_aload_n C 0 dX8_throwOutOver_40 rfl rfl ?_
      refine st_getf C dX8_throwOutOver_41 fl_X8_15 (hput_o (by omega) (hput_o (by omega) ht)) rfl ?_
      refine st_iload C dX8_throwOutOver_44 rfl ?_
      refine st_iconst C dX8_throwOutOver_46 (by decide) ?_
      refine st_iast C dX8_throwOutOver_47 hput_s (by omega) (by omega) ?_
      refine st_iinc C dX8_throwOutOver_48 rfl (by decide) rfl ⟨(by omega), (by omega)⟩ ?_
      show T x 51 [(0, vR t), (1, vI l), (2, vI x9), (3, vI y9), (4, vI 4), (5, vI (85 * l + 84 + 1 * (y9 / 8) + (x9 / 8)))] [] _ _ _
      refine st_goto (tgt := 3) C dX8_throwOutOver_51 (by decide) ?_
      refine st_iload C dX8_throwOutOver_3 rfl ?_
      refine st_iconst C dX8_throwOutOver_5 (by decide) ?_
      refine st_icmp_ge (tgt := 54) C dX8_throwOutOver_6 (by decide) (fun c_6 => ?_) (fun c_6 => by omega)
      exact st_return C F dX8_throwOutOver_54 rfl (by first | exact rt_n (by rw [hput_hput, hput_hput, hput_hput]; rfl) | (exfalso; omega)) (by omega) (by omega)
  · refine st_aload_n C 0 dX8_throwOutOver_40 rfl rfl ?_
    refine st_getf C dX8_throwOutOver_41 fl_X8_15 (hput_o (by omega) (hput_o (by omega) ht)) rfl ?_
    refine st_iload C dX8_throwOutOver_44 rfl ?_
    refine st_iconst C dX8_throwOutOver_46 (by decide) ?_
    refine st_iast C dX8_throwOutOver_47 hput_s (by omega) (by omega) ?_
    refine st_iinc C dX8_throwOutOver_48 rfl (by decide) rfl ⟨(by omega), (by omega)⟩ ?_
    show T x 51 [(0, vR t), (1, vI l), (2, vI x9), (3, vI y9), (4, vI 3), (5, vI (85 * l + 80 + 2 * (y9 / 4) + (x9 / 4)))] [] _ _ _
    refine st_goto (tgt := 3) C dX8_throwOutOver_51 (by decide) ?_
    refine st_iload C dX8_throwOutOver_3 rfl ?_
    refine st_iconst C dX8_throwOutOver_5 (by decide) ?_
    refine st_icmp_ge (tgt := 54) C dX8_throwOutOver_6 (by decide) (fun c_6 => by omega) (fun c_6 => ?_)
    refine st_iload C dX8_throwOutOver_9 rfl ?_
    refine st_iload_n C 1 dX8_throwOutOver_11 rfl rfl ?_
    refine st_iload_n C 2 dX8_throwOutOver_12 rfl rfl ?_
    refine st_iload C dX8_throwOutOver_13 rfl ?_
    refine st_ishr C 3 dX8_throwOutOver_15 (by omega) (by decide) ?_
    show T x 16 [(0, vR t), (1, vI l), (2, vI x9), (3, vI y9), (4, vI 3), (5, vI (85 * l + 80 + 2 * (y9 / 4) + (x9 / 4)))] [vI (x9 / 8), vI l, vI 3] _ _ _
    refine st_iload_n C 3 dX8_throwOutOver_16 rfl rfl ?_
    refine st_iload C dX8_throwOutOver_17 rfl ?_
    refine st_ishr C 3 dX8_throwOutOver_19 (by omega) (by decide) ?_
    show T x 20 [(0, vR t), (1, vI l), (2, vI x9), (3, vI y9), (4, vI 3), (5, vI (85 * l + 80 + 2 * (y9 / 4) + (x9 / 4)))] [vI (y9 / 8), vI (x9 / 8), vI l, vI 3] _ _ _
    refine st_callS (st := []) C dX8_throwOutOver_20 [vI 3, vI l, vI (x9 / 8), vI (y9 / 8)] (k_slotOf3 (l := l) (x9 := (x9 / 8)) (y9 := (y9 / 8)) (by omega) (by omega) (by omega)) w_X8_40 rfl (by decide) (by decide) (by omega) (by omega) (Nat.le_of_ble_eq_true rfl) (ko_rt ?_)
    show T x 23 [(0, vR t), (1, vI l), (2, vI x9), (3, vI y9), (4, vI 3), (5, vI (85 * l + 80 + 2 * (y9 / 4) + (x9 / 4)))] [vI (85 * l + 84 + 1 * (y9 / 8) + (x9 / 8))] _ _ _
    refine st_istore C dX8_throwOutOver_23 (by decide) rfl ?_
    show T x 25 [(0, vR t), (1, vI l), (2, vI x9), (3, vI y9), (4, vI 3), (5, vI (85 * l + 84 + 1 * (y9 / 8) + (x9 / 8)))] [] _ _ _
    refine st_iload C dX8_throwOutOver_25 rfl ?_
    refine st_if_lt (tgt := 48) C dX8_throwOutOver_27 (by decide) (fun c_27 => by omega) (fun c_27 => ?_)
    refine st_iload C dX8_throwOutOver_30 rfl ?_
    refine st_aload_n C 0 dX8_throwOutOver_32 rfl rfl ?_
    refine st_getf C dX8_throwOutOver_33 fl_X8_15 (hput_o (by omega) (hput_o (by omega) (hput_o (by omega) ht))) rfl ?_
    refine st_alenI C dX8_throwOutOver_36 hput_s (by decide) ?_
    show T x 37 [(0, vR t), (1, vI l), (2, vI x9), (3, vI y9), (4, vI 3), (5, vI (85 * l + 84 + 1 * (y9 / 8) + (x9 / 8)))] [vI 255, vI (85 * l + 84 + 1 * (y9 / 8) + (x9 / 8))] _ _ _
    refine st_icmp_ge (tgt := 48) C dX8_throwOutOver_37 (by decide) (fun c_37 => ?_) (fun c_37 => ?_)
    · refine st_iinc C dX8_throwOutOver_48 rfl (by decide) rfl ⟨(by omega), (by omega)⟩ ?_
      show T x 51 [(0, vR t), (1, vI l), (2, vI x9), (3, vI y9), (4, vI 4), (5, vI (85 * l + 84 + 1 * (y9 / 8) + (x9 / 8)))] [] _ _ _
      refine st_goto (tgt := 3) C dX8_throwOutOver_51 (by decide) ?_
      refine st_iload C dX8_throwOutOver_3 rfl ?_
      refine st_iconst C dX8_throwOutOver_5 (by decide) ?_
      refine st_icmp_ge (tgt := 54) C dX8_throwOutOver_6 (by decide) (fun c_6 => ?_) (fun c_6 => by omega)
      exact st_return C F dX8_throwOutOver_54 rfl (by first | exact rt_n (by rw [hput_hput, hput_hput, hput_hput]; rfl) | (exfalso; omega)) (by omega) (by omega)
    · refine st_aload_n C 0 dX8_throwOutOver_40 rfl rfl ?_
      refine st_getf C dX8_throwOutOver_41 fl_X8_15 (hput_o (by omega) (hput_o (by omega) (hput_o (by omega) ht))) rfl ?_
      refine st_iload C dX8_throwOutOver_44 rfl ?_
      refine st_iconst C dX8_throwOutOver_46 (by decide) ?_
      refine st_iast C dX8_throwOutOver_47 hput_s (by omega) (by omega) ?_
      refine st_iinc C dX8_throwOutOver_48 rfl (by decide) rfl ⟨(by omega), (by omega)⟩ ?_
      show T x 51 [(0, vR t), (1, vI l), (2, vI x9), (3, vI y9), (4, vI 4), (5, vI (85 * l + 84 + 1 * (y9 / 8) + (x9 / 8)))] [] _ _ _
      refine st_goto (tgt := 3) C dX8_throwOutOver_51 (by decide) ?_
      refine st_iload C dX8_throwOutOver_3 rfl ?_
      refine st_iconst C dX8_throwOutOver_5 (by decide) ?_
      refine st_icmp_ge (tgt := 54) C dX8_throwOutOver_6 (by decide) (fun c_6 => ?_) (fun c_6 => by omega)
      exact st_return C F dX8_throwOutOver_54 rfl (by first | exact rt_n (by rw [hput_hput, hput_hput, hput_hput]; rfl) | (exfalso; omega)) (by omega) (by omega)
set_option maxRecDepth 20000 in
set_option maxHeartbeats 4000000 in
theorem k_throwOutUnlike {g : Gx} {h : HP} {t A r q : Nat} {mk : Int} {af rf qf : Int → Int} (ht : h t = some (oO 7 [vI mk, vR A])) (hA : h A = some (oI 255 af)) (n3 : A ≠ t) (hr : h r = some (oI 304 rf)) (hq : h q = some (oI 304 qf)) (n1 : r ≠ A) (n2 : q ≠ A) : Ct g yX8_throwOutUnlike (.code yX8_throwOutUnlike cX8_throwOutUnlike 5 none) 3 0 0 [vR t, vR r, vR q] h (Rt none (hput h A (oI 255 (thU af rf qf 192)))) := by
  refine Ct.of (by decide) (Nat.le_of_ble_eq_true rfl) (fun x hg C F => ?_)
  subst hg
  show T x 0 [(0, vR t), (1, vR r), (2, vR q)] [] h 0 0
  refine st_iconst C dX8_throwOutUnlike_0 (by decide) ?_
  refine st_istore_n C 3 dX8_throwOutUnlike_1 rfl (by decide) rfl ?_
  show T x 2 [(0, vR t), (1, vR r), (2, vR q), (3, vI 0)] [] _ _ _
  have loop_2 : ∀ (n_2 : Nat) (l1 : Int) (h1 : HP), (0 ≤ l1) → (l1 ≤ 3) → (h1 = hput h A (oI 255 (thU af rf qf (64 * l1).toNat))) → (3 - l1).toNat < n_2 → T x 2 [(0, vR t), (1, vR r), (2, vR q), (3, vI l1)] [] h1 0 0 := by
    intro n_2
    induction n_2 with
    | zero => intro l1 h1 g1 g2 hh hm_2; exact absurd hm_2 (Nat.not_lt_zero _)
    | succ n_2 ih_2 =>
      intro l1 h1 g1 g2 hh hm_2
      refine st_iload_n C 3 dX8_throwOutUnlike_2 rfl rfl ?_
      refine st_iconst C dX8_throwOutUnlike_3 (by decide) ?_
      refine st_icmp_ge (tgt := 61) C dX8_throwOutUnlike_4 (by decide) (fun c_4 => ?_) (fun c_4 => ?_)
      · exact st_return C F dX8_throwOutUnlike_61 rfl (rt_n (by rw [hh, show l1 = 3 by omega]; rfl)) (by omega) (by omega)
      · refine st_iconst C dX8_throwOutUnlike_7 (by decide) ?_
        refine st_istore C dX8_throwOutUnlike_8 (by decide) rfl ?_
        show T x 10 [(0, vR t), (1, vR r), (2, vR q), (3, vI l1), (4, vI 0)] [] _ _ _
        have loop_10 : ∀ (n_10 : Nat) (p1 : Int) (h2 : HP), (0 ≤ p1) → (p1 ≤ 64) → (h2 = hput h A (oI 255 (thU af rf qf (64 * l1 + p1).toNat))) → (64 - p1).toNat < n_10 → T x 10 [(0, vR t), (1, vR r), (2, vR q), (3, vI l1), (4, vI p1)] [] h2 0 0 := by
          intro n_10
          induction n_10 with
          | zero => intro p1 h2 g3 g4 hh2 hm_10; exact absurd hm_10 (Nat.not_lt_zero _)
          | succ n_10 ih_10 =>
            intro p1 h2 g3 g4 hh2 hm_10
            refine st_iload C dX8_throwOutUnlike_10 rfl ?_
            refine st_bipush C dX8_throwOutUnlike_12 (by decide) (by decide) ?_
            refine st_icmp_ge (tgt := 55) C dX8_throwOutUnlike_14 (by decide) (fun c_14 => ?_) (fun c_14 => ?_)
            · refine st_iinc C dX8_throwOutUnlike_55 rfl (by decide) rfl ⟨(by omega), (by omega)⟩ ?_
              show T x 58 [(0, vR t), (1, vR r), (2, vR q), (3, vI (l1 + 1)), (4, vI p1)] [] _ _ _
              refine st_goto (tgt := 2) C dX8_throwOutUnlike_58 (by decide) ?_
              refine st_sub [0, 1, 2, 3] rfl ?_
              exact ih_2 (l1 + 1) h2 (by omega) (by omega) (by rw [hh2, show 64 * (l1 + 1) = 64 * l1 + p1 by omega]) (by omega)
            · refine st_aload_n C 1 dX8_throwOutUnlike_17 rfl rfl ?_
              refine st_iload_n C 3 dX8_throwOutUnlike_18 rfl rfl ?_
              refine st_iload C dX8_throwOutUnlike_19 rfl ?_
              refine st_callS (st := []) C dX8_throwOutUnlike_21 [vR r, vI l1, vI p1] (k_areaAt (f := rf) (l := l1) (p := p1) (by rw [hh2]; exact hput_o (by omega) hr) (by omega) (by omega)) w_X8_54 rfl (by decide) (by decide) (by omega) (by omega) (Nat.le_of_ble_eq_true rfl) (ko_rt ?_)
              show T x 24 [(0, vR t), (1, vR r), (2, vR q), (3, vI l1), (4, vI p1)] [vI (rf (64 * l1 + p1))] _ _ _
              refine st_aload_n C 2 dX8_throwOutUnlike_24 rfl rfl ?_
              refine st_iload_n C 3 dX8_throwOutUnlike_25 rfl rfl ?_
              refine st_iload C dX8_throwOutUnlike_26 rfl ?_
              refine st_callS (st := [vI (rf (64 * l1 + p1))]) C dX8_throwOutUnlike_28 [vR q, vI l1, vI p1] (k_areaAt (f := qf) (l := l1) (p := p1) (by rw [hh2]; exact hput_o (by omega) hq) (by omega) (by omega)) w_X8_54 rfl (by decide) (by decide) (by omega) (by omega) (Nat.le_of_ble_eq_true rfl) (ko_rt ?_)
              show T x 31 [(0, vR t), (1, vR r), (2, vR q), (3, vI l1), (4, vI p1)] [vI (qf (64 * l1 + p1)), vI (rf (64 * l1 + p1))] _ _ _
              refine st_icmp_eq (tgt := 49) C dX8_throwOutUnlike_31 (by decide) (fun c_31 => ?_) (fun c_31 => ?_)
              · refine st_iinc C dX8_throwOutUnlike_49 rfl (by decide) rfl ⟨(by omega), (by omega)⟩ ?_
                show T x 52 [(0, vR t), (1, vR r), (2, vR q), (3, vI l1), (4, vI (p1 + 1))] [] _ _ _
                refine st_goto (tgt := 10) C dX8_throwOutUnlike_52 (by decide) ?_
                exact ih_10 (p1 + 1) h2 (by omega) (by omega) (by first | rw [hh2, thU_f (by omega) (by omega) (by assumption)] | rw [hh2, hput_hput, thU_t (by omega) (by omega) (by assumption)]) (by omega)
              · refine st_aload_n C 0 dX8_throwOutUnlike_34 rfl rfl ?_
                refine st_iload_n C 3 dX8_throwOutUnlike_35 rfl rfl ?_
                refine st_iload C dX8_throwOutUnlike_36 rfl ?_
                refine st_bipush C dX8_throwOutUnlike_38 (by decide) (by decide) ?_
                refine st_irem C dX8_throwOutUnlike_40 (by omega) (by omega) ?_
                refine st_iload C dX8_throwOutUnlike_41 rfl ?_
                refine st_bipush C dX8_throwOutUnlike_43 (by decide) (by decide) ?_
                refine st_idiv C dX8_throwOutUnlike_45 (by omega) (by omega) ?_
                refine st_callV (st := []) C dX8_throwOutUnlike_46 [vI l1, vI (p1 % 8), vI (p1 / 8)] (k_throwOutOver (af := (thU af rf qf (64 * l1 + p1).toNat)) (l := l1) (x9 := (p1 % 8)) (y9 := (p1 / 8)) (by rw [hh2]; exact hput_o (by omega) ht) (by rw [hh2]; exact hput_s) (by omega) (by omega) (by omega) (by omega)) (by rw [hh2]; exact hput_o (by omega) ht) w_X8_58 rfl (by decide) (by decide) (by omega) (by omega) (Nat.le_of_ble_eq_true rfl) (ko_rn ?_)
                show T x 49 [(0, vR t), (1, vR r), (2, vR q), (3, vI l1), (4, vI p1)] [] (hput h2 A (oI 255 (thr (thU af rf qf (64 * l1 + p1).toNat) l1 (p1 % 8) (p1 / 8)))) _ _
                refine st_iinc C dX8_throwOutUnlike_49 rfl (by decide) rfl ⟨(by omega), (by omega)⟩ ?_
                show T x 52 [(0, vR t), (1, vR r), (2, vR q), (3, vI l1), (4, vI (p1 + 1))] [] _ _ _
                refine st_goto (tgt := 10) C dX8_throwOutUnlike_52 (by decide) ?_
                exact ih_10 (p1 + 1) (hput h2 A (oI 255 (thr (thU af rf qf (64 * l1 + p1).toNat) l1 (p1 % 8) (p1 / 8)))) (by omega) (by omega) (by first | rw [hh2, thU_f (by omega) (by omega) (by assumption)] | rw [hh2, hput_hput, thU_t (by omega) (by omega) (by assumption)]) (by omega)
        exact loop_10 _ 0 h1 (by omega) (by omega) (by rw [hh, Int.add_zero]) (Nat.lt_succ_self _)
  exact loop_2 _ 0 h (by omega) (by omega) (by exact (hput_self hA).symm) (Nat.lt_succ_self _)
/-- a layer's tiles of one scale are right where they are kept -/
def TR (af mf : Int → Int) (fs n s l : Int) : Prop := ∀ x y, 0 ≤ x → x < n → 0 ≤ y → y < n → af (slV fs n l x y) ≠ -1 → af (slV fs n l x y) = mcaV mf l s x y
def TilR (af mf : Int → Int) : Prop := ∀ l, 0 ≤ l → l ≤ 2 → TR af mf 0 8 1 l ∧ TR af mf 64 4 2 l ∧ TR af mf 80 2 4 l ∧ TR af mf 84 1 8 l
set_option maxRecDepth 20000 in
set_option maxHeartbeats 4000000 in
theorem k_areRightOn0 {g : Gx} {h : HP} {t A m : Nat} {mk : Int} {af mf : Int → Int} {l : Int} (ht : h t = some (oO 7 [vI mk, vR A])) (hA : h A = some (oI 255 af)) (hm : h m = some (oI 304 mf)) (hl : 0 ≤ l ∧ l ≤ 2) (hT : TR af mf 0 8 1 l) : Ct g yX8_areRightOn (.code yX8_areRightOn cX8_areRightOn 8 (some .boolean)) 4 0 0 [vR t, vR m, vI 0, vI l] h (Rt (some (vI 1)) h) := by
  refine Ct.of (by decide) (Nat.le_of_ble_eq_true rfl) (fun x hg C F => ?_)
  subst hg
  show T x 0 [(0, vR t), (1, vR m), (2, vI 0), (3, vI l)] [] h 0 0
  refine st_bipush C dX8_areRightOn_0 (by decide) (by decide) ?_
  refine st_iload_n C 2 dX8_areRightOn_2 rfl rfl ?_
  refine st_ishr C 0 dX8_areRightOn_3 (by omega) (by decide) ?_
  show T x 4 [(0, vR t), (1, vR m), (2, vI 0), (3, vI l)] [vI 8] _ _ _
  refine st_istore C dX8_areRightOn_4 (by decide) rfl ?_
  show T x 6 [(0, vR t), (1, vR m), (2, vI 0), (3, vI l), (4, vI 8)] [] _ _ _
  refine st_iconst C dX8_areRightOn_6 (by decide) ?_
  refine st_istore C dX8_areRightOn_7 (by decide) rfl ?_
  show T x 9 [(0, vR t), (1, vR m), (2, vI 0), (3, vI l), (4, vI 8), (5, vI 0)] [] _ _ _
  have loop_9 : ∀ (n_9 : Nat) (i : Int), (0 ≤ i) → (i ≤ 8) → (8 - i).toNat < n_9 → T x 9 [(0, vR t), (1, vR m), (2, vI 0), (3, vI l), (4, vI 8), (5, vI i)] [] h 0 0 := by
    intro n_9
    induction n_9 with
    | zero => intro i g1 g2 hm_9; exact absurd hm_9 (Nat.not_lt_zero _)
    | succ n_9 ih_9 =>
      intro i g1 g2 hm_9
      refine st_iload C dX8_areRightOn_9 rfl ?_
      refine st_iload C dX8_areRightOn_11 rfl ?_
      refine st_icmp_ge (tgt := 84) C dX8_areRightOn_13 (by decide) (fun c_13 => ?_) (fun c_13 => ?_)
      · refine st_iconst C dX8_areRightOn_84 (by decide) ?_
        exact st_zreturn C F dX8_areRightOn_85 rfl (by omega) (rt_i (by first | rfl | exact absurd (hT j i (by omega) (by omega) (by omega) (by omega) b_44) (by assumption)) rfl) (by omega) (by omega)
      · refine st_iconst C dX8_areRightOn_16 (by decide) ?_
        refine st_istore C dX8_areRightOn_17 (by decide) rfl ?_
        show T x 19 [(0, vR t), (1, vR m), (2, vI 0), (3, vI l), (4, vI 8), (5, vI i), (6, vI 0)] [] _ _ _
        have loop_19 : ∀ (n_19 : Nat) (j : Int), (0 ≤ j) → (j ≤ 8) → (8 - j).toNat < n_19 → T x 19 [(0, vR t), (1, vR m), (2, vI 0), (3, vI l), (4, vI 8), (5, vI i), (6, vI j)] [] h 0 0 := by
          intro n_19
          induction n_19 with
          | zero => intro j g3 g4 hm_19; exact absurd hm_19 (Nat.not_lt_zero _)
          | succ n_19 ih_19 =>
            intro j g3 g4 hm_19
            refine st_iload C dX8_areRightOn_19 rfl ?_
            refine st_iload C dX8_areRightOn_21 rfl ?_
            refine st_icmp_ge (tgt := 78) C dX8_areRightOn_23 (by decide) (fun c_23 => ?_) (fun c_23 => ?_)
            · refine st_iinc C dX8_areRightOn_78 rfl (by decide) rfl ⟨(by omega), (by omega)⟩ ?_
              show T x 81 [(0, vR t), (1, vR m), (2, vI 0), (3, vI l), (4, vI 8), (5, vI (i + 1)), (6, vI j)] [] _ _ _
              refine st_goto (tgt := 9) C dX8_areRightOn_81 (by decide) ?_
              refine st_sub [0, 1, 2, 3, 4, 5] rfl ?_
              exact ih_9 (i + 1) (by omega) (by omega) (by omega)
            · refine st_iload_n C 2 dX8_areRightOn_26 rfl rfl ?_
              refine st_iload_n C 3 dX8_areRightOn_27 rfl rfl ?_
              refine st_iload C dX8_areRightOn_28 rfl ?_
              refine st_iload C dX8_areRightOn_30 rfl ?_
              refine st_callS (st := []) C dX8_areRightOn_32 [vI 0, vI l, vI j, vI i] (k_slotOf0 (l := l) (x9 := j) (y9 := i) (by omega) (by omega) (by omega)) w_X8_40 rfl (by decide) (by decide) (by omega) (by omega) (Nat.le_of_ble_eq_true rfl) (ko_rt ?_)
              show T x 35 [(0, vR t), (1, vR m), (2, vI 0), (3, vI l), (4, vI 8), (5, vI i), (6, vI j)] [vI (85 * l + 0 + 8 * i + j)] _ _ _
              refine st_istore C dX8_areRightOn_35 (by decide) rfl ?_
              show T x 37 [(0, vR t), (1, vR m), (2, vI 0), (3, vI l), (4, vI 8), (5, vI i), (6, vI j), (7, vI (85 * l + 0 + 8 * i + j))] [] _ _ _
              refine st_aload_n C 0 dX8_areRightOn_37 rfl rfl ?_
              refine st_iload_n C 2 dX8_areRightOn_38 rfl rfl ?_
              refine st_iload_n C 3 dX8_areRightOn_39 rfl rfl ?_
              refine st_iload C dX8_areRightOn_40 rfl ?_
              refine st_iload C dX8_areRightOn_42 rfl ?_
              by_cases b_44 : af (85 * l + 0 + 8 * i + j) ≠ -1
              · refine st_callV (st := []) C dX8_areRightOn_44 [vI 0, vI l, vI j, vI i] (k_holds0_t (af := af) (l := l) (x9 := j) (y9 := i) ht hA (by omega) (by omega) (by omega) b_44) ht w_X8_66 rfl (by decide) (by decide) (by omega) (by omega) (Nat.le_of_ble_eq_true rfl) (ko_rt ?_)
                show T x 47 [(0, vR t), (1, vR m), (2, vI 0), (3, vI l), (4, vI 8), (5, vI i), (6, vI j), (7, vI (85 * l + 0 + 8 * i + j))] [vI 1] _ _ _
                refine st_if_eq (tgt := 72) C dX8_areRightOn_47 (by decide) (fun c_47 => by omega) (fun c_47 => ?_)
                refine st_aload_n C 0 dX8_areRightOn_50 rfl rfl ?_
                refine st_getf C dX8_areRightOn_51 fl_X8_15 ht rfl ?_
                refine st_iload C dX8_areRightOn_54 rfl ?_
                refine st_iald C dX8_areRightOn_56 hA (by omega) (by omega) ?_
                refine st_aload_n C 1 dX8_areRightOn_57 rfl rfl ?_
                refine st_iload_n C 2 dX8_areRightOn_58 rfl rfl ?_
                refine st_iload_n C 3 dX8_areRightOn_59 rfl rfl ?_
                refine st_iload C dX8_areRightOn_60 rfl ?_
                refine st_iload C dX8_areRightOn_62 rfl ?_
                refine st_callS (st := [vI (af (85 * l + 0 + 8 * i + j))]) C dX8_areRightOn_64 [vR m, vI 0, vI l, vI j, vI i] (k_mca0 (mf := mf) (l := l) (x9 := j) (y9 := i) hm (by omega) (by omega) (by omega)) w_X8_44 rfl (by decide) (by decide) (by omega) (by omega) (Nat.le_of_ble_eq_true rfl) (ko_rt ?_)
                show T x 67 [(0, vR t), (1, vR m), (2, vI 0), (3, vI l), (4, vI 8), (5, vI i), (6, vI j), (7, vI (85 * l + 0 + 8 * i + j))] [vI (mcaV mf l 1 j i), vI (af (85 * l + 0 + 8 * i + j))] _ _ _
                refine st_icmp_eq (tgt := 72) C dX8_areRightOn_67 (by decide) (fun c_67 => ?_) (fun c_67 => ?_)
                · refine st_iinc C dX8_areRightOn_72 rfl (by decide) rfl ⟨(by omega), (by omega)⟩ ?_
                  show T x 75 [(0, vR t), (1, vR m), (2, vI 0), (3, vI l), (4, vI 8), (5, vI i), (6, vI (j + 1)), (7, vI (85 * l + 0 + 8 * i + j))] [] _ _ _
                  refine st_goto (tgt := 19) C dX8_areRightOn_75 (by decide) ?_
                  refine st_sub [0, 1, 2, 3, 4, 5, 6] rfl ?_
                  exact ih_19 (j + 1) (by omega) (by omega) (by omega)
                · refine st_iconst C dX8_areRightOn_70 (by decide) ?_
                  exact st_zreturn C F dX8_areRightOn_71 rfl (by omega) (rt_i (by first | rfl | exact absurd (hT j i (by omega) (by omega) (by omega) (by omega) b_44) (by assumption)) rfl) (by omega) (by omega)
              · refine st_callV (st := []) C dX8_areRightOn_44 [vI 0, vI l, vI j, vI i] (k_holds0_f (af := af) (l := l) (x9 := j) (y9 := i) ht hA (by omega) (by omega) (by omega) b_44) ht w_X8_66 rfl (by decide) (by decide) (by omega) (by omega) (Nat.le_of_ble_eq_true rfl) (ko_rt ?_)
                show T x 47 [(0, vR t), (1, vR m), (2, vI 0), (3, vI l), (4, vI 8), (5, vI i), (6, vI j), (7, vI (85 * l + 0 + 8 * i + j))] [vI 0] _ _ _
                refine st_if_eq (tgt := 72) C dX8_areRightOn_47 (by decide) (fun c_47 => ?_) (fun c_47 => by omega)
                refine st_iinc C dX8_areRightOn_72 rfl (by decide) rfl ⟨(by omega), (by omega)⟩ ?_
                show T x 75 [(0, vR t), (1, vR m), (2, vI 0), (3, vI l), (4, vI 8), (5, vI i), (6, vI (j + 1)), (7, vI (85 * l + 0 + 8 * i + j))] [] _ _ _
                refine st_goto (tgt := 19) C dX8_areRightOn_75 (by decide) ?_
                refine st_sub [0, 1, 2, 3, 4, 5, 6] rfl ?_
                exact ih_19 (j + 1) (by omega) (by omega) (by omega)
        exact loop_19 _ 0 (by omega) (by omega) (Nat.lt_succ_self _)
  exact loop_9 _ 0 (by omega) (by omega) (Nat.lt_succ_self _)
set_option maxRecDepth 20000 in
set_option maxHeartbeats 4000000 in
theorem k_areRightOn1 {g : Gx} {h : HP} {t A m : Nat} {mk : Int} {af mf : Int → Int} {l : Int} (ht : h t = some (oO 7 [vI mk, vR A])) (hA : h A = some (oI 255 af)) (hm : h m = some (oI 304 mf)) (hl : 0 ≤ l ∧ l ≤ 2) (hT : TR af mf 64 4 2 l) : Ct g yX8_areRightOn (.code yX8_areRightOn cX8_areRightOn 8 (some .boolean)) 4 0 0 [vR t, vR m, vI 1, vI l] h (Rt (some (vI 1)) h) := by
  refine Ct.of (by decide) (Nat.le_of_ble_eq_true rfl) (fun x hg C F => ?_)
  subst hg
  show T x 0 [(0, vR t), (1, vR m), (2, vI 1), (3, vI l)] [] h 0 0
  refine st_bipush C dX8_areRightOn_0 (by decide) (by decide) ?_
  refine st_iload_n C 2 dX8_areRightOn_2 rfl rfl ?_
  refine st_ishr C 1 dX8_areRightOn_3 (by omega) (by decide) ?_
  show T x 4 [(0, vR t), (1, vR m), (2, vI 1), (3, vI l)] [vI 4] _ _ _
  refine st_istore C dX8_areRightOn_4 (by decide) rfl ?_
  show T x 6 [(0, vR t), (1, vR m), (2, vI 1), (3, vI l), (4, vI 4)] [] _ _ _
  refine st_iconst C dX8_areRightOn_6 (by decide) ?_
  refine st_istore C dX8_areRightOn_7 (by decide) rfl ?_
  show T x 9 [(0, vR t), (1, vR m), (2, vI 1), (3, vI l), (4, vI 4), (5, vI 0)] [] _ _ _
  have loop_9 : ∀ (n_9 : Nat) (i : Int), (0 ≤ i) → (i ≤ 4) → (4 - i).toNat < n_9 → T x 9 [(0, vR t), (1, vR m), (2, vI 1), (3, vI l), (4, vI 4), (5, vI i)] [] h 0 0 := by
    intro n_9
    induction n_9 with
    | zero => intro i g1 g2 hm_9; exact absurd hm_9 (Nat.not_lt_zero _)
    | succ n_9 ih_9 =>
      intro i g1 g2 hm_9
      refine st_iload C dX8_areRightOn_9 rfl ?_
      refine st_iload C dX8_areRightOn_11 rfl ?_
      refine st_icmp_ge (tgt := 84) C dX8_areRightOn_13 (by decide) (fun c_13 => ?_) (fun c_13 => ?_)
      · refine st_iconst C dX8_areRightOn_84 (by decide) ?_
        exact st_zreturn C F dX8_areRightOn_85 rfl (by omega) (rt_i (by first | rfl | exact absurd (hT j i (by omega) (by omega) (by omega) (by omega) b_44) (by assumption)) rfl) (by omega) (by omega)
      · refine st_iconst C dX8_areRightOn_16 (by decide) ?_
        refine st_istore C dX8_areRightOn_17 (by decide) rfl ?_
        show T x 19 [(0, vR t), (1, vR m), (2, vI 1), (3, vI l), (4, vI 4), (5, vI i), (6, vI 0)] [] _ _ _
        have loop_19 : ∀ (n_19 : Nat) (j : Int), (0 ≤ j) → (j ≤ 4) → (4 - j).toNat < n_19 → T x 19 [(0, vR t), (1, vR m), (2, vI 1), (3, vI l), (4, vI 4), (5, vI i), (6, vI j)] [] h 0 0 := by
          intro n_19
          induction n_19 with
          | zero => intro j g3 g4 hm_19; exact absurd hm_19 (Nat.not_lt_zero _)
          | succ n_19 ih_19 =>
            intro j g3 g4 hm_19
            refine st_iload C dX8_areRightOn_19 rfl ?_
            refine st_iload C dX8_areRightOn_21 rfl ?_
            refine st_icmp_ge (tgt := 78) C dX8_areRightOn_23 (by decide) (fun c_23 => ?_) (fun c_23 => ?_)
            · refine st_iinc C dX8_areRightOn_78 rfl (by decide) rfl ⟨(by omega), (by omega)⟩ ?_
              show T x 81 [(0, vR t), (1, vR m), (2, vI 1), (3, vI l), (4, vI 4), (5, vI (i + 1)), (6, vI j)] [] _ _ _
              refine st_goto (tgt := 9) C dX8_areRightOn_81 (by decide) ?_
              refine st_sub [0, 1, 2, 3, 4, 5] rfl ?_
              exact ih_9 (i + 1) (by omega) (by omega) (by omega)
            · refine st_iload_n C 2 dX8_areRightOn_26 rfl rfl ?_
              refine st_iload_n C 3 dX8_areRightOn_27 rfl rfl ?_
              refine st_iload C dX8_areRightOn_28 rfl ?_
              refine st_iload C dX8_areRightOn_30 rfl ?_
              refine st_callS (st := []) C dX8_areRightOn_32 [vI 1, vI l, vI j, vI i] (k_slotOf1 (l := l) (x9 := j) (y9 := i) (by omega) (by omega) (by omega)) w_X8_40 rfl (by decide) (by decide) (by omega) (by omega) (Nat.le_of_ble_eq_true rfl) (ko_rt ?_)
              show T x 35 [(0, vR t), (1, vR m), (2, vI 1), (3, vI l), (4, vI 4), (5, vI i), (6, vI j)] [vI (85 * l + 64 + 4 * i + j)] _ _ _
              refine st_istore C dX8_areRightOn_35 (by decide) rfl ?_
              show T x 37 [(0, vR t), (1, vR m), (2, vI 1), (3, vI l), (4, vI 4), (5, vI i), (6, vI j), (7, vI (85 * l + 64 + 4 * i + j))] [] _ _ _
              refine st_aload_n C 0 dX8_areRightOn_37 rfl rfl ?_
              refine st_iload_n C 2 dX8_areRightOn_38 rfl rfl ?_
              refine st_iload_n C 3 dX8_areRightOn_39 rfl rfl ?_
              refine st_iload C dX8_areRightOn_40 rfl ?_
              refine st_iload C dX8_areRightOn_42 rfl ?_
              by_cases b_44 : af (85 * l + 64 + 4 * i + j) ≠ -1
              · refine st_callV (st := []) C dX8_areRightOn_44 [vI 1, vI l, vI j, vI i] (k_holds1_t (af := af) (l := l) (x9 := j) (y9 := i) ht hA (by omega) (by omega) (by omega) b_44) ht w_X8_66 rfl (by decide) (by decide) (by omega) (by omega) (Nat.le_of_ble_eq_true rfl) (ko_rt ?_)
                show T x 47 [(0, vR t), (1, vR m), (2, vI 1), (3, vI l), (4, vI 4), (5, vI i), (6, vI j), (7, vI (85 * l + 64 + 4 * i + j))] [vI 1] _ _ _
                refine st_if_eq (tgt := 72) C dX8_areRightOn_47 (by decide) (fun c_47 => by omega) (fun c_47 => ?_)
                refine st_aload_n C 0 dX8_areRightOn_50 rfl rfl ?_
                refine st_getf C dX8_areRightOn_51 fl_X8_15 ht rfl ?_
                refine st_iload C dX8_areRightOn_54 rfl ?_
                refine st_iald C dX8_areRightOn_56 hA (by omega) (by omega) ?_
                refine st_aload_n C 1 dX8_areRightOn_57 rfl rfl ?_
                refine st_iload_n C 2 dX8_areRightOn_58 rfl rfl ?_
                refine st_iload_n C 3 dX8_areRightOn_59 rfl rfl ?_
                refine st_iload C dX8_areRightOn_60 rfl ?_
                refine st_iload C dX8_areRightOn_62 rfl ?_
                refine st_callS (st := [vI (af (85 * l + 64 + 4 * i + j))]) C dX8_areRightOn_64 [vR m, vI 1, vI l, vI j, vI i] (k_mca1 (mf := mf) (l := l) (x9 := j) (y9 := i) hm (by omega) (by omega) (by omega)) w_X8_44 rfl (by decide) (by decide) (by omega) (by omega) (Nat.le_of_ble_eq_true rfl) (ko_rt ?_)
                show T x 67 [(0, vR t), (1, vR m), (2, vI 1), (3, vI l), (4, vI 4), (5, vI i), (6, vI j), (7, vI (85 * l + 64 + 4 * i + j))] [vI (mcaV mf l 2 j i), vI (af (85 * l + 64 + 4 * i + j))] _ _ _
                refine st_icmp_eq (tgt := 72) C dX8_areRightOn_67 (by decide) (fun c_67 => ?_) (fun c_67 => ?_)
                · refine st_iinc C dX8_areRightOn_72 rfl (by decide) rfl ⟨(by omega), (by omega)⟩ ?_
                  show T x 75 [(0, vR t), (1, vR m), (2, vI 1), (3, vI l), (4, vI 4), (5, vI i), (6, vI (j + 1)), (7, vI (85 * l + 64 + 4 * i + j))] [] _ _ _
                  refine st_goto (tgt := 19) C dX8_areRightOn_75 (by decide) ?_
                  refine st_sub [0, 1, 2, 3, 4, 5, 6] rfl ?_
                  exact ih_19 (j + 1) (by omega) (by omega) (by omega)
                · refine st_iconst C dX8_areRightOn_70 (by decide) ?_
                  exact st_zreturn C F dX8_areRightOn_71 rfl (by omega) (rt_i (by first | rfl | exact absurd (hT j i (by omega) (by omega) (by omega) (by omega) b_44) (by assumption)) rfl) (by omega) (by omega)
              · refine st_callV (st := []) C dX8_areRightOn_44 [vI 1, vI l, vI j, vI i] (k_holds1_f (af := af) (l := l) (x9 := j) (y9 := i) ht hA (by omega) (by omega) (by omega) b_44) ht w_X8_66 rfl (by decide) (by decide) (by omega) (by omega) (Nat.le_of_ble_eq_true rfl) (ko_rt ?_)
                show T x 47 [(0, vR t), (1, vR m), (2, vI 1), (3, vI l), (4, vI 4), (5, vI i), (6, vI j), (7, vI (85 * l + 64 + 4 * i + j))] [vI 0] _ _ _
                refine st_if_eq (tgt := 72) C dX8_areRightOn_47 (by decide) (fun c_47 => ?_) (fun c_47 => by omega)
                refine st_iinc C dX8_areRightOn_72 rfl (by decide) rfl ⟨(by omega), (by omega)⟩ ?_
                show T x 75 [(0, vR t), (1, vR m), (2, vI 1), (3, vI l), (4, vI 4), (5, vI i), (6, vI (j + 1)), (7, vI (85 * l + 64 + 4 * i + j))] [] _ _ _
                refine st_goto (tgt := 19) C dX8_areRightOn_75 (by decide) ?_
                refine st_sub [0, 1, 2, 3, 4, 5, 6] rfl ?_
                exact ih_19 (j + 1) (by omega) (by omega) (by omega)
        exact loop_19 _ 0 (by omega) (by omega) (Nat.lt_succ_self _)
  exact loop_9 _ 0 (by omega) (by omega) (Nat.lt_succ_self _)
set_option maxRecDepth 20000 in
set_option maxHeartbeats 4000000 in
theorem k_areRightOn2 {g : Gx} {h : HP} {t A m : Nat} {mk : Int} {af mf : Int → Int} {l : Int} (ht : h t = some (oO 7 [vI mk, vR A])) (hA : h A = some (oI 255 af)) (hm : h m = some (oI 304 mf)) (hl : 0 ≤ l ∧ l ≤ 2) (hT : TR af mf 80 2 4 l) : Ct g yX8_areRightOn (.code yX8_areRightOn cX8_areRightOn 8 (some .boolean)) 4 0 0 [vR t, vR m, vI 2, vI l] h (Rt (some (vI 1)) h) := by
  refine Ct.of (by decide) (Nat.le_of_ble_eq_true rfl) (fun x hg C F => ?_)
  subst hg
  show T x 0 [(0, vR t), (1, vR m), (2, vI 2), (3, vI l)] [] h 0 0
  refine st_bipush C dX8_areRightOn_0 (by decide) (by decide) ?_
  refine st_iload_n C 2 dX8_areRightOn_2 rfl rfl ?_
  refine st_ishr C 2 dX8_areRightOn_3 (by omega) (by decide) ?_
  show T x 4 [(0, vR t), (1, vR m), (2, vI 2), (3, vI l)] [vI 2] _ _ _
  refine st_istore C dX8_areRightOn_4 (by decide) rfl ?_
  show T x 6 [(0, vR t), (1, vR m), (2, vI 2), (3, vI l), (4, vI 2)] [] _ _ _
  refine st_iconst C dX8_areRightOn_6 (by decide) ?_
  refine st_istore C dX8_areRightOn_7 (by decide) rfl ?_
  show T x 9 [(0, vR t), (1, vR m), (2, vI 2), (3, vI l), (4, vI 2), (5, vI 0)] [] _ _ _
  have loop_9 : ∀ (n_9 : Nat) (i : Int), (0 ≤ i) → (i ≤ 2) → (2 - i).toNat < n_9 → T x 9 [(0, vR t), (1, vR m), (2, vI 2), (3, vI l), (4, vI 2), (5, vI i)] [] h 0 0 := by
    intro n_9
    induction n_9 with
    | zero => intro i g1 g2 hm_9; exact absurd hm_9 (Nat.not_lt_zero _)
    | succ n_9 ih_9 =>
      intro i g1 g2 hm_9
      refine st_iload C dX8_areRightOn_9 rfl ?_
      refine st_iload C dX8_areRightOn_11 rfl ?_
      refine st_icmp_ge (tgt := 84) C dX8_areRightOn_13 (by decide) (fun c_13 => ?_) (fun c_13 => ?_)
      · refine st_iconst C dX8_areRightOn_84 (by decide) ?_
        exact st_zreturn C F dX8_areRightOn_85 rfl (by omega) (rt_i (by first | rfl | exact absurd (hT j i (by omega) (by omega) (by omega) (by omega) b_44) (by assumption)) rfl) (by omega) (by omega)
      · refine st_iconst C dX8_areRightOn_16 (by decide) ?_
        refine st_istore C dX8_areRightOn_17 (by decide) rfl ?_
        show T x 19 [(0, vR t), (1, vR m), (2, vI 2), (3, vI l), (4, vI 2), (5, vI i), (6, vI 0)] [] _ _ _
        have loop_19 : ∀ (n_19 : Nat) (j : Int), (0 ≤ j) → (j ≤ 2) → (2 - j).toNat < n_19 → T x 19 [(0, vR t), (1, vR m), (2, vI 2), (3, vI l), (4, vI 2), (5, vI i), (6, vI j)] [] h 0 0 := by
          intro n_19
          induction n_19 with
          | zero => intro j g3 g4 hm_19; exact absurd hm_19 (Nat.not_lt_zero _)
          | succ n_19 ih_19 =>
            intro j g3 g4 hm_19
            refine st_iload C dX8_areRightOn_19 rfl ?_
            refine st_iload C dX8_areRightOn_21 rfl ?_
            refine st_icmp_ge (tgt := 78) C dX8_areRightOn_23 (by decide) (fun c_23 => ?_) (fun c_23 => ?_)
            · refine st_iinc C dX8_areRightOn_78 rfl (by decide) rfl ⟨(by omega), (by omega)⟩ ?_
              show T x 81 [(0, vR t), (1, vR m), (2, vI 2), (3, vI l), (4, vI 2), (5, vI (i + 1)), (6, vI j)] [] _ _ _
              refine st_goto (tgt := 9) C dX8_areRightOn_81 (by decide) ?_
              refine st_sub [0, 1, 2, 3, 4, 5] rfl ?_
              exact ih_9 (i + 1) (by omega) (by omega) (by omega)
            · refine st_iload_n C 2 dX8_areRightOn_26 rfl rfl ?_
              refine st_iload_n C 3 dX8_areRightOn_27 rfl rfl ?_
              refine st_iload C dX8_areRightOn_28 rfl ?_
              refine st_iload C dX8_areRightOn_30 rfl ?_
              refine st_callS (st := []) C dX8_areRightOn_32 [vI 2, vI l, vI j, vI i] (k_slotOf2 (l := l) (x9 := j) (y9 := i) (by omega) (by omega) (by omega)) w_X8_40 rfl (by decide) (by decide) (by omega) (by omega) (Nat.le_of_ble_eq_true rfl) (ko_rt ?_)
              show T x 35 [(0, vR t), (1, vR m), (2, vI 2), (3, vI l), (4, vI 2), (5, vI i), (6, vI j)] [vI (85 * l + 80 + 2 * i + j)] _ _ _
              refine st_istore C dX8_areRightOn_35 (by decide) rfl ?_
              show T x 37 [(0, vR t), (1, vR m), (2, vI 2), (3, vI l), (4, vI 2), (5, vI i), (6, vI j), (7, vI (85 * l + 80 + 2 * i + j))] [] _ _ _
              refine st_aload_n C 0 dX8_areRightOn_37 rfl rfl ?_
              refine st_iload_n C 2 dX8_areRightOn_38 rfl rfl ?_
              refine st_iload_n C 3 dX8_areRightOn_39 rfl rfl ?_
              refine st_iload C dX8_areRightOn_40 rfl ?_
              refine st_iload C dX8_areRightOn_42 rfl ?_
              by_cases b_44 : af (85 * l + 80 + 2 * i + j) ≠ -1
              · refine st_callV (st := []) C dX8_areRightOn_44 [vI 2, vI l, vI j, vI i] (k_holds2_t (af := af) (l := l) (x9 := j) (y9 := i) ht hA (by omega) (by omega) (by omega) b_44) ht w_X8_66 rfl (by decide) (by decide) (by omega) (by omega) (Nat.le_of_ble_eq_true rfl) (ko_rt ?_)
                show T x 47 [(0, vR t), (1, vR m), (2, vI 2), (3, vI l), (4, vI 2), (5, vI i), (6, vI j), (7, vI (85 * l + 80 + 2 * i + j))] [vI 1] _ _ _
                refine st_if_eq (tgt := 72) C dX8_areRightOn_47 (by decide) (fun c_47 => by omega) (fun c_47 => ?_)
                refine st_aload_n C 0 dX8_areRightOn_50 rfl rfl ?_
                refine st_getf C dX8_areRightOn_51 fl_X8_15 ht rfl ?_
                refine st_iload C dX8_areRightOn_54 rfl ?_
                refine st_iald C dX8_areRightOn_56 hA (by omega) (by omega) ?_
                refine st_aload_n C 1 dX8_areRightOn_57 rfl rfl ?_
                refine st_iload_n C 2 dX8_areRightOn_58 rfl rfl ?_
                refine st_iload_n C 3 dX8_areRightOn_59 rfl rfl ?_
                refine st_iload C dX8_areRightOn_60 rfl ?_
                refine st_iload C dX8_areRightOn_62 rfl ?_
                refine st_callS (st := [vI (af (85 * l + 80 + 2 * i + j))]) C dX8_areRightOn_64 [vR m, vI 2, vI l, vI j, vI i] (k_mca2 (mf := mf) (l := l) (x9 := j) (y9 := i) hm (by omega) (by omega) (by omega)) w_X8_44 rfl (by decide) (by decide) (by omega) (by omega) (Nat.le_of_ble_eq_true rfl) (ko_rt ?_)
                show T x 67 [(0, vR t), (1, vR m), (2, vI 2), (3, vI l), (4, vI 2), (5, vI i), (6, vI j), (7, vI (85 * l + 80 + 2 * i + j))] [vI (mcaV mf l 4 j i), vI (af (85 * l + 80 + 2 * i + j))] _ _ _
                refine st_icmp_eq (tgt := 72) C dX8_areRightOn_67 (by decide) (fun c_67 => ?_) (fun c_67 => ?_)
                · refine st_iinc C dX8_areRightOn_72 rfl (by decide) rfl ⟨(by omega), (by omega)⟩ ?_
                  show T x 75 [(0, vR t), (1, vR m), (2, vI 2), (3, vI l), (4, vI 2), (5, vI i), (6, vI (j + 1)), (7, vI (85 * l + 80 + 2 * i + j))] [] _ _ _
                  refine st_goto (tgt := 19) C dX8_areRightOn_75 (by decide) ?_
                  refine st_sub [0, 1, 2, 3, 4, 5, 6] rfl ?_
                  exact ih_19 (j + 1) (by omega) (by omega) (by omega)
                · refine st_iconst C dX8_areRightOn_70 (by decide) ?_
                  exact st_zreturn C F dX8_areRightOn_71 rfl (by omega) (rt_i (by first | rfl | exact absurd (hT j i (by omega) (by omega) (by omega) (by omega) b_44) (by assumption)) rfl) (by omega) (by omega)
              · refine st_callV (st := []) C dX8_areRightOn_44 [vI 2, vI l, vI j, vI i] (k_holds2_f (af := af) (l := l) (x9 := j) (y9 := i) ht hA (by omega) (by omega) (by omega) b_44) ht w_X8_66 rfl (by decide) (by decide) (by omega) (by omega) (Nat.le_of_ble_eq_true rfl) (ko_rt ?_)
                show T x 47 [(0, vR t), (1, vR m), (2, vI 2), (3, vI l), (4, vI 2), (5, vI i), (6, vI j), (7, vI (85 * l + 80 + 2 * i + j))] [vI 0] _ _ _
                refine st_if_eq (tgt := 72) C dX8_areRightOn_47 (by decide) (fun c_47 => ?_) (fun c_47 => by omega)
                refine st_iinc C dX8_areRightOn_72 rfl (by decide) rfl ⟨(by omega), (by omega)⟩ ?_
                show T x 75 [(0, vR t), (1, vR m), (2, vI 2), (3, vI l), (4, vI 2), (5, vI i), (6, vI (j + 1)), (7, vI (85 * l + 80 + 2 * i + j))] [] _ _ _
                refine st_goto (tgt := 19) C dX8_areRightOn_75 (by decide) ?_
                refine st_sub [0, 1, 2, 3, 4, 5, 6] rfl ?_
                exact ih_19 (j + 1) (by omega) (by omega) (by omega)
        exact loop_19 _ 0 (by omega) (by omega) (Nat.lt_succ_self _)
  exact loop_9 _ 0 (by omega) (by omega) (Nat.lt_succ_self _)
set_option maxRecDepth 20000 in
set_option maxHeartbeats 4000000 in
theorem k_areRightOn3 {g : Gx} {h : HP} {t A m : Nat} {mk : Int} {af mf : Int → Int} {l : Int} (ht : h t = some (oO 7 [vI mk, vR A])) (hA : h A = some (oI 255 af)) (hm : h m = some (oI 304 mf)) (hl : 0 ≤ l ∧ l ≤ 2) (hT : TR af mf 84 1 8 l) : Ct g yX8_areRightOn (.code yX8_areRightOn cX8_areRightOn 8 (some .boolean)) 4 0 0 [vR t, vR m, vI 3, vI l] h (Rt (some (vI 1)) h) := by
  refine Ct.of (by decide) (Nat.le_of_ble_eq_true rfl) (fun x hg C F => ?_)
  subst hg
  show T x 0 [(0, vR t), (1, vR m), (2, vI 3), (3, vI l)] [] h 0 0
  refine st_bipush C dX8_areRightOn_0 (by decide) (by decide) ?_
  refine st_iload_n C 2 dX8_areRightOn_2 rfl rfl ?_
  refine st_ishr C 3 dX8_areRightOn_3 (by omega) (by decide) ?_
  show T x 4 [(0, vR t), (1, vR m), (2, vI 3), (3, vI l)] [vI 1] _ _ _
  refine st_istore C dX8_areRightOn_4 (by decide) rfl ?_
  show T x 6 [(0, vR t), (1, vR m), (2, vI 3), (3, vI l), (4, vI 1)] [] _ _ _
  refine st_iconst C dX8_areRightOn_6 (by decide) ?_
  refine st_istore C dX8_areRightOn_7 (by decide) rfl ?_
  show T x 9 [(0, vR t), (1, vR m), (2, vI 3), (3, vI l), (4, vI 1), (5, vI 0)] [] _ _ _
  have loop_9 : ∀ (n_9 : Nat) (i : Int), (0 ≤ i) → (i ≤ 1) → (1 - i).toNat < n_9 → T x 9 [(0, vR t), (1, vR m), (2, vI 3), (3, vI l), (4, vI 1), (5, vI i)] [] h 0 0 := by
    intro n_9
    induction n_9 with
    | zero => intro i g1 g2 hm_9; exact absurd hm_9 (Nat.not_lt_zero _)
    | succ n_9 ih_9 =>
      intro i g1 g2 hm_9
      refine st_iload C dX8_areRightOn_9 rfl ?_
      refine st_iload C dX8_areRightOn_11 rfl ?_
      refine st_icmp_ge (tgt := 84) C dX8_areRightOn_13 (by decide) (fun c_13 => ?_) (fun c_13 => ?_)
      · refine st_iconst C dX8_areRightOn_84 (by decide) ?_
        exact st_zreturn C F dX8_areRightOn_85 rfl (by omega) (rt_i (by first | rfl | exact absurd (hT j i (by omega) (by omega) (by omega) (by omega) b_44) (by assumption)) rfl) (by omega) (by omega)
      · refine st_iconst C dX8_areRightOn_16 (by decide) ?_
        refine st_istore C dX8_areRightOn_17 (by decide) rfl ?_
        show T x 19 [(0, vR t), (1, vR m), (2, vI 3), (3, vI l), (4, vI 1), (5, vI i), (6, vI 0)] [] _ _ _
        have loop_19 : ∀ (n_19 : Nat) (j : Int), (0 ≤ j) → (j ≤ 1) → (1 - j).toNat < n_19 → T x 19 [(0, vR t), (1, vR m), (2, vI 3), (3, vI l), (4, vI 1), (5, vI i), (6, vI j)] [] h 0 0 := by
          intro n_19
          induction n_19 with
          | zero => intro j g3 g4 hm_19; exact absurd hm_19 (Nat.not_lt_zero _)
          | succ n_19 ih_19 =>
            intro j g3 g4 hm_19
            refine st_iload C dX8_areRightOn_19 rfl ?_
            refine st_iload C dX8_areRightOn_21 rfl ?_
            refine st_icmp_ge (tgt := 78) C dX8_areRightOn_23 (by decide) (fun c_23 => ?_) (fun c_23 => ?_)
            · refine st_iinc C dX8_areRightOn_78 rfl (by decide) rfl ⟨(by omega), (by omega)⟩ ?_
              show T x 81 [(0, vR t), (1, vR m), (2, vI 3), (3, vI l), (4, vI 1), (5, vI (i + 1)), (6, vI j)] [] _ _ _
              refine st_goto (tgt := 9) C dX8_areRightOn_81 (by decide) ?_
              refine st_sub [0, 1, 2, 3, 4, 5] rfl ?_
              exact ih_9 (i + 1) (by omega) (by omega) (by omega)
            · refine st_iload_n C 2 dX8_areRightOn_26 rfl rfl ?_
              refine st_iload_n C 3 dX8_areRightOn_27 rfl rfl ?_
              refine st_iload C dX8_areRightOn_28 rfl ?_
              refine st_iload C dX8_areRightOn_30 rfl ?_
              refine st_callS (st := []) C dX8_areRightOn_32 [vI 3, vI l, vI j, vI i] (k_slotOf3 (l := l) (x9 := j) (y9 := i) (by omega) (by omega) (by omega)) w_X8_40 rfl (by decide) (by decide) (by omega) (by omega) (Nat.le_of_ble_eq_true rfl) (ko_rt ?_)
              show T x 35 [(0, vR t), (1, vR m), (2, vI 3), (3, vI l), (4, vI 1), (5, vI i), (6, vI j)] [vI (85 * l + 84 + 1 * i + j)] _ _ _
              refine st_istore C dX8_areRightOn_35 (by decide) rfl ?_
              show T x 37 [(0, vR t), (1, vR m), (2, vI 3), (3, vI l), (4, vI 1), (5, vI i), (6, vI j), (7, vI (85 * l + 84 + 1 * i + j))] [] _ _ _
              refine st_aload_n C 0 dX8_areRightOn_37 rfl rfl ?_
              refine st_iload_n C 2 dX8_areRightOn_38 rfl rfl ?_
              refine st_iload_n C 3 dX8_areRightOn_39 rfl rfl ?_
              refine st_iload C dX8_areRightOn_40 rfl ?_
              refine st_iload C dX8_areRightOn_42 rfl ?_
              by_cases b_44 : af (85 * l + 84 + 1 * i + j) ≠ -1
              · refine st_callV (st := []) C dX8_areRightOn_44 [vI 3, vI l, vI j, vI i] (k_holds3_t (af := af) (l := l) (x9 := j) (y9 := i) ht hA (by omega) (by omega) (by omega) b_44) ht w_X8_66 rfl (by decide) (by decide) (by omega) (by omega) (Nat.le_of_ble_eq_true rfl) (ko_rt ?_)
                show T x 47 [(0, vR t), (1, vR m), (2, vI 3), (3, vI l), (4, vI 1), (5, vI i), (6, vI j), (7, vI (85 * l + 84 + 1 * i + j))] [vI 1] _ _ _
                refine st_if_eq (tgt := 72) C dX8_areRightOn_47 (by decide) (fun c_47 => by omega) (fun c_47 => ?_)
                refine st_aload_n C 0 dX8_areRightOn_50 rfl rfl ?_
                refine st_getf C dX8_areRightOn_51 fl_X8_15 ht rfl ?_
                refine st_iload C dX8_areRightOn_54 rfl ?_
                refine st_iald C dX8_areRightOn_56 hA (by omega) (by omega) ?_
                refine st_aload_n C 1 dX8_areRightOn_57 rfl rfl ?_
                refine st_iload_n C 2 dX8_areRightOn_58 rfl rfl ?_
                refine st_iload_n C 3 dX8_areRightOn_59 rfl rfl ?_
                refine st_iload C dX8_areRightOn_60 rfl ?_
                refine st_iload C dX8_areRightOn_62 rfl ?_
                refine st_callS (st := [vI (af (85 * l + 84 + 1 * i + j))]) C dX8_areRightOn_64 [vR m, vI 3, vI l, vI j, vI i] (k_mca3 (mf := mf) (l := l) (x9 := j) (y9 := i) hm (by omega) (by omega) (by omega)) w_X8_44 rfl (by decide) (by decide) (by omega) (by omega) (Nat.le_of_ble_eq_true rfl) (ko_rt ?_)
                show T x 67 [(0, vR t), (1, vR m), (2, vI 3), (3, vI l), (4, vI 1), (5, vI i), (6, vI j), (7, vI (85 * l + 84 + 1 * i + j))] [vI (mcaV mf l 8 j i), vI (af (85 * l + 84 + 1 * i + j))] _ _ _
                refine st_icmp_eq (tgt := 72) C dX8_areRightOn_67 (by decide) (fun c_67 => ?_) (fun c_67 => ?_)
                · refine st_iinc C dX8_areRightOn_72 rfl (by decide) rfl ⟨(by omega), (by omega)⟩ ?_
                  show T x 75 [(0, vR t), (1, vR m), (2, vI 3), (3, vI l), (4, vI 1), (5, vI i), (6, vI (j + 1)), (7, vI (85 * l + 84 + 1 * i + j))] [] _ _ _
                  refine st_goto (tgt := 19) C dX8_areRightOn_75 (by decide) ?_
                  refine st_sub [0, 1, 2, 3, 4, 5, 6] rfl ?_
                  exact ih_19 (j + 1) (by omega) (by omega) (by omega)
                · refine st_iconst C dX8_areRightOn_70 (by decide) ?_
                  exact st_zreturn C F dX8_areRightOn_71 rfl (by omega) (rt_i (by first | rfl | exact absurd (hT j i (by omega) (by omega) (by omega) (by omega) b_44) (by assumption)) rfl) (by omega) (by omega)
              · refine st_callV (st := []) C dX8_areRightOn_44 [vI 3, vI l, vI j, vI i] (k_holds3_f (af := af) (l := l) (x9 := j) (y9 := i) ht hA (by omega) (by omega) (by omega) b_44) ht w_X8_66 rfl (by decide) (by decide) (by omega) (by omega) (Nat.le_of_ble_eq_true rfl) (ko_rt ?_)
                show T x 47 [(0, vR t), (1, vR m), (2, vI 3), (3, vI l), (4, vI 1), (5, vI i), (6, vI j), (7, vI (85 * l + 84 + 1 * i + j))] [vI 0] _ _ _
                refine st_if_eq (tgt := 72) C dX8_areRightOn_47 (by decide) (fun c_47 => ?_) (fun c_47 => by omega)
                refine st_iinc C dX8_areRightOn_72 rfl (by decide) rfl ⟨(by omega), (by omega)⟩ ?_
                show T x 75 [(0, vR t), (1, vR m), (2, vI 3), (3, vI l), (4, vI 1), (5, vI i), (6, vI (j + 1)), (7, vI (85 * l + 84 + 1 * i + j))] [] _ _ _
                refine st_goto (tgt := 19) C dX8_areRightOn_75 (by decide) ?_
                refine st_sub [0, 1, 2, 3, 4, 5, 6] rfl ?_
                exact ih_19 (j + 1) (by omega) (by omega) (by omega)
        exact loop_19 _ 0 (by omega) (by omega) (Nat.lt_succ_self _)
  exact loop_9 _ 0 (by omega) (by omega) (Nat.lt_succ_self _)
set_option maxRecDepth 20000 in
set_option maxHeartbeats 4000000 in
theorem k_areRight {g : Gx} {h : HP} {t A m : Nat} {mk : Int} {af mf : Int → Int} (ht : h t = some (oO 7 [vI mk, vR A])) (hA : h A = some (oI 255 af)) (hm : h m = some (oI 304 mf)) (hT : TilR af mf) : Ct g yX8_areRight (.code yX8_areRight cX8_areRight 4 (some .boolean)) 5 0 0 [vR t, vR m] h (Rt (some (vI 1)) h) := by
  refine Ct.of (by decide) (Nat.le_of_ble_eq_true rfl) (fun x hg C F => ?_)
  subst hg
  show T x 0 [(0, vR t), (1, vR m)] [] h 0 0
  refine st_iconst C dX8_areRight_0 (by decide) ?_
  refine st_istore_n C 2 dX8_areRight_1 rfl (by decide) rfl ?_
  show T x 2 [(0, vR t), (1, vR m), (2, vI 0)] [] _ _ _
  have loop_2 : ∀ (n_2 : Nat) (l1 : Int), (0 ≤ l1) → (l1 ≤ 3) → (3 - l1).toNat < n_2 → T x 2 [(0, vR t), (1, vR m), (2, vI l1)] [] h 0 0 := by
    intro n_2
    induction n_2 with
    | zero => intro l1 g1 g2 hm_2; exact absurd hm_2 (Nat.not_lt_zero _)
    | succ n_2 ih_2 =>
      intro l1 g1 g2 hm_2
      refine st_iload_n C 2 dX8_areRight_2 rfl rfl ?_
      refine st_iconst C dX8_areRight_3 (by decide) ?_
      refine st_icmp_ge (tgt := 38) C dX8_areRight_4 (by decide) (fun c_4 => ?_) (fun c_4 => ?_)
      · refine st_iconst C dX8_areRight_38 (by decide) ?_
        exact st_zreturn C F dX8_areRight_39 rfl (by omega) ⟨rfl, rfl⟩ (by omega) (by omega)
      · refine st_iconst C dX8_areRight_7 (by decide) ?_
        refine st_istore_n C 3 dX8_areRight_8 rfl (by decide) rfl ?_
        show T x 9 [(0, vR t), (1, vR m), (2, vI l1), (3, vI 0)] [] _ _ _
        refine st_iload_n C 3 dX8_areRight_9 rfl rfl ?_
        refine st_iconst C dX8_areRight_10 (by decide) ?_
        refine st_icmp_ge (tgt := 32) C dX8_areRight_11 (by decide) (fun c_11 => by omega) (fun c_11 => ?_)
        refine st_aload_n C 0 dX8_areRight_14 rfl rfl ?_
        refine st_aload_n C 1 dX8_areRight_15 rfl rfl ?_
        refine st_iload_n C 3 dX8_areRight_16 rfl rfl ?_
        refine st_iload_n C 2 dX8_areRight_17 rfl rfl ?_
        refine st_callV (st := []) C dX8_areRight_18 [vR m, vI 0, vI l1] (k_areRightOn0 ht hA hm (by omega) (hT l1 (by omega) (by omega)).1) ht w_X8_62 rfl (by decide) (by decide) (by omega) (by omega) (Nat.le_of_ble_eq_true rfl) (ko_rt ?_)
        show T x 21 [(0, vR t), (1, vR m), (2, vI l1), (3, vI 0)] [vI 1] _ _ _
        refine st_if_ne (tgt := 26) C dX8_areRight_21 (by decide) (fun c_21 => ?_) (fun c_21 => by omega)
        refine st_iinc C dX8_areRight_26 rfl (by decide) rfl ⟨(by omega), (by omega)⟩ ?_
        show T x 29 [(0, vR t), (1, vR m), (2, vI l1), (3, vI 1)] [] _ _ _
        refine st_goto (tgt := 9) C dX8_areRight_29 (by decide) ?_
        refine st_iload_n C 3 dX8_areRight_9 rfl rfl ?_
        refine st_iconst C dX8_areRight_10 (by decide) ?_
        refine st_icmp_ge (tgt := 32) C dX8_areRight_11 (by decide) (fun c_11 => by omega) (fun c_11 => ?_)
        refine st_aload_n C 0 dX8_areRight_14 rfl rfl ?_
        refine st_aload_n C 1 dX8_areRight_15 rfl rfl ?_
        refine st_iload_n C 3 dX8_areRight_16 rfl rfl ?_
        refine st_iload_n C 2 dX8_areRight_17 rfl rfl ?_
        refine st_callV (st := []) C dX8_areRight_18 [vR m, vI 1, vI l1] (k_areRightOn1 ht hA hm (by omega) (hT l1 (by omega) (by omega)).2.1) ht w_X8_62 rfl (by decide) (by decide) (by omega) (by omega) (Nat.le_of_ble_eq_true rfl) (ko_rt ?_)
        show T x 21 [(0, vR t), (1, vR m), (2, vI l1), (3, vI 1)] [vI 1] _ _ _
        refine st_if_ne (tgt := 26) C dX8_areRight_21 (by decide) (fun c_21 => ?_) (fun c_21 => by omega)
        refine st_iinc C dX8_areRight_26 rfl (by decide) rfl ⟨(by omega), (by omega)⟩ ?_
        show T x 29 [(0, vR t), (1, vR m), (2, vI l1), (3, vI 2)] [] _ _ _
        refine st_goto (tgt := 9) C dX8_areRight_29 (by decide) ?_
        refine st_iload_n C 3 dX8_areRight_9 rfl rfl ?_
        refine st_iconst C dX8_areRight_10 (by decide) ?_
        refine st_icmp_ge (tgt := 32) C dX8_areRight_11 (by decide) (fun c_11 => by omega) (fun c_11 => ?_)
        refine st_aload_n C 0 dX8_areRight_14 rfl rfl ?_
        refine st_aload_n C 1 dX8_areRight_15 rfl rfl ?_
        refine st_iload_n C 3 dX8_areRight_16 rfl rfl ?_
        refine st_iload_n C 2 dX8_areRight_17 rfl rfl ?_
        refine st_callV (st := []) C dX8_areRight_18 [vR m, vI 2, vI l1] (k_areRightOn2 ht hA hm (by omega) (hT l1 (by omega) (by omega)).2.2.1) ht w_X8_62 rfl (by decide) (by decide) (by omega) (by omega) (Nat.le_of_ble_eq_true rfl) (ko_rt ?_)
        show T x 21 [(0, vR t), (1, vR m), (2, vI l1), (3, vI 2)] [vI 1] _ _ _
        refine st_if_ne (tgt := 26) C dX8_areRight_21 (by decide) (fun c_21 => ?_) (fun c_21 => by omega)
        refine st_iinc C dX8_areRight_26 rfl (by decide) rfl ⟨(by omega), (by omega)⟩ ?_
        show T x 29 [(0, vR t), (1, vR m), (2, vI l1), (3, vI 3)] [] _ _ _
        refine st_goto (tgt := 9) C dX8_areRight_29 (by decide) ?_
        refine st_iload_n C 3 dX8_areRight_9 rfl rfl ?_
        refine st_iconst C dX8_areRight_10 (by decide) ?_
        refine st_icmp_ge (tgt := 32) C dX8_areRight_11 (by decide) (fun c_11 => by omega) (fun c_11 => ?_)
        refine st_aload_n C 0 dX8_areRight_14 rfl rfl ?_
        refine st_aload_n C 1 dX8_areRight_15 rfl rfl ?_
        refine st_iload_n C 3 dX8_areRight_16 rfl rfl ?_
        refine st_iload_n C 2 dX8_areRight_17 rfl rfl ?_
        refine st_callV (st := []) C dX8_areRight_18 [vR m, vI 3, vI l1] (k_areRightOn3 ht hA hm (by omega) (hT l1 (by omega) (by omega)).2.2.2) ht w_X8_62 rfl (by decide) (by decide) (by omega) (by omega) (Nat.le_of_ble_eq_true rfl) (ko_rt ?_)
        show T x 21 [(0, vR t), (1, vR m), (2, vI l1), (3, vI 3)] [vI 1] _ _ _
        refine st_if_ne (tgt := 26) C dX8_areRight_21 (by decide) (fun c_21 => ?_) (fun c_21 => by omega)
        refine st_iinc C dX8_areRight_26 rfl (by decide) rfl ⟨(by omega), (by omega)⟩ ?_
        show T x 29 [(0, vR t), (1, vR m), (2, vI l1), (3, vI 4)] [] _ _ _
        refine st_goto (tgt := 9) C dX8_areRight_29 (by decide) ?_
        refine st_iload_n C 3 dX8_areRight_9 rfl rfl ?_
        refine st_iconst C dX8_areRight_10 (by decide) ?_
        refine st_icmp_ge (tgt := 32) C dX8_areRight_11 (by decide) (fun c_11 => ?_) (fun c_11 => by omega)
        refine st_iinc C dX8_areRight_32 rfl (by decide) rfl ⟨(by omega), (by omega)⟩ ?_
        show T x 35 [(0, vR t), (1, vR m), (2, vI (l1 + 1)), (3, vI 4)] [] _ _ _
        refine st_goto (tgt := 2) C dX8_areRight_35 (by decide) ?_
        refine st_sub [0, 1, 2] rfl ?_
        exact ih_2 (l1 + 1) (by omega) (by omega) (by omega)
  exact loop_2 _ 0 (by omega) (by omega) (Nat.lt_succ_self _)
set_option maxRecDepth 20000 in
set_option maxHeartbeats 4000000 in
theorem k_Tiles {g : Gx} {h : HP} {t A : Nat} (ht : h t = some (oO 7 [vI 0, vN])) (hA : h A = none) (n3 : A ≠ t) : Ct g yX8_init (.code yX8_init cX8_init 1 none) 2 1 255 [vR t] h (Rt none ((hput (hput (hput (hput h t (oO 7 [vI 0, vN])) A (oI 255 (fun _ => 0))) t (oO 7 [vI 0, vR A])) A (oI 255 (fmix (fun _ => (-1)) (fun _ => 0) 255))))) := by
  refine Ct.of (by decide) (Nat.le_of_ble_eq_true rfl) (fun x hg C F => ?_)
  subst hg
  show T x 0 [(0, vR t)] [] h 0 0
  refine st_aload_n C 0 dX8_init_0 rfl rfl ?_
  refine st_objInit C dX8_init_1 oi_X8_3 oi_2 oi_3 (by decide) (Nat.le_of_ble_eq_true rfl) ?_
  refine st_aload_n C 0 dX8_init_4 rfl rfl ?_
  refine st_iconst C dX8_init_5 (by decide) ?_
  refine st_putf C dX8_init_6 fp_X8_9 (fun q => by cases q) ht (Nat.le_of_ble_eq_true rfl) fit_int ?_
  show T x 9 [(0, vR t)] [] (hput h t (oO 7 [vI 0, vN])) _ _
  refine st_aload_n C 0 dX8_init_9 rfl rfl ?_
  refine st_sipush C dX8_init_10 (by decide) (by decide) ?_
  refine st_newI C 255 dX8_init_13 A rfl (by decide) ac_I (hput_o (by omega) hA) (by omega) (by omega) ?_
  show T x 15 [(0, vR t)] [vR A, vR t] (hput (hput h t (oO 7 [vI 0, vN])) A (oI 255 (fun _ => 0))) (0 + 1) (0 + 255)
  refine st_putf C dX8_init_15 fp_X8_15 (fun _ => rfl) (hput_o (by omega) hput_s) (Nat.le_of_ble_eq_true rfl) fit_arrR ?_
  show T x 18 [(0, vR t)] [] (hput (hput (hput h t (oO 7 [vI 0, vN])) A (oI 255 (fun _ => 0))) t (oO 7 [vI 0, vR A])) _ _
  refine st_aload_n C 0 dX8_init_18 rfl rfl ?_
  refine st_getf C dX8_init_19 fl_X8_15 hput_s rfl ?_
  refine st_iconst C dX8_init_22 (by decide) ?_
  refine st_callS (st := []) C dX8_init_23 [vR A, vI (-1)] (k_fill (n := 255) (f := (fun _ => 0)) (v := (-1)) (hput_o (by omega) hput_s) (by decide)) w_X8_19 rfl (by decide) (by decide) (by omega) (by omega) (Nat.le_of_ble_eq_true rfl) (ko_rn ?_)
  show T x 26 [(0, vR t)] [] (hput (hput (hput (hput h t (oO 7 [vI 0, vN])) A (oI 255 (fun _ => 0))) t (oO 7 [vI 0, vR A])) A (oI 255 (fmix (fun _ => (-1)) (fun _ => 0) 255))) _ _
  exact st_return C F dX8_init_26 rfl ⟨rfl, rfl⟩ (by omega) (by omega)
set_option maxRecDepth 20000 in
set_option maxHeartbeats 4000000 in
theorem k_Walk {g : Gx} {h : HP} {k : Nat} (hk : h k = some (oO 8 [vI 0, vI 0, vI 0, vI 0])) : Ct g yX9_init (.code yX9_init cX9_init 1 none) 1 0 0 [vR k] h (Rt none (hput h k (oO 8 [vI 0, vI (-1), vI 0, vI 0]))) := by
  refine Ct.of (by decide) (Nat.le_of_ble_eq_true rfl) (fun x hg C F => ?_)
  subst hg
  show T x 0 [(0, vR k)] [] h 0 0
  refine st_aload_n C 0 dX9_init_0 rfl rfl ?_
  refine st_objInit C dX9_init_1 oi_X9_3 oi_2 oi_3 (by decide) (Nat.le_of_ble_eq_true rfl) ?_
  refine st_aload_n C 0 dX9_init_4 rfl rfl ?_
  refine st_iconst C dX9_init_5 (by decide) ?_
  refine st_putf C dX9_init_6 fp_X9_9 (fun q => by cases q) hk (Nat.le_of_ble_eq_true rfl) (fit_bool (by omega)) ?_
  show T x 9 [(0, vR k)] [] (hput h k (oO 8 [vI 0, vI 0, vI 0, vI 0])) _ _
  refine st_aload_n C 0 dX9_init_9 rfl rfl ?_
  refine st_iconst C dX9_init_10 (by decide) ?_
  refine st_putf C dX9_init_11 fp_X9_15 (fun q => by cases q) hput_s (Nat.le_of_ble_eq_true rfl) fit_int ?_
  show T x 14 [(0, vR k)] [] (hput (hput h k (oO 8 [vI 0, vI 0, vI 0, vI 0])) k (oO 8 [vI 0, vI (-1), vI 0, vI 0])) _ _
  refine st_aload_n C 0 dX9_init_14 rfl rfl ?_
  refine st_iconst C dX9_init_15 (by decide) ?_
  refine st_putf C dX9_init_16 fp_X9_19 (fun q => by cases q) hput_s (Nat.le_of_ble_eq_true rfl) fit_int ?_
  show T x 19 [(0, vR k)] [] (hput (hput (hput h k (oO 8 [vI 0, vI 0, vI 0, vI 0])) k (oO 8 [vI 0, vI (-1), vI 0, vI 0])) k (oO 8 [vI 0, vI (-1), vI 0, vI 0])) _ _
  refine st_aload_n C 0 dX9_init_19 rfl rfl ?_
  refine st_iconst C dX9_init_20 (by decide) ?_
  refine st_putf C dX9_init_21 fp_X9_22 (fun q => by cases q) hput_s (Nat.le_of_ble_eq_true rfl) fit_int ?_
  show T x 24 [(0, vR k)] [] (hput (hput (hput (hput h k (oO 8 [vI 0, vI 0, vI 0, vI 0])) k (oO 8 [vI 0, vI (-1), vI 0, vI 0])) k (oO 8 [vI 0, vI (-1), vI 0, vI 0])) k (oO 8 [vI 0, vI (-1), vI 0, vI 0])) _ _
  exact st_return C F dX9_init_24 rfl (rt_n (by rw [hput_hput, hput_hput, hput_hput])) (by omega) (by omega)
set_option maxRecDepth 20000 in
set_option maxHeartbeats 4000000 in
theorem k_wBegin {g : Gx} {h : HP} {k : Nat} {bg la ly ar : Int} {l9 a9 : Int} (hk : h k = some (oO 8 [vI bg, vI la, vI ly, vI ar])) : Ct g yX9_begin (.code yX9_begin cX9_begin 3 none) 1 0 0 [vR k, vI l9, vI a9] h (Rt none (hput h k (oO 8 [vI 1, vI (-1), vI l9, vI a9]))) := by
  refine Ct.of (by decide) (Nat.le_of_ble_eq_true rfl) (fun x hg C F => ?_)
  subst hg
  show T x 0 [(0, vR k), (1, vI l9), (2, vI a9)] [] h 0 0
  refine st_aload_n C 0 dX9_begin_0 rfl rfl ?_
  refine st_iconst C dX9_begin_1 (by decide) ?_
  refine st_putf C dX9_begin_2 fp_X9_9 (fun q => by cases q) hk (Nat.le_of_ble_eq_true rfl) (fit_bool (by omega)) ?_
  show T x 5 [(0, vR k), (1, vI l9), (2, vI a9)] [] (hput h k (oO 8 [vI 1, vI la, vI ly, vI ar])) _ _
  refine st_aload_n C 0 dX9_begin_5 rfl rfl ?_
  refine st_iconst C dX9_begin_6 (by decide) ?_
  refine st_putf C dX9_begin_7 fp_X9_15 (fun q => by cases q) hput_s (Nat.le_of_ble_eq_true rfl) fit_int ?_
  show T x 10 [(0, vR k), (1, vI l9), (2, vI a9)] [] (hput (hput h k (oO 8 [vI 1, vI la, vI ly, vI ar])) k (oO 8 [vI 1, vI (-1), vI ly, vI ar])) _ _
  refine st_aload_n C 0 dX9_begin_10 rfl rfl ?_
  refine st_iload_n C 1 dX9_begin_11 rfl rfl ?_
  refine st_putf C dX9_begin_12 fp_X9_19 (fun q => by cases q) hput_s (Nat.le_of_ble_eq_true rfl) fit_int ?_
  show T x 15 [(0, vR k), (1, vI l9), (2, vI a9)] [] (hput (hput (hput h k (oO 8 [vI 1, vI la, vI ly, vI ar])) k (oO 8 [vI 1, vI (-1), vI ly, vI ar])) k (oO 8 [vI 1, vI (-1), vI l9, vI ar])) _ _
  refine st_aload_n C 0 dX9_begin_15 rfl rfl ?_
  refine st_iload_n C 2 dX9_begin_16 rfl rfl ?_
  refine st_putf C dX9_begin_17 fp_X9_22 (fun q => by cases q) hput_s (Nat.le_of_ble_eq_true rfl) fit_int ?_
  show T x 20 [(0, vR k), (1, vI l9), (2, vI a9)] [] (hput (hput (hput (hput h k (oO 8 [vI 1, vI la, vI ly, vI ar])) k (oO 8 [vI 1, vI (-1), vI ly, vI ar])) k (oO 8 [vI 1, vI (-1), vI l9, vI ar])) k (oO 8 [vI 1, vI (-1), vI l9, vI a9])) _ _
  exact st_return C F dX9_begin_20 rfl (rt_n (by rw [hput_hput, hput_hput, hput_hput])) (by omega) (by omega)
/-- the first place from i on, below 64, with P; -1 if none -/
def IsNext (P : Int → Prop) (i r : Int) : Prop := (i ≤ r ∧ r < 64 ∧ P r ∧ ∀ j, i ≤ j → j < r → ¬ P j) ∨ (r = -1 ∧ ∀ j, i ≤ j → j < 64 → ¬ P j)
theorem nx_at {P : Int → Prop} {i s r : Int} (h1 : s ≤ i) (h2 : i < 64) (h3 : ∀ j, s ≤ j → j < i → ¬ P j) (hp : P i) (hr : IsNext P s r) : i = r := by
  rcases hr with ⟨g1, g2, g3, g4⟩ | ⟨g1, g2⟩
  · rcases Int.lt_trichotomy i r with q | q | q
    · exact absurd hp (g4 i h1 q)
    · exact q
    · exact absurd g3 (h3 r g1 q)
  · exact absurd hp (g2 i h1 h2)
theorem nx_no {P : Int → Prop} {i s r : Int} (h2 : 64 ≤ i) (h3 : ∀ j, s ≤ j → j < i → ¬ P j) (hr : IsNext P s r) : -1 = r := by
  rcases hr with ⟨g1, g2, g3, g4⟩ | ⟨g1, g2⟩
  · exact absurd g3 (h3 r g1 (by omega))
  · exact g1.symm
theorem nx_0 {P : Int → Prop} {s : Int} : ∀ j : Int, s ≤ j → j < s → ¬ P j := fun j h8 h9 => absurd h9 (by omega)
theorem nx_s {P : Int → Prop} {s i : Int} (h3 : ∀ j, s ≤ j → j < i → ¬ P j) (hp : ¬ P i) : ∀ j, s ≤ j → j < i + 1 → ¬ P j := fun j h8 h9 => by
  by_cases e9 : j = i
  · subst e9; exact hp
  · exact h3 j h8 (by omega)
set_option maxRecDepth 20000 in
set_option maxHeartbeats 4000000 in
theorem k_placeAhead0 {g : Gx} {h : HP} {k : Nat} {bg la ly ar : Int} {m : Nat} (hk : h k = some (oO 8 [vI bg, vI la, vI ly, vI ar])) (hb : bg = 0) : Ct g yX9_placeAhead (.code yX9_placeAhead cX9_placeAhead 3 (some .int)) 2 0 0 [vR k, vR m] h (Rt (some (vI (-1))) h) := by
  refine Ct.of (by decide) (Nat.le_of_ble_eq_true rfl) (fun x hg C F => ?_)
  subst hg
  show T x 0 [(0, vR k), (1, vR m)] [] h 0 0
  refine st_aload_n C 0 dX9_placeAhead_0 rfl rfl ?_
  refine st_getf C dX9_placeAhead_1 fl_X9_9 hk rfl ?_
  refine st_if_ne (tgt := 9) C dX9_placeAhead_4 (by decide) (fun c_4 => by omega) (fun c_4 => ?_)
  refine st_iconst C dX9_placeAhead_7 (by decide) ?_
  exact st_ireturn C F dX9_placeAhead_8 rfl ⟨rfl, rfl⟩ (by omega) (by omega)
set_option maxRecDepth 20000 in
set_option maxHeartbeats 4000000 in
theorem k_placeAhead1 {g : Gx} {h : HP} {k : Nat} {bg la ly ar : Int} {m : Nat} {mf : Int → Int} {r9 : Int} (hk : h k = some (oO 8 [vI bg, vI la, vI ly, vI ar])) (hm : h m = some (oI 304 mf)) (hb : bg = 1) (hl : 0 ≤ ly ∧ ly ≤ 2) (ha : -1 ≤ la ∧ la ≤ 63) (hr : IsNext (fun j => mf (64 * ly + j) = ar) (la + 1) r9) : Ct g yX9_placeAhead (.code yX9_placeAhead cX9_placeAhead 3 (some .int)) 2 0 0 [vR k, vR m] h (Rt (some (vI r9)) h) := by
  refine Ct.of (by decide) (Nat.le_of_ble_eq_true rfl) (fun x hg C F => ?_)
  subst hg
  show T x 0 [(0, vR k), (1, vR m)] [] h 0 0
  refine st_aload_n C 0 dX9_placeAhead_0 rfl rfl ?_
  refine st_getf C dX9_placeAhead_1 fl_X9_9 hk rfl ?_
  refine st_if_ne (tgt := 9) C dX9_placeAhead_4 (by decide) (fun c_4 => ?_) (fun c_4 => by omega)
  refine st_aload_n C 0 dX9_placeAhead_9 rfl rfl ?_
  refine st_getf C dX9_placeAhead_10 fl_X9_15 hk rfl ?_
  refine st_iconst C dX9_placeAhead_13 (by decide) ?_
  refine st_iadd C dX9_placeAhead_14 ⟨(by omega), (by omega)⟩ ?_
  refine st_istore_n C 2 dX9_placeAhead_15 rfl (by decide) rfl ?_
  show T x 16 [(0, vR k), (1, vR m), (2, vI (la + 1))] [] _ _ _
  have loop_16 : ∀ (n_16 : Nat) (i : Int), (la + 1 ≤ i) → (i ≤ 64) → (∀ j, la + 1 ≤ j → j < i → ¬ mf (64 * ly + j) = ar) → (64 - i).toNat < n_16 → T x 16 [(0, vR k), (1, vR m), (2, vI i)] [] h 0 0 := by
    intro n_16
    induction n_16 with
    | zero => intro i g1 g2 g3 hm_16; exact absurd hm_16 (Nat.not_lt_zero _)
    | succ n_16 ih_16 =>
      intro i g1 g2 g3 hm_16
      refine st_iload_n C 2 dX9_placeAhead_16 rfl rfl ?_
      refine st_bipush C dX9_placeAhead_17 (by decide) (by decide) ?_
      refine st_icmp_ge (tgt := 46) C dX9_placeAhead_19 (by decide) (fun c_19 => ?_) (fun c_19 => ?_)
      · refine st_iconst C dX9_placeAhead_46 (by decide) ?_
        exact st_ireturn C F dX9_placeAhead_47 rfl (rt_i (nx_no (by omega) g3 hr) rfl) (by omega) (by omega)
      · refine st_aload_n C 1 dX9_placeAhead_22 rfl rfl ?_
        refine st_aload_n C 0 dX9_placeAhead_23 rfl rfl ?_
        refine st_getf C dX9_placeAhead_24 fl_X9_19 hk rfl ?_
        refine st_iload_n C 2 dX9_placeAhead_27 rfl rfl ?_
        refine st_callS (st := []) C dX9_placeAhead_28 [vR m, vI ly, vI i] (k_areaAt (f := mf) (l := ly) (p := i) hm (by omega) (by omega)) w_X9_25 rfl (by decide) (by decide) (by omega) (by omega) (Nat.le_of_ble_eq_true rfl) (ko_rt ?_)
        show T x 31 [(0, vR k), (1, vR m), (2, vI i)] [vI (mf (64 * ly + i))] _ _ _
        refine st_aload_n C 0 dX9_placeAhead_31 rfl rfl ?_
        refine st_getf C dX9_placeAhead_32 fl_X9_22 hk rfl ?_
        refine st_icmp_ne (tgt := 40) C dX9_placeAhead_35 (by decide) (fun c_35 => ?_) (fun c_35 => ?_)
        · refine st_iinc C dX9_placeAhead_40 rfl (by decide) rfl ⟨(by omega), (by omega)⟩ ?_
          show T x 43 [(0, vR k), (1, vR m), (2, vI (i + 1))] [] _ _ _
          refine st_goto (tgt := 16) C dX9_placeAhead_43 (by decide) ?_
          exact ih_16 (i + 1) (by omega) (by omega) (nx_s (P := fun j => mf (64 * ly + j) = ar) g3 (by assumption)) (by omega)
        · refine st_iload_n C 2 dX9_placeAhead_38 rfl rfl ?_
          exact st_ireturn C F dX9_placeAhead_39 rfl (rt_i (nx_at g1 (by omega) g3 (by assumption) hr) rfl) (by omega) (by omega)
  exact loop_16 _ (la + 1) (by omega) (by omega) (nx_0) (Nat.lt_succ_self _)
