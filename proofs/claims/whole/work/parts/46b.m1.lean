/-! the reference's world: its object 200, its rows from 201 -/
def mO (h : HP) (mv mrc mmc mmk mdv mwl mwa mwp mth : Int) : Prop := h 200 = some (oO 10 [vR 201, vR 202, vR 203, vR 204, vR 205, vR 206, vR 207, vR 208, vR 209, vR 210, vR 211, vR 212, vR 213, vR 214, vR 215, vR 216, vR 217, vR 218, vI mv, vI mrc, vI mmc, vI mmk, vI mdv, vI mwl, vI mwa, vI mwp, vI mth])
def mOe (mv mrc mmc mmk mdv mwl mwa mwp mth : Int) : PE := oO 10 [vR 201, vR 202, vR 203, vR 204, vR 205, vR 206, vR 207, vR 208, vR 209, vR 210, vR 211, vR 212, vR 213, vR 214, vR 215, vR 216, vR 217, vR 218, vI mv, vI mrc, vI mmc, vI mmk, vI mdv, vI mwl, vI mwa, vI mwp, vI mth]
set_option maxRecDepth 20000 in
set_option maxHeartbeats 4000000 in
theorem k_isIn_t {g : Gx} {h : HP} {v9 l9 u9 : Int} (hP : l9 ≤ v9 ∧ v9 ≤ u9) : Ct g yX11_isIn (.code yX11_isIn cX11_isIn 3 (some .boolean)) 1 0 0 [vI v9, vI l9, vI u9] h (Rt (some (vI 1)) h) := by
  refine Ct.of (by decide) (Nat.le_of_ble_eq_true rfl) (fun x hg C F => ?_)
  subst hg
  show T x 0 [(0, vI v9), (1, vI l9), (2, vI u9)] [] h 0 0
  refine st_iload_n C 0 dX11_isIn_0 rfl rfl ?_
  refine st_iload_n C 1 dX11_isIn_1 rfl rfl ?_
  refine st_icmp_lt (tgt := 14) C dX11_isIn_2 (by decide) (fun c_2 => ?_) (fun c_2 => ?_)
  · refine st_iconst C dX11_isIn_14 (by decide) ?_
    exact st_zreturn C F dX11_isIn_15 rfl (by omega) (rt_i (by first | rfl | omega) rfl) (by omega) (by omega)
  · refine st_iload_n C 0 dX11_isIn_5 rfl rfl ?_
    refine st_iload_n C 2 dX11_isIn_6 rfl rfl ?_
    refine st_icmp_gt (tgt := 14) C dX11_isIn_7 (by decide) (fun c_7 => ?_) (fun c_7 => ?_)
    · refine st_iconst C dX11_isIn_14 (by decide) ?_
      exact st_zreturn C F dX11_isIn_15 rfl (by omega) (rt_i (by first | rfl | omega) rfl) (by omega) (by omega)
    · refine st_iconst C dX11_isIn_10 (by decide) ?_
      refine st_goto (tgt := 15) C dX11_isIn_11 (by decide) ?_
      exact st_zreturn C F dX11_isIn_15 rfl (by omega) (rt_i (by first | rfl | omega) rfl) (by omega) (by omega)
set_option maxRecDepth 20000 in
set_option maxHeartbeats 4000000 in
theorem k_isIn_f {g : Gx} {h : HP} {v9 l9 u9 : Int} (hP : ¬ (l9 ≤ v9 ∧ v9 ≤ u9)) : Ct g yX11_isIn (.code yX11_isIn cX11_isIn 3 (some .boolean)) 1 0 0 [vI v9, vI l9, vI u9] h (Rt (some (vI 0)) h) := by
  refine Ct.of (by decide) (Nat.le_of_ble_eq_true rfl) (fun x hg C F => ?_)
  subst hg
  show T x 0 [(0, vI v9), (1, vI l9), (2, vI u9)] [] h 0 0
  refine st_iload_n C 0 dX11_isIn_0 rfl rfl ?_
  refine st_iload_n C 1 dX11_isIn_1 rfl rfl ?_
  refine st_icmp_lt (tgt := 14) C dX11_isIn_2 (by decide) (fun c_2 => ?_) (fun c_2 => ?_)
  · refine st_iconst C dX11_isIn_14 (by decide) ?_
    exact st_zreturn C F dX11_isIn_15 rfl (by omega) (rt_i (by first | rfl | omega) rfl) (by omega) (by omega)
  · refine st_iload_n C 0 dX11_isIn_5 rfl rfl ?_
    refine st_iload_n C 2 dX11_isIn_6 rfl rfl ?_
    refine st_icmp_gt (tgt := 14) C dX11_isIn_7 (by decide) (fun c_7 => ?_) (fun c_7 => ?_)
    · refine st_iconst C dX11_isIn_14 (by decide) ?_
      exact st_zreturn C F dX11_isIn_15 rfl (by omega) (rt_i (by first | rfl | omega) rfl) (by omega) (by omega)
    · refine st_iconst C dX11_isIn_10 (by decide) ?_
      refine st_goto (tgt := 15) C dX11_isIn_11 (by decide) ?_
      exact st_zreturn C F dX11_isIn_15 rfl (by omega) (rt_i (by first | rfl | omega) rfl) (by omega) (by omega)
set_option maxRecDepth 20000 in
set_option maxHeartbeats 4000000 in
theorem k_mSpot_t {g : Gx} {h : HP} {v9 : Int} (hP : 0 ≤ v9 ∧ v9 ≤ 303) : Ct g yX11_isSpot (.code yX11_isSpot cX11_isSpot 1 (some .boolean)) 2 0 0 [vI v9] h (Rt (some (vI 1)) h) := by
  refine Ct.of (by decide) (Nat.le_of_ble_eq_true rfl) (fun x hg C F => ?_)
  subst hg
  show T x 0 [(0, vI v9)] [] h 0 0
  refine st_iload_n C 0 dX11_isSpot_0 rfl rfl ?_
  refine st_iconst C dX11_isSpot_1 (by decide) ?_
  refine st_sipush C dX11_isSpot_2 (by decide) (by decide) ?_
  by_cases b_5 : 0 ≤ v9 ∧ v9 ≤ 303
  · refine st_callS (st := []) C dX11_isSpot_5 [vI v9, vI 0, vI 303] (k_isIn_t (v9 := v9) (l9 := 0) (u9 := 303)  b_5) w_X11_75 rfl (by decide) (by decide) (by omega) (by omega) (Nat.le_of_ble_eq_true rfl) (ko_rt ?_)
    show T x 8 [(0, vI v9)] [vI 1] _ _ _
    exact st_zreturn C F dX11_isSpot_8 rfl (by omega) (rt_i (by first | rfl | omega) rfl) (by omega) (by omega)
  · refine st_callS (st := []) C dX11_isSpot_5 [vI v9, vI 0, vI 303] (k_isIn_f (v9 := v9) (l9 := 0) (u9 := 303)  b_5) w_X11_75 rfl (by decide) (by decide) (by omega) (by omega) (Nat.le_of_ble_eq_true rfl) (ko_rt ?_)
    show T x 8 [(0, vI v9)] [vI 0] _ _ _
    exact st_zreturn C F dX11_isSpot_8 rfl (by omega) (rt_i (by first | rfl | omega) rfl) (by omega) (by omega)
set_option maxRecDepth 20000 in
set_option maxHeartbeats 4000000 in
theorem k_mSpot_f {g : Gx} {h : HP} {v9 : Int} (hP : ¬ (0 ≤ v9 ∧ v9 ≤ 303)) : Ct g yX11_isSpot (.code yX11_isSpot cX11_isSpot 1 (some .boolean)) 2 0 0 [vI v9] h (Rt (some (vI 0)) h) := by
  refine Ct.of (by decide) (Nat.le_of_ble_eq_true rfl) (fun x hg C F => ?_)
  subst hg
  show T x 0 [(0, vI v9)] [] h 0 0
  refine st_iload_n C 0 dX11_isSpot_0 rfl rfl ?_
  refine st_iconst C dX11_isSpot_1 (by decide) ?_
  refine st_sipush C dX11_isSpot_2 (by decide) (by decide) ?_
  by_cases b_5 : 0 ≤ v9 ∧ v9 ≤ 303
  · refine st_callS (st := []) C dX11_isSpot_5 [vI v9, vI 0, vI 303] (k_isIn_t (v9 := v9) (l9 := 0) (u9 := 303)  b_5) w_X11_75 rfl (by decide) (by decide) (by omega) (by omega) (Nat.le_of_ble_eq_true rfl) (ko_rt ?_)
    show T x 8 [(0, vI v9)] [vI 1] _ _ _
    exact st_zreturn C F dX11_isSpot_8 rfl (by omega) (rt_i (by first | rfl | omega) rfl) (by omega) (by omega)
  · refine st_callS (st := []) C dX11_isSpot_5 [vI v9, vI 0, vI 303] (k_isIn_f (v9 := v9) (l9 := 0) (u9 := 303)  b_5) w_X11_75 rfl (by decide) (by decide) (by omega) (by omega) (Nat.le_of_ble_eq_true rfl) (ko_rt ?_)
    show T x 8 [(0, vI v9)] [vI 0] _ _ _
    exact st_zreturn C F dX11_isSpot_8 rfl (by omega) (rt_i (by first | rfl | omega) rfl) (by omega) (by omega)
set_option maxRecDepth 20000 in
set_option maxHeartbeats 4000000 in
theorem k_mLayer_t {g : Gx} {h : HP} {v9 : Int} (hP : 0 ≤ v9 ∧ v9 ≤ 2) : Ct g yX11_isLayer (.code yX11_isLayer cX11_isLayer 1 (some .boolean)) 2 0 0 [vI v9] h (Rt (some (vI 1)) h) := by
  refine Ct.of (by decide) (Nat.le_of_ble_eq_true rfl) (fun x hg C F => ?_)
  subst hg
  show T x 0 [(0, vI v9)] [] h 0 0
  refine st_iload_n C 0 dX11_isLayer_0 rfl rfl ?_
  refine st_iconst C dX11_isLayer_1 (by decide) ?_
  refine st_iconst C dX11_isLayer_2 (by decide) ?_
  by_cases b_3 : 0 ≤ v9 ∧ v9 ≤ 2
  · refine st_callS (st := []) C dX11_isLayer_3 [vI v9, vI 0, vI 2] (k_isIn_t (v9 := v9) (l9 := 0) (u9 := 2)  b_3) w_X11_75 rfl (by decide) (by decide) (by omega) (by omega) (Nat.le_of_ble_eq_true rfl) (ko_rt ?_)
    show T x 6 [(0, vI v9)] [vI 1] _ _ _
    exact st_zreturn C F dX11_isLayer_6 rfl (by omega) (rt_i (by first | rfl | omega) rfl) (by omega) (by omega)
  · refine st_callS (st := []) C dX11_isLayer_3 [vI v9, vI 0, vI 2] (k_isIn_f (v9 := v9) (l9 := 0) (u9 := 2)  b_3) w_X11_75 rfl (by decide) (by decide) (by omega) (by omega) (Nat.le_of_ble_eq_true rfl) (ko_rt ?_)
    show T x 6 [(0, vI v9)] [vI 0] _ _ _
    exact st_zreturn C F dX11_isLayer_6 rfl (by omega) (rt_i (by first | rfl | omega) rfl) (by omega) (by omega)
set_option maxRecDepth 20000 in
set_option maxHeartbeats 4000000 in
theorem k_mLayer_f {g : Gx} {h : HP} {v9 : Int} (hP : ¬ (0 ≤ v9 ∧ v9 ≤ 2)) : Ct g yX11_isLayer (.code yX11_isLayer cX11_isLayer 1 (some .boolean)) 2 0 0 [vI v9] h (Rt (some (vI 0)) h) := by
  refine Ct.of (by decide) (Nat.le_of_ble_eq_true rfl) (fun x hg C F => ?_)
  subst hg
  show T x 0 [(0, vI v9)] [] h 0 0
  refine st_iload_n C 0 dX11_isLayer_0 rfl rfl ?_
  refine st_iconst C dX11_isLayer_1 (by decide) ?_
  refine st_iconst C dX11_isLayer_2 (by decide) ?_
  by_cases b_3 : 0 ≤ v9 ∧ v9 ≤ 2
  · refine st_callS (st := []) C dX11_isLayer_3 [vI v9, vI 0, vI 2] (k_isIn_t (v9 := v9) (l9 := 0) (u9 := 2)  b_3) w_X11_75 rfl (by decide) (by decide) (by omega) (by omega) (Nat.le_of_ble_eq_true rfl) (ko_rt ?_)
    show T x 6 [(0, vI v9)] [vI 1] _ _ _
    exact st_zreturn C F dX11_isLayer_6 rfl (by omega) (rt_i (by first | rfl | omega) rfl) (by omega) (by omega)
  · refine st_callS (st := []) C dX11_isLayer_3 [vI v9, vI 0, vI 2] (k_isIn_f (v9 := v9) (l9 := 0) (u9 := 2)  b_3) w_X11_75 rfl (by decide) (by decide) (by omega) (by omega) (Nat.le_of_ble_eq_true rfl) (ko_rt ?_)
    show T x 6 [(0, vI v9)] [vI 0] _ _ _
    exact st_zreturn C F dX11_isLayer_6 rfl (by omega) (rt_i (by first | rfl | omega) rfl) (by omega) (by omega)
set_option maxRecDepth 20000 in
set_option maxHeartbeats 4000000 in
theorem k_mPlace_t {g : Gx} {h : HP} {v9 x9 y9 : Int} (hP : 0 ≤ v9 ∧ v9 ≤ 2 ∧ 0 ≤ x9 ∧ x9 ≤ 7 ∧ 0 ≤ y9 ∧ y9 ≤ 7) : Ct g yX11_isPlace (.code yX11_isPlace cX11_isPlace 3 (some .boolean)) 3 0 0 [vI v9, vI x9, vI y9] h (Rt (some (vI 1)) h) := by
  refine Ct.of (by decide) (Nat.le_of_ble_eq_true rfl) (fun x hg C F => ?_)
  subst hg
  show T x 0 [(0, vI v9), (1, vI x9), (2, vI y9)] [] h 0 0
  refine st_iload_n C 0 dX11_isPlace_0 rfl rfl ?_
  by_cases b_1 : 0 ≤ v9 ∧ v9 ≤ 2
  · refine st_callS (st := []) C dX11_isPlace_1 [vI v9] (k_mLayer_t (v9 := v9)  b_1) w_X11_108 rfl (by decide) (by decide) (by omega) (by omega) (Nat.le_of_ble_eq_true rfl) (ko_rt ?_)
    show T x 4 [(0, vI v9), (1, vI x9), (2, vI y9)] [vI 1] _ _ _
    refine st_if_eq (tgt := 31) C dX11_isPlace_4 (by decide) (fun c_4 => by omega) (fun c_4 => ?_)
    refine st_iload_n C 1 dX11_isPlace_7 rfl rfl ?_
    refine st_iconst C dX11_isPlace_8 (by decide) ?_
    refine st_bipush C dX11_isPlace_9 (by decide) (by decide) ?_
    by_cases b_11 : 0 ≤ x9 ∧ x9 ≤ 7
    · refine st_callS (st := []) C dX11_isPlace_11 [vI x9, vI 0, vI 7] (k_isIn_t (v9 := x9) (l9 := 0) (u9 := 7)  b_11) w_X11_75 rfl (by decide) (by decide) (by omega) (by omega) (Nat.le_of_ble_eq_true rfl) (ko_rt ?_)
      show T x 14 [(0, vI v9), (1, vI x9), (2, vI y9)] [vI 1] _ _ _
      refine st_if_eq (tgt := 31) C dX11_isPlace_14 (by decide) (fun c_14 => by omega) (fun c_14 => ?_)
      refine st_iload_n C 2 dX11_isPlace_17 rfl rfl ?_
      refine st_iconst C dX11_isPlace_18 (by decide) ?_
      refine st_bipush C dX11_isPlace_19 (by decide) (by decide) ?_
      by_cases b_21 : 0 ≤ y9 ∧ y9 ≤ 7
      · refine st_callS (st := []) C dX11_isPlace_21 [vI y9, vI 0, vI 7] (k_isIn_t (v9 := y9) (l9 := 0) (u9 := 7)  b_21) w_X11_75 rfl (by decide) (by decide) (by omega) (by omega) (Nat.le_of_ble_eq_true rfl) (ko_rt ?_)
        show T x 24 [(0, vI v9), (1, vI x9), (2, vI y9)] [vI 1] _ _ _
        refine st_if_eq (tgt := 31) C dX11_isPlace_24 (by decide) (fun c_24 => by omega) (fun c_24 => ?_)
        refine st_iconst C dX11_isPlace_27 (by decide) ?_
        refine st_goto (tgt := 32) C dX11_isPlace_28 (by decide) ?_
        exact st_zreturn C F dX11_isPlace_32 rfl (by omega) (rt_i (by first | rfl | omega) rfl) (by omega) (by omega)
      · refine st_callS (st := []) C dX11_isPlace_21 [vI y9, vI 0, vI 7] (k_isIn_f (v9 := y9) (l9 := 0) (u9 := 7)  b_21) w_X11_75 rfl (by decide) (by decide) (by omega) (by omega) (Nat.le_of_ble_eq_true rfl) (ko_rt ?_)
        show T x 24 [(0, vI v9), (1, vI x9), (2, vI y9)] [vI 0] _ _ _
        refine st_if_eq (tgt := 31) C dX11_isPlace_24 (by decide) (fun c_24 => ?_) (fun c_24 => by omega)
        refine st_iconst C dX11_isPlace_31 (by decide) ?_
        exact st_zreturn C F dX11_isPlace_32 rfl (by omega) (rt_i (by first | rfl | omega) rfl) (by omega) (by omega)
    · refine st_callS (st := []) C dX11_isPlace_11 [vI x9, vI 0, vI 7] (k_isIn_f (v9 := x9) (l9 := 0) (u9 := 7)  b_11) w_X11_75 rfl (by decide) (by decide) (by omega) (by omega) (Nat.le_of_ble_eq_true rfl) (ko_rt ?_)
      show T x 14 [(0, vI v9), (1, vI x9), (2, vI y9)] [vI 0] _ _ _
      refine st_if_eq (tgt := 31) C dX11_isPlace_14 (by decide) (fun c_14 => ?_) (fun c_14 => by omega)
      refine st_iconst C dX11_isPlace_31 (by decide) ?_
      exact st_zreturn C F dX11_isPlace_32 rfl (by omega) (rt_i (by first | rfl | omega) rfl) (by omega) (by omega)
  · refine st_callS (st := []) C dX11_isPlace_1 [vI v9] (k_mLayer_f (v9 := v9)  b_1) w_X11_108 rfl (by decide) (by decide) (by omega) (by omega) (Nat.le_of_ble_eq_true rfl) (ko_rt ?_)
    show T x 4 [(0, vI v9), (1, vI x9), (2, vI y9)] [vI 0] _ _ _
    refine st_if_eq (tgt := 31) C dX11_isPlace_4 (by decide) (fun c_4 => ?_) (fun c_4 => by omega)
    refine st_iconst C dX11_isPlace_31 (by decide) ?_
    exact st_zreturn C F dX11_isPlace_32 rfl (by omega) (rt_i (by first | rfl | omega) rfl) (by omega) (by omega)
set_option maxRecDepth 20000 in
set_option maxHeartbeats 4000000 in
theorem k_mPlace_f {g : Gx} {h : HP} {v9 x9 y9 : Int} (hP : ¬ (0 ≤ v9 ∧ v9 ≤ 2 ∧ 0 ≤ x9 ∧ x9 ≤ 7 ∧ 0 ≤ y9 ∧ y9 ≤ 7)) : Ct g yX11_isPlace (.code yX11_isPlace cX11_isPlace 3 (some .boolean)) 3 0 0 [vI v9, vI x9, vI y9] h (Rt (some (vI 0)) h) := by
  refine Ct.of (by decide) (Nat.le_of_ble_eq_true rfl) (fun x hg C F => ?_)
  subst hg
  show T x 0 [(0, vI v9), (1, vI x9), (2, vI y9)] [] h 0 0
  refine st_iload_n C 0 dX11_isPlace_0 rfl rfl ?_
  by_cases b_1 : 0 ≤ v9 ∧ v9 ≤ 2
  · refine st_callS (st := []) C dX11_isPlace_1 [vI v9] (k_mLayer_t (v9 := v9)  b_1) w_X11_108 rfl (by decide) (by decide) (by omega) (by omega) (Nat.le_of_ble_eq_true rfl) (ko_rt ?_)
    show T x 4 [(0, vI v9), (1, vI x9), (2, vI y9)] [vI 1] _ _ _
    refine st_if_eq (tgt := 31) C dX11_isPlace_4 (by decide) (fun c_4 => by omega) (fun c_4 => ?_)
    refine st_iload_n C 1 dX11_isPlace_7 rfl rfl ?_
    refine st_iconst C dX11_isPlace_8 (by decide) ?_
    refine st_bipush C dX11_isPlace_9 (by decide) (by decide) ?_
    by_cases b_11 : 0 ≤ x9 ∧ x9 ≤ 7
    · refine st_callS (st := []) C dX11_isPlace_11 [vI x9, vI 0, vI 7] (k_isIn_t (v9 := x9) (l9 := 0) (u9 := 7)  b_11) w_X11_75 rfl (by decide) (by decide) (by omega) (by omega) (Nat.le_of_ble_eq_true rfl) (ko_rt ?_)
      show T x 14 [(0, vI v9), (1, vI x9), (2, vI y9)] [vI 1] _ _ _
      refine st_if_eq (tgt := 31) C dX11_isPlace_14 (by decide) (fun c_14 => by omega) (fun c_14 => ?_)
      refine st_iload_n C 2 dX11_isPlace_17 rfl rfl ?_
      refine st_iconst C dX11_isPlace_18 (by decide) ?_
      refine st_bipush C dX11_isPlace_19 (by decide) (by decide) ?_
      by_cases b_21 : 0 ≤ y9 ∧ y9 ≤ 7
      · refine st_callS (st := []) C dX11_isPlace_21 [vI y9, vI 0, vI 7] (k_isIn_t (v9 := y9) (l9 := 0) (u9 := 7)  b_21) w_X11_75 rfl (by decide) (by decide) (by omega) (by omega) (Nat.le_of_ble_eq_true rfl) (ko_rt ?_)
        show T x 24 [(0, vI v9), (1, vI x9), (2, vI y9)] [vI 1] _ _ _
        refine st_if_eq (tgt := 31) C dX11_isPlace_24 (by decide) (fun c_24 => by omega) (fun c_24 => ?_)
        refine st_iconst C dX11_isPlace_27 (by decide) ?_
        refine st_goto (tgt := 32) C dX11_isPlace_28 (by decide) ?_
        exact st_zreturn C F dX11_isPlace_32 rfl (by omega) (rt_i (by first | rfl | omega) rfl) (by omega) (by omega)
      · refine st_callS (st := []) C dX11_isPlace_21 [vI y9, vI 0, vI 7] (k_isIn_f (v9 := y9) (l9 := 0) (u9 := 7)  b_21) w_X11_75 rfl (by decide) (by decide) (by omega) (by omega) (Nat.le_of_ble_eq_true rfl) (ko_rt ?_)
        show T x 24 [(0, vI v9), (1, vI x9), (2, vI y9)] [vI 0] _ _ _
        refine st_if_eq (tgt := 31) C dX11_isPlace_24 (by decide) (fun c_24 => ?_) (fun c_24 => by omega)
        refine st_iconst C dX11_isPlace_31 (by decide) ?_
        exact st_zreturn C F dX11_isPlace_32 rfl (by omega) (rt_i (by first | rfl | omega) rfl) (by omega) (by omega)
    · refine st_callS (st := []) C dX11_isPlace_11 [vI x9, vI 0, vI 7] (k_isIn_f (v9 := x9) (l9 := 0) (u9 := 7)  b_11) w_X11_75 rfl (by decide) (by decide) (by omega) (by omega) (Nat.le_of_ble_eq_true rfl) (ko_rt ?_)
      show T x 14 [(0, vI v9), (1, vI x9), (2, vI y9)] [vI 0] _ _ _
      refine st_if_eq (tgt := 31) C dX11_isPlace_14 (by decide) (fun c_14 => ?_) (fun c_14 => by omega)
      refine st_iconst C dX11_isPlace_31 (by decide) ?_
      exact st_zreturn C F dX11_isPlace_32 rfl (by omega) (rt_i (by first | rfl | omega) rfl) (by omega) (by omega)
  · refine st_callS (st := []) C dX11_isPlace_1 [vI v9] (k_mLayer_f (v9 := v9)  b_1) w_X11_108 rfl (by decide) (by decide) (by omega) (by omega) (Nat.le_of_ble_eq_true rfl) (ko_rt ?_)
    show T x 4 [(0, vI v9), (1, vI x9), (2, vI y9)] [vI 0] _ _ _
    refine st_if_eq (tgt := 31) C dX11_isPlace_4 (by decide) (fun c_4 => ?_) (fun c_4 => by omega)
    refine st_iconst C dX11_isPlace_31 (by decide) ?_
    exact st_zreturn C F dX11_isPlace_32 rfl (by omega) (rt_i (by first | rfl | omega) rfl) (by omega) (by omega)
set_option maxRecDepth 20000 in
set_option maxHeartbeats 4000000 in
theorem k_thrown {g : Gx} {h : HP} {mv mrc mmc mmk mdv mwl mwa mwp mth : Int} (hm : mO h mv mrc mmc mmk mdv mwl mwa mwp mth) : Ct g yX11_thrown (.code yX11_thrown cX11_thrown 1 (some .int)) 1 0 0 [vR 200] h (Rt (some (vI mth)) h) := by
  refine Ct.of (by decide) (Nat.le_of_ble_eq_true rfl) (fun x hg C F => ?_)
  subst hg
  show T x 0 [(0, vR 200)] [] h 0 0
  refine st_aload_n C 0 dX11_thrown_0 rfl rfl ?_
  refine st_getf C dX11_thrown_1 fl_X11_69 hm rfl ?_
  exact st_ireturn C F dX11_thrown_4 rfl ⟨rfl, rfl⟩ (by omega) (by omega)
set_option maxRecDepth 20000 in
set_option maxHeartbeats 4000000 in
theorem k_no_t {g : Gx} {h : HP} {mv mrc mmc mmk mdv mwl mwa mwp mth : Int} {p9 : Int} (hm : mO h mv mrc mmc mmk mdv mwl mwa mwp mth) : Ct g yX11_no (.code yX11_no cX11_no 3 (some .boolean)) 1 0 0 [vR 200, vI 1, vI p9] h (Rt (some (vI 0)) (hput h 200 (oO 10 [vR 201, vR 202, vR 203, vR 204, vR 205, vR 206, vR 207, vR 208, vR 209, vR 210, vR 211, vR 212, vR 213, vR 214, vR 215, vR 216, vR 217, vR 218, vI mv, vI mrc, vI mmc, vI mmk, vI mdv, vI mwl, vI mwa, vI mwp, vI 0]))) := by
  refine Ct.of (by decide) (Nat.le_of_ble_eq_true rfl) (fun x hg C F => ?_)
  subst hg
  show T x 0 [(0, vR 200), (1, vI 1), (2, vI p9)] [] h 0 0
  refine st_aload_n C 0 dX11_no_0 rfl rfl ?_
  refine st_iload_n C 1 dX11_no_1 rfl rfl ?_
  refine st_if_eq (tgt := 9) C dX11_no_2 (by decide) (fun c_2 => by omega) (fun c_2 => ?_)
  refine st_iconst C dX11_no_5 (by decide) ?_
  refine st_goto (tgt := 10) C dX11_no_6 (by decide) ?_
  refine st_putf C dX11_no_10 fp_X11_69 (fun q => by cases q) hm (Nat.le_of_ble_eq_true rfl) fit_int ?_
  show T x 13 [(0, vR 200), (1, vI 1), (2, vI p9)] [] (hput h 200 (oO 10 [vR 201, vR 202, vR 203, vR 204, vR 205, vR 206, vR 207, vR 208, vR 209, vR 210, vR 211, vR 212, vR 213, vR 214, vR 215, vR 216, vR 217, vR 218, vI mv, vI mrc, vI mmc, vI mmk, vI mdv, vI mwl, vI mwa, vI mwp, vI 0])) _ _
  refine st_iload_n C 1 dX11_no_13 rfl rfl ?_
  refine st_if_ne (tgt := 21) C dX11_no_14 (by decide) (fun c_14 => ?_) (fun c_14 => by omega)
  refine st_iconst C dX11_no_21 (by decide) ?_
  exact st_zreturn C F dX11_no_22 rfl (by omega) ⟨rfl, rfl⟩ (by omega) (by omega)
set_option maxRecDepth 20000 in
set_option maxHeartbeats 4000000 in
theorem k_no_f {g : Gx} {h : HP} {mv mrc mmc mmk mdv mwl mwa mwp mth : Int} {p9 : Int} (hm : mO h mv mrc mmc mmk mdv mwl mwa mwp mth) : Ct g yX11_no (.code yX11_no cX11_no 3 (some .boolean)) 1 0 0 [vR 200, vI 0, vI p9] h (Rt (some (vI 1)) (hput h 200 (oO 10 [vR 201, vR 202, vR 203, vR 204, vR 205, vR 206, vR 207, vR 208, vR 209, vR 210, vR 211, vR 212, vR 213, vR 214, vR 215, vR 216, vR 217, vR 218, vI mv, vI mrc, vI mmc, vI mmk, vI mdv, vI mwl, vI mwa, vI mwp, vI p9]))) := by
  refine Ct.of (by decide) (Nat.le_of_ble_eq_true rfl) (fun x hg C F => ?_)
  subst hg
  show T x 0 [(0, vR 200), (1, vI 0), (2, vI p9)] [] h 0 0
  refine st_aload_n C 0 dX11_no_0 rfl rfl ?_
  refine st_iload_n C 1 dX11_no_1 rfl rfl ?_
  refine st_if_eq (tgt := 9) C dX11_no_2 (by decide) (fun c_2 => ?_) (fun c_2 => by omega)
  refine st_iload_n C 2 dX11_no_9 rfl rfl ?_
  refine st_putf C dX11_no_10 fp_X11_69 (fun q => by cases q) hm (Nat.le_of_ble_eq_true rfl) fit_int ?_
  show T x 13 [(0, vR 200), (1, vI 0), (2, vI p9)] [] (hput h 200 (oO 10 [vR 201, vR 202, vR 203, vR 204, vR 205, vR 206, vR 207, vR 208, vR 209, vR 210, vR 211, vR 212, vR 213, vR 214, vR 215, vR 216, vR 217, vR 218, vI mv, vI mrc, vI mmc, vI mmk, vI mdv, vI mwl, vI mwa, vI mwp, vI p9])) _ _
  refine st_iload_n C 1 dX11_no_13 rfl rfl ?_
  refine st_if_ne (tgt := 21) C dX11_no_14 (by decide) (fun c_14 => by omega) (fun c_14 => ?_)
  refine st_iconst C dX11_no_17 (by decide) ?_
  refine st_goto (tgt := 22) C dX11_no_18 (by decide) ?_
  exact st_zreturn C F dX11_no_22 rfl (by omega) ⟨rfl, rfl⟩ (by omega) (by omega)
set_option maxRecDepth 20000 in
set_option maxHeartbeats 4000000 in
theorem k_now {g : Gx} {h : HP} {mv mrc mmc mmk mdv mwl mwa mwp mth : Int} {mm : Int → Int} {s9 : Int} (hm : mO h mv mrc mmc mmk mdv mwl mwa mwp mth) (hmm : h 201 = some (oI 12464 mm)) (hv : 0 ≤ mv ∧ mv ≤ 40) (hs : 0 ≤ s9 ∧ s9 ≤ 303) : Ct g yX11_now (.code yX11_now cX11_now 2 (some .int)) 1 0 0 [vR 200, vI s9] h (Rt (some (vI (mm (304 * mv + s9)))) h) := by
  refine Ct.of (by decide) (Nat.le_of_ble_eq_true rfl) (fun x hg C F => ?_)
  subst hg
  show T x 0 [(0, vR 200), (1, vI s9)] [] h 0 0
  refine st_aload_n C 0 dX11_now_0 rfl rfl ?_
  refine st_getf C dX11_now_1 fl_X11_7 hm rfl ?_
  refine st_sipush C dX11_now_4 (by decide) (by decide) ?_
  refine st_aload_n C 0 dX11_now_7 rfl rfl ?_
  refine st_getf C dX11_now_8 fl_X11_72 hm rfl ?_
  refine st_imul C dX11_now_11 ⟨(by omega), (by omega)⟩ ?_
  refine st_iload_n C 1 dX11_now_12 rfl rfl ?_
  refine st_iadd C dX11_now_13 ⟨(by omega), (by omega)⟩ ?_
  refine st_iald C dX11_now_14 hmm (by omega) (by omega) ?_
  exact st_ireturn C F dX11_now_15 rfl ⟨rfl, rfl⟩ (by omega) (by omega)
set_option maxRecDepth 20000 in
set_option maxHeartbeats 4000000 in
theorem m_version {g : Gx} {h : HP} {mv mrc mmc mmk mdv mwl mwa mwp mth : Int} (hm : mO h mv mrc mmc mmk mdv mwl mwa mwp mth) : Ct g yX11_version (.code yX11_version cX11_version 1 (some .int)) 1 0 0 [vR 200] h (Rt (some (vI mv)) h) := by
  refine Ct.of (by decide) (Nat.le_of_ble_eq_true rfl) (fun x hg C F => ?_)
  subst hg
  show T x 0 [(0, vR 200)] [] h 0 0
  refine st_aload_n C 0 dX11_version_0 rfl rfl ?_
  refine st_getf C dX11_version_1 fl_X11_72 hm rfl ?_
  exact st_ireturn C F dX11_version_4 rfl ⟨rfl, rfl⟩ (by omega) (by omega)
set_option maxRecDepth 20000 in
set_option maxHeartbeats 4000000 in
theorem m_made {g : Gx} {h : HP} {mv mrc mmc mmk mdv mwl mwa mwp mth : Int} (hm : mO h mv mrc mmc mmk mdv mwl mwa mwp mth) : Ct g yX11_made (.code yX11_made cX11_made 1 (some .int)) 1 0 0 [vR 200] h (Rt (some (vI mmk)) h) := by
  refine Ct.of (by decide) (Nat.le_of_ble_eq_true rfl) (fun x hg C F => ?_)
  subst hg
  show T x 0 [(0, vR 200)] [] h 0 0
  refine st_aload_n C 0 dX11_made_0 rfl rfl ?_
  refine st_getf C dX11_made_1 fl_X11_184 hm rfl ?_
  exact st_ireturn C F dX11_made_4 rfl ⟨rfl, rfl⟩ (by omega) (by omega)
set_option maxRecDepth 20000 in
set_option maxHeartbeats 4000000 in
theorem m_isSound {g : Gx} {h : HP} {mv mrc mmc mmk mdv mwl mwa mwp mth : Int} (hm : mO h mv mrc mmc mmk mdv mwl mwa mwp mth) : Ct g yX11_isSound (.code yX11_isSound cX11_isSound 1 (some .boolean)) 1 0 0 [vR 200] h (Rt (some (vI 1)) h) := by
  refine Ct.of (by decide) (Nat.le_of_ble_eq_true rfl) (fun x hg C F => ?_)
  subst hg
  show T x 0 [(0, vR 200)] [] h 0 0
  refine st_iconst C dX11_isSound_0 (by decide) ?_
  exact st_zreturn C F dX11_isSound_1 rfl (by omega) ⟨rfl, rfl⟩ (by omega) (by omega)
