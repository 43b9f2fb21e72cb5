set_option maxRecDepth 20000 in
set_option maxHeartbeats 4000000 in
theorem k_isBranch_t {g : Gx} {h : HP} {mv mrc mmc mmk mdv mwl mwa mwp mth : Int} {mop : Int → Int} {b9 : Int} (hm : mO h mv mrc mmc mmk mdv mwl mwa mwp mth) (h206 : h 206 = some (oZ 4 mop)) (hz : ∀ i, 0 ≤ i → i ≤ 3 → mop i = 0 ∨ mop i = 1) (hP : 0 ≤ b9 ∧ b9 ≤ 3 ∧ mop b9 = 1) : Ct g yX11_isBranch (.code yX11_isBranch cX11_isBranch 2 (some .boolean)) 2 0 0 [vR 200, vI b9] h (Rt (some (vI 1)) h) := by
  refine Ct.of (by decide) (Nat.le_of_ble_eq_true rfl) (fun x hg C F => ?_)
  subst hg
  have hz1 : 0 ≤ b9 → b9 ≤ 3 → mop b9 = 0 ∨ mop b9 = 1 := hz b9
  show T x 0 [(0, vR 200), (1, vI b9)] [] h 0 0
  refine st_iload_n C 1 dX11_isBranch_0 rfl rfl ?_
  refine st_iconst C dX11_isBranch_1 (by decide) ?_
  refine st_iconst C dX11_isBranch_2 (by decide) ?_
  by_cases b_3 : 0 ≤ b9 ∧ b9 ≤ 3
  · refine st_callS (st := []) C dX11_isBranch_3 [vI b9, vI 0, vI 3] (k_isIn_t (v9 := b9) (l9 := 0) (u9 := 3)  b_3) w_X11_75 rfl (by decide) (by decide) (by omega) (by omega) (Nat.le_of_ble_eq_true rfl) (ko_rt ?_)
    show T x 6 [(0, vR 200), (1, vI b9)] [vI 1] _ _ _
    refine st_if_eq (tgt := 22) C dX11_isBranch_6 (by decide) (fun c_6 => by omega) (fun c_6 => ?_)
    refine st_aload_n C 0 dX11_isBranch_9 rfl rfl ?_
    refine st_getf C dX11_isBranch_10 fl_X11_25 hm rfl ?_
    refine st_iload_n C 1 dX11_isBranch_13 rfl rfl ?_
    refine st_zald C dX11_isBranch_14 h206 (by omega) (by omega) ?_
    refine st_if_eq (tgt := 22) C dX11_isBranch_15 (by decide) (fun c_15 => ?_) (fun c_15 => ?_)
    · refine st_iconst C dX11_isBranch_22 (by decide) ?_
      exact st_zreturn C F dX11_isBranch_23 rfl (by omega) (rt_i (by first | rfl | omega) rfl) (by omega) (by omega)
    · refine st_iconst C dX11_isBranch_18 (by decide) ?_
      refine st_goto (tgt := 23) C dX11_isBranch_19 (by decide) ?_
      exact st_zreturn C F dX11_isBranch_23 rfl (by omega) (rt_i (by first | rfl | omega) rfl) (by omega) (by omega)
  · refine st_callS (st := []) C dX11_isBranch_3 [vI b9, vI 0, vI 3] (k_isIn_f (v9 := b9) (l9 := 0) (u9 := 3)  b_3) w_X11_75 rfl (by decide) (by decide) (by omega) (by omega) (Nat.le_of_ble_eq_true rfl) (ko_rt ?_)
    show T x 6 [(0, vR 200), (1, vI b9)] [vI 0] _ _ _
    refine st_if_eq (tgt := 22) C dX11_isBranch_6 (by decide) (fun c_6 => ?_) (fun c_6 => by omega)
    refine st_iconst C dX11_isBranch_22 (by decide) ?_
    exact st_zreturn C F dX11_isBranch_23 rfl (by omega) (rt_i (by first | rfl | omega) rfl) (by omega) (by omega)
set_option maxRecDepth 20000 in
set_option maxHeartbeats 4000000 in
theorem k_isBranch_f {g : Gx} {h : HP} {mv mrc mmc mmk mdv mwl mwa mwp mth : Int} {mop : Int → Int} {b9 : Int} (hm : mO h mv mrc mmc mmk mdv mwl mwa mwp mth) (h206 : h 206 = some (oZ 4 mop)) (hz : ∀ i, 0 ≤ i → i ≤ 3 → mop i = 0 ∨ mop i = 1) (hP : ¬ (0 ≤ b9 ∧ b9 ≤ 3 ∧ mop b9 = 1)) : Ct g yX11_isBranch (.code yX11_isBranch cX11_isBranch 2 (some .boolean)) 2 0 0 [vR 200, vI b9] h (Rt (some (vI 0)) h) := by
  refine Ct.of (by decide) (Nat.le_of_ble_eq_true rfl) (fun x hg C F => ?_)
  subst hg
  have hz1 : 0 ≤ b9 → b9 ≤ 3 → mop b9 = 0 ∨ mop b9 = 1 := hz b9
  show T x 0 [(0, vR 200), (1, vI b9)] [] h 0 0
  refine st_iload_n C 1 dX11_isBranch_0 rfl rfl ?_
  refine st_iconst C dX11_isBranch_1 (by decide) ?_
  refine st_iconst C dX11_isBranch_2 (by decide) ?_
  by_cases b_3 : 0 ≤ b9 ∧ b9 ≤ 3
  · refine st_callS (st := []) C dX11_isBranch_3 [vI b9, vI 0, vI 3] (k_isIn_t (v9 := b9) (l9 := 0) (u9 := 3)  b_3) w_X11_75 rfl (by decide) (by decide) (by omega) (by omega) (Nat.le_of_ble_eq_true rfl) (ko_rt ?_)
    show T x 6 [(0, vR 200), (1, vI b9)] [vI 1] _ _ _
    refine st_if_eq (tgt := 22) C dX11_isBranch_6 (by decide) (fun c_6 => by omega) (fun c_6 => ?_)
    refine st_aload_n C 0 dX11_isBranch_9 rfl rfl ?_
    refine st_getf C dX11_isBranch_10 fl_X11_25 hm rfl ?_
    refine st_iload_n C 1 dX11_isBranch_13 rfl rfl ?_
    refine st_zald C dX11_isBranch_14 h206 (by omega) (by omega) ?_
    refine st_if_eq (tgt := 22) C dX11_isBranch_15 (by decide) (fun c_15 => ?_) (fun c_15 => ?_)
    · refine st_iconst C dX11_isBranch_22 (by decide) ?_
      exact st_zreturn C F dX11_isBranch_23 rfl (by omega) (rt_i (by first | rfl | omega) rfl) (by omega) (by omega)
    · refine st_iconst C dX11_isBranch_18 (by decide) ?_
      refine st_goto (tgt := 23) C dX11_isBranch_19 (by decide) ?_
      exact st_zreturn C F dX11_isBranch_23 rfl (by omega) (rt_i (by first | rfl | omega) rfl) (by omega) (by omega)
  · refine st_callS (st := []) C dX11_isBranch_3 [vI b9, vI 0, vI 3] (k_isIn_f (v9 := b9) (l9 := 0) (u9 := 3)  b_3) w_X11_75 rfl (by decide) (by decide) (by omega) (by omega) (Nat.le_of_ble_eq_true rfl) (ko_rt ?_)
    show T x 6 [(0, vR 200), (1, vI b9)] [vI 0] _ _ _
    refine st_if_eq (tgt := 22) C dX11_isBranch_6 (by decide) (fun c_6 => ?_) (fun c_6 => by omega)
    refine st_iconst C dX11_isBranch_22 (by decide) ?_
    exact st_zreturn C F dX11_isBranch_23 rfl (by omega) (rt_i (by first | rfl | omega) rfl) (by omega) (by omega)
def mbes (p w : Int) : Int := if w = 0 then (if p % 8 < 7 then p + 1 else -1) else if w = 1 then (if 0 < p % 8 then p - 1 else -1) else if w = 2 then (if p / 8 < 7 then p + 8 else -1) else (if 0 < p / 8 then p - 8 else -1)
theorem mbes_in {p w : Int} (hp : 0 ≤ p ∧ p ≤ 63) : mbes p w = -1 ∨ (0 ≤ mbes p w ∧ mbes p w ≤ 63) := by
  unfold mbes
  repeat (first | omega | split)
def mroad (p w : Int) : Int := if w = 0 then 192 + 7 * (p / 8) + p % 8 else if w = 1 then 192 + 7 * ((p - 1) / 8) + (p - 1) % 8 else if w = 2 then 248 + p else 248 + (p - 8)
set_option maxRecDepth 20000 in
set_option maxHeartbeats 4000000 in
theorem k_mbes {g : Gx} {h : HP} {p w : Int} (hp : 0 ≤ p ∧ p ≤ 63) (hw : 0 ≤ w ∧ w ≤ 3) : Ct g yX11_beside (.code yX11_beside cX11_beside 4 (some .int)) 2 0 0 [vI p, vI w] h (Rt (some (vI (mbes p w))) h) := by
  refine Ct.of (by decide) (Nat.le_of_ble_eq_true rfl) (fun x hg C F => ?_)
  subst hg
  show T x 0 [(0, vI p), (1, vI w)] [] h 0 0
  refine st_iload_n C 0 dX11_beside_0 rfl rfl ?_
  refine st_bipush C dX11_beside_1 (by decide) (by decide) ?_
  refine st_irem C dX11_beside_3 (by omega) (by omega) ?_
  refine st_iload_n C 1 dX11_beside_4 rfl rfl ?_
  refine st_if_ne (tgt := 12) C dX11_beside_5 (by decide) (fun c_5 => ?_) (fun c_5 => ?_)
  · refine st_iload_n C 1 dX11_beside_12 rfl rfl ?_
    refine st_iconst C dX11_beside_13 (by decide) ?_
    refine st_icmp_ne (tgt := 21) C dX11_beside_14 (by decide) (fun c_14 => ?_) (fun c_14 => ?_)
    · refine st_iconst C dX11_beside_21 (by decide) ?_
      refine st_iadd C dX11_beside_22 ⟨(by omega), (by omega)⟩ ?_
      refine st_istore_n C 2 dX11_beside_23 rfl (by decide) rfl ?_
      show T x 24 [(0, vI p), (1, vI w), (2, vI (p % 8 + 0))] [] _ _ _
      refine st_iload_n C 0 dX11_beside_24 rfl rfl ?_
      refine st_bipush C dX11_beside_25 (by decide) (by decide) ?_
      refine st_idiv C dX11_beside_27 (by omega) (by omega) ?_
      refine st_iload_n C 1 dX11_beside_28 rfl rfl ?_
      refine st_iconst C dX11_beside_29 (by decide) ?_
      refine st_icmp_ne (tgt := 37) C dX11_beside_30 (by decide) (fun c_30 => ?_) (fun c_30 => ?_)
      · refine st_iload_n C 1 dX11_beside_37 rfl rfl ?_
        refine st_iconst C dX11_beside_38 (by decide) ?_
        refine st_icmp_ne (tgt := 46) C dX11_beside_39 (by decide) (fun c_39 => ?_) (fun c_39 => ?_)
        · refine st_iconst C dX11_beside_46 (by decide) ?_
          refine st_iadd C dX11_beside_47 ⟨(by omega), (by omega)⟩ ?_
          refine st_istore_n C 3 dX11_beside_48 rfl (by decide) rfl ?_
          show T x 49 [(0, vI p), (1, vI w), (2, vI (p % 8 + 0)), (3, vI (p / 8 + 0))] [] _ _ _
          refine st_iload_n C 2 dX11_beside_49 rfl rfl ?_
          refine st_iconst C dX11_beside_50 (by decide) ?_
          refine st_bipush C dX11_beside_51 (by decide) (by decide) ?_
          have b_53 : 0 ≤ (p % 8 + 0) ∧ (p % 8 + 0) ≤ 7 := by omega
          refine st_callS (st := []) C dX11_beside_53 [vI (p % 8 + 0), vI 0, vI 7] (k_isIn_t (v9 := (p % 8 + 0)) (l9 := 0) (u9 := 7)  b_53) w_X11_75 rfl (by decide) (by decide) (by omega) (by omega) (Nat.le_of_ble_eq_true rfl) (ko_rt ?_)
          show T x 56 [(0, vI p), (1, vI w), (2, vI (p % 8 + 0)), (3, vI (p / 8 + 0))] [vI 1] _ _ _
          refine st_if_eq (tgt := 78) C dX11_beside_56 (by decide) (fun c_56 => by omega) (fun c_56 => ?_)
          refine st_iload_n C 3 dX11_beside_59 rfl rfl ?_
          refine st_iconst C dX11_beside_60 (by decide) ?_
          refine st_bipush C dX11_beside_61 (by decide) (by decide) ?_
          have b_63 : 0 ≤ (p / 8 + 0) ∧ (p / 8 + 0) ≤ 7 := by omega
          refine st_callS (st := []) C dX11_beside_63 [vI (p / 8 + 0), vI 0, vI 7] (k_isIn_t (v9 := (p / 8 + 0)) (l9 := 0) (u9 := 7)  b_63) w_X11_75 rfl (by decide) (by decide) (by omega) (by omega) (Nat.le_of_ble_eq_true rfl) (ko_rt ?_)
          show T x 66 [(0, vI p), (1, vI w), (2, vI (p % 8 + 0)), (3, vI (p / 8 + 0))] [vI 1] _ _ _
          refine st_if_eq (tgt := 78) C dX11_beside_66 (by decide) (fun c_66 => by omega) (fun c_66 => ?_)
          refine st_bipush C dX11_beside_69 (by decide) (by decide) ?_
          refine st_iload_n C 3 dX11_beside_71 rfl rfl ?_
          refine st_imul C dX11_beside_72 ⟨(by omega), (by omega)⟩ ?_
          refine st_iload_n C 2 dX11_beside_73 rfl rfl ?_
          refine st_iadd C dX11_beside_74 ⟨(by omega), (by omega)⟩ ?_
          refine st_goto (tgt := 79) C dX11_beside_75 (by decide) ?_
          exact st_ireturn C F dX11_beside_79 rfl (rt_i (by unfold mbes; repeat (first | omega | split)) rfl) (by omega) (by omega)
        · refine st_iconst C dX11_beside_42 (by decide) ?_
          refine st_goto (tgt := 47) C dX11_beside_43 (by decide) ?_
          refine st_iadd C dX11_beside_47 ⟨(by omega), (by omega)⟩ ?_
          refine st_istore_n C 3 dX11_beside_48 rfl (by decide) rfl ?_
          show T x 49 [(0, vI p), (1, vI w), (2, vI (p % 8 + 0)), (3, vI (p / 8 + (-1)))] [] _ _ _
          refine st_iload_n C 2 dX11_beside_49 rfl rfl ?_
          refine st_iconst C dX11_beside_50 (by decide) ?_
          refine st_bipush C dX11_beside_51 (by decide) (by decide) ?_
          have b_53 : 0 ≤ (p % 8 + 0) ∧ (p % 8 + 0) ≤ 7 := by omega
          refine st_callS (st := []) C dX11_beside_53 [vI (p % 8 + 0), vI 0, vI 7] (k_isIn_t (v9 := (p % 8 + 0)) (l9 := 0) (u9 := 7)  b_53) w_X11_75 rfl (by decide) (by decide) (by omega) (by omega) (Nat.le_of_ble_eq_true rfl) (ko_rt ?_)
          show T x 56 [(0, vI p), (1, vI w), (2, vI (p % 8 + 0)), (3, vI (p / 8 + (-1)))] [vI 1] _ _ _
          refine st_if_eq (tgt := 78) C dX11_beside_56 (by decide) (fun c_56 => by omega) (fun c_56 => ?_)
          refine st_iload_n C 3 dX11_beside_59 rfl rfl ?_
          refine st_iconst C dX11_beside_60 (by decide) ?_
          refine st_bipush C dX11_beside_61 (by decide) (by decide) ?_
          by_cases b_63 : 0 ≤ (p / 8 + (-1)) ∧ (p / 8 + (-1)) ≤ 7
          · refine st_callS (st := []) C dX11_beside_63 [vI (p / 8 + (-1)), vI 0, vI 7] (k_isIn_t (v9 := (p / 8 + (-1))) (l9 := 0) (u9 := 7)  b_63) w_X11_75 rfl (by decide) (by decide) (by omega) (by omega) (Nat.le_of_ble_eq_true rfl) (ko_rt ?_)
            show T x 66 [(0, vI p), (1, vI w), (2, vI (p % 8 + 0)), (3, vI (p / 8 + (-1)))] [vI 1] _ _ _
            refine st_if_eq (tgt := 78) C dX11_beside_66 (by decide) (fun c_66 => by omega) (fun c_66 => ?_)
            refine st_bipush C dX11_beside_69 (by decide) (by decide) ?_
            refine st_iload_n C 3 dX11_beside_71 rfl rfl ?_
            refine st_imul C dX11_beside_72 ⟨(by omega), (by omega)⟩ ?_
            refine st_iload_n C 2 dX11_beside_73 rfl rfl ?_
            refine st_iadd C dX11_beside_74 ⟨(by omega), (by omega)⟩ ?_
            refine st_goto (tgt := 79) C dX11_beside_75 (by decide) ?_
            exact st_ireturn C F dX11_beside_79 rfl (rt_i (by unfold mbes; repeat (first | omega | split)) rfl) (by omega) (by omega)
          · refine st_callS (st := []) C dX11_beside_63 [vI (p / 8 + (-1)), vI 0, vI 7] (k_isIn_f (v9 := (p / 8 + (-1))) (l9 := 0) (u9 := 7)  b_63) w_X11_75 rfl (by decide) (by decide) (by omega) (by omega) (Nat.le_of_ble_eq_true rfl) (ko_rt ?_)
            show T x 66 [(0, vI p), (1, vI w), (2, vI (p % 8 + 0)), (3, vI (p / 8 + (-1)))] [vI 0] _ _ _
            refine st_if_eq (tgt := 78) C dX11_beside_66 (by decide) (fun c_66 => ?_) (fun c_66 => by omega)
            refine st_iconst C dX11_beside_78 (by decide) ?_
            exact st_ireturn C F dX11_beside_79 rfl (rt_i (by unfold mbes; repeat (first | omega | split)) rfl) (by omega) (by omega)
      · refine st_iconst C dX11_beside_33 (by decide) ?_
        refine st_goto (tgt := 47) C dX11_beside_34 (by decide) ?_
        refine st_iadd C dX11_beside_47 ⟨(by omega), (by omega)⟩ ?_
        refine st_istore_n C 3 dX11_beside_48 rfl (by decide) rfl ?_
        show T x 49 [(0, vI p), (1, vI w), (2, vI (p % 8 + 0)), (3, vI (p / 8 + 1))] [] _ _ _
        refine st_iload_n C 2 dX11_beside_49 rfl rfl ?_
        refine st_iconst C dX11_beside_50 (by decide) ?_
        refine st_bipush C dX11_beside_51 (by decide) (by decide) ?_
        have b_53 : 0 ≤ (p % 8 + 0) ∧ (p % 8 + 0) ≤ 7 := by omega
        refine st_callS (st := []) C dX11_beside_53 [vI (p % 8 + 0), vI 0, vI 7] (k_isIn_t (v9 := (p % 8 + 0)) (l9 := 0) (u9 := 7)  b_53) w_X11_75 rfl (by decide) (by decide) (by omega) (by omega) (Nat.le_of_ble_eq_true rfl) (ko_rt ?_)
        show T x 56 [(0, vI p), (1, vI w), (2, vI (p % 8 + 0)), (3, vI (p / 8 + 1))] [vI 1] _ _ _
        refine st_if_eq (tgt := 78) C dX11_beside_56 (by decide) (fun c_56 => by omega) (fun c_56 => ?_)
        refine st_iload_n C 3 dX11_beside_59 rfl rfl ?_
        refine st_iconst C dX11_beside_60 (by decide) ?_
        refine st_bipush C dX11_beside_61 (by decide) (by decide) ?_
        by_cases b_63 : 0 ≤ (p / 8 + 1) ∧ (p / 8 + 1) ≤ 7
        · refine st_callS (st := []) C dX11_beside_63 [vI (p / 8 + 1), vI 0, vI 7] (k_isIn_t (v9 := (p / 8 + 1)) (l9 := 0) (u9 := 7)  b_63) w_X11_75 rfl (by decide) (by decide) (by omega) (by omega) (Nat.le_of_ble_eq_true rfl) (ko_rt ?_)
          show T x 66 [(0, vI p), (1, vI w), (2, vI (p % 8 + 0)), (3, vI (p / 8 + 1))] [vI 1] _ _ _
          refine st_if_eq (tgt := 78) C dX11_beside_66 (by decide) (fun c_66 => by omega) (fun c_66 => ?_)
          refine st_bipush C dX11_beside_69 (by decide) (by decide) ?_
          refine st_iload_n C 3 dX11_beside_71 rfl rfl ?_
          refine st_imul C dX11_beside_72 ⟨(by omega), (by omega)⟩ ?_
          refine st_iload_n C 2 dX11_beside_73 rfl rfl ?_
          refine st_iadd C dX11_beside_74 ⟨(by omega), (by omega)⟩ ?_
          refine st_goto (tgt := 79) C dX11_beside_75 (by decide) ?_
          exact st_ireturn C F dX11_beside_79 rfl (rt_i (by unfold mbes; repeat (first | omega | split)) rfl) (by omega) (by omega)
        · refine st_callS (st := []) C dX11_beside_63 [vI (p / 8 + 1), vI 0, vI 7] (k_isIn_f (v9 := (p / 8 + 1)) (l9 := 0) (u9 := 7)  b_63) w_X11_75 rfl (by decide) (by decide) (by omega) (by omega) (Nat.le_of_ble_eq_true rfl) (ko_rt ?_)
          show T x 66 [(0, vI p), (1, vI w), (2, vI (p % 8 + 0)), (3, vI (p / 8 + 1))] [vI 0] _ _ _
          refine st_if_eq (tgt := 78) C dX11_beside_66 (by decide) (fun c_66 => ?_) (fun c_66 => by omega)
          refine st_iconst C dX11_beside_78 (by decide) ?_
          exact st_ireturn C F dX11_beside_79 rfl (rt_i (by unfold mbes; repeat (first | omega | split)) rfl) (by omega) (by omega)
    · refine st_iconst C dX11_beside_17 (by decide) ?_
      refine st_goto (tgt := 22) C dX11_beside_18 (by decide) ?_
      refine st_iadd C dX11_beside_22 ⟨(by omega), (by omega)⟩ ?_
      refine st_istore_n C 2 dX11_beside_23 rfl (by decide) rfl ?_
      show T x 24 [(0, vI p), (1, vI w), (2, vI (p % 8 + (-1)))] [] _ _ _
      refine st_iload_n C 0 dX11_beside_24 rfl rfl ?_
      refine st_bipush C dX11_beside_25 (by decide) (by decide) ?_
      refine st_idiv C dX11_beside_27 (by omega) (by omega) ?_
      refine st_iload_n C 1 dX11_beside_28 rfl rfl ?_
      refine st_iconst C dX11_beside_29 (by decide) ?_
      refine st_icmp_ne (tgt := 37) C dX11_beside_30 (by decide) (fun c_30 => ?_) (fun c_30 => by omega)
      refine st_iload_n C 1 dX11_beside_37 rfl rfl ?_
      refine st_iconst C dX11_beside_38 (by decide) ?_
      refine st_icmp_ne (tgt := 46) C dX11_beside_39 (by decide) (fun c_39 => ?_) (fun c_39 => by omega)
      refine st_iconst C dX11_beside_46 (by decide) ?_
      refine st_iadd C dX11_beside_47 ⟨(by omega), (by omega)⟩ ?_
      refine st_istore_n C 3 dX11_beside_48 rfl (by decide) rfl ?_
      show T x 49 [(0, vI p), (1, vI w), (2, vI (p % 8 + (-1))), (3, vI (p / 8 + 0))] [] _ _ _
      refine st_iload_n C 2 dX11_beside_49 rfl rfl ?_
      refine st_iconst C dX11_beside_50 (by decide) ?_
      refine st_bipush C dX11_beside_51 (by decide) (by decide) ?_
      by_cases b_53 : 0 ≤ (p % 8 + (-1)) ∧ (p % 8 + (-1)) ≤ 7
      · refine st_callS (st := []) C dX11_beside_53 [vI (p % 8 + (-1)), vI 0, vI 7] (k_isIn_t (v9 := (p % 8 + (-1))) (l9 := 0) (u9 := 7)  b_53) w_X11_75 rfl (by decide) (by decide) (by omega) (by omega) (Nat.le_of_ble_eq_true rfl) (ko_rt ?_)
        show T x 56 [(0, vI p), (1, vI w), (2, vI (p % 8 + (-1))), (3, vI (p / 8 + 0))] [vI 1] _ _ _
        refine st_if_eq (tgt := 78) C dX11_beside_56 (by decide) (fun c_56 => by omega) (fun c_56 => ?_)
        refine st_iload_n C 3 dX11_beside_59 rfl rfl ?_
        refine st_iconst C dX11_beside_60 (by decide) ?_
        refine st_bipush C dX11_beside_61 (by decide) (by decide) ?_
        have b_63 : 0 ≤ (p / 8 + 0) ∧ (p / 8 + 0) ≤ 7 := by omega
        refine st_callS (st := []) C dX11_beside_63 [vI (p / 8 + 0), vI 0, vI 7] (k_isIn_t (v9 := (p / 8 + 0)) (l9 := 0) (u9 := 7)  b_63) w_X11_75 rfl (by decide) (by decide) (by omega) (by omega) (Nat.le_of_ble_eq_true rfl) (ko_rt ?_)
        show T x 66 [(0, vI p), (1, vI w), (2, vI (p % 8 + (-1))), (3, vI (p / 8 + 0))] [vI 1] _ _ _
        refine st_if_eq (tgt := 78) C dX11_beside_66 (by decide) (fun c_66 => by omega) (fun c_66 => ?_)
        refine st_bipush C dX11_beside_69 (by decide) (by decide) ?_
        refine st_iload_n C 3 dX11_beside_71 rfl rfl ?_
        refine st_imul C dX11_beside_72 ⟨(by omega), (by omega)⟩ ?_
        refine st_iload_n C 2 dX11_beside_73 rfl rfl ?_
        refine st_iadd C dX11_beside_74 ⟨(by omega), (by omega)⟩ ?_
        refine st_goto (tgt := 79) C dX11_beside_75 (by decide) ?_
        exact st_ireturn C F dX11_beside_79 rfl (rt_i (by unfold mbes; repeat (first | omega | split)) rfl) (by omega) (by omega)
      · refine st_callS (st := []) C dX11_beside_53 [vI (p % 8 + (-1)), vI 0, vI 7] (k_isIn_f (v9 := (p % 8 + (-1))) (l9 := 0) (u9 := 7)  b_53) w_X11_75 rfl (by decide) (by decide) (by omega) (by omega) (Nat.le_of_ble_eq_true rfl) (ko_rt ?_)
        show T x 56 [(0, vI p), (1, vI w), (2, vI (p % 8 + (-1))), (3, vI (p / 8 + 0))] [vI 0] _ _ _
        refine st_if_eq (tgt := 78) C dX11_beside_56 (by decide) (fun c_56 => ?_) (fun c_56 => by omega)
        refine st_iconst C dX11_beside_78 (by decide) ?_
        exact st_ireturn C F dX11_beside_79 rfl (rt_i (by unfold mbes; repeat (first | omega | split)) rfl) (by omega) (by omega)
  · refine st_iconst C dX11_beside_8 (by decide) ?_
    refine st_goto (tgt := 22) C dX11_beside_9 (by decide) ?_
    refine st_iadd C dX11_beside_22 ⟨(by omega), (by omega)⟩ ?_
    refine st_istore_n C 2 dX11_beside_23 rfl (by decide) rfl ?_
    show T x 24 [(0, vI p), (1, vI w), (2, vI (p % 8 + 1))] [] _ _ _
    refine st_iload_n C 0 dX11_beside_24 rfl rfl ?_
    refine st_bipush C dX11_beside_25 (by decide) (by decide) ?_
    refine st_idiv C dX11_beside_27 (by omega) (by omega) ?_
    refine st_iload_n C 1 dX11_beside_28 rfl rfl ?_
    refine st_iconst C dX11_beside_29 (by decide) ?_
    refine st_icmp_ne (tgt := 37) C dX11_beside_30 (by decide) (fun c_30 => ?_) (fun c_30 => by omega)
    refine st_iload_n C 1 dX11_beside_37 rfl rfl ?_
    refine st_iconst C dX11_beside_38 (by decide) ?_
    refine st_icmp_ne (tgt := 46) C dX11_beside_39 (by decide) (fun c_39 => ?_) (fun c_39 => by omega)
    refine st_iconst C dX11_beside_46 (by decide) ?_
    refine st_iadd C dX11_beside_47 ⟨(by omega), (by omega)⟩ ?_
    refine st_istore_n C 3 dX11_beside_48 rfl (by decide) rfl ?_
    show T x 49 [(0, vI p), (1, vI w), (2, vI (p % 8 + 1)), (3, vI (p / 8 + 0))] [] _ _ _
    refine st_iload_n C 2 dX11_beside_49 rfl rfl ?_
    refine st_iconst C dX11_beside_50 (by decide) ?_
    refine st_bipush C dX11_beside_51 (by decide) (by decide) ?_
    by_cases b_53 : 0 ≤ (p % 8 + 1) ∧ (p % 8 + 1) ≤ 7
    · refine st_callS (st := []) C dX11_beside_53 [vI (p % 8 + 1), vI 0, vI 7] (k_isIn_t (v9 := (p % 8 + 1)) (l9 := 0) (u9 := 7)  b_53) w_X11_75 rfl (by decide) (by decide) (by omega) (by omega) (Nat.le_of_ble_eq_true rfl) (ko_rt ?_)
      show T x 56 [(0, vI p), (1, vI w), (2, vI (p % 8 + 1)), (3, vI (p / 8 + 0))] [vI 1] _ _ _
      refine st_if_eq (tgt := 78) C dX11_beside_56 (by decide) (fun c_56 => by omega) (fun c_56 => ?_)
      refine st_iload_n C 3 dX11_beside_59 rfl rfl ?_
      refine st_iconst C dX11_beside_60 (by decide) ?_
      refine st_bipush C dX11_beside_61 (by decide) (by decide) ?_
      have b_63 : 0 ≤ (p / 8 + 0) ∧ (p / 8 + 0) ≤ 7 := by omega
      refine st_callS (st := []) C dX11_beside_63 [vI (p / 8 + 0), vI 0, vI 7] (k_isIn_t (v9 := (p / 8 + 0)) (l9 := 0) (u9 := 7)  b_63) w_X11_75 rfl (by decide) (by decide) (by omega) (by omega) (Nat.le_of_ble_eq_true rfl) (ko_rt ?_)
      show T x 66 [(0, vI p), (1, vI w), (2, vI (p % 8 + 1)), (3, vI (p / 8 + 0))] [vI 1] _ _ _
      refine st_if_eq (tgt := 78) C dX11_beside_66 (by decide) (fun c_66 => by omega) (fun c_66 => ?_)
      refine st_bipush C dX11_beside_69 (by decide) (by decide) ?_
      refine st_iload_n C 3 dX11_beside_71 rfl rfl ?_
      refine st_imul C dX11_beside_72 ⟨(by omega), (by omega)⟩ ?_
      refine st_iload_n C 2 dX11_beside_73 rfl rfl ?_
      refine st_iadd C dX11_beside_74 ⟨(by omega), (by omega)⟩ ?_
      refine st_goto (tgt := 79) C dX11_beside_75 (by decide) ?_
      exact st_ireturn C F dX11_beside_79 rfl (rt_i (by unfold mbes; repeat (first | omega | split)) rfl) (by omega) (by omega)
    · refine st_callS (st := []) C dX11_beside_53 [vI (p % 8 + 1), vI 0, vI 7] (k_isIn_f (v9 := (p % 8 + 1)) (l9 := 0) (u9 := 7)  b_53) w_X11_75 rfl (by decide) (by decide) (by omega) (by omega) (Nat.le_of_ble_eq_true rfl) (ko_rt ?_)
      show T x 56 [(0, vI p), (1, vI w), (2, vI (p % 8 + 1)), (3, vI (p / 8 + 0))] [vI 0] _ _ _
      refine st_if_eq (tgt := 78) C dX11_beside_56 (by decide) (fun c_56 => ?_) (fun c_56 => by omega)
      refine st_iconst C dX11_beside_78 (by decide) ?_
      exact st_ireturn C F dX11_beside_79 rfl (rt_i (by unfold mbes; repeat (first | omega | split)) rfl) (by omega) (by omega)
set_option maxRecDepth 20000 in
set_option maxHeartbeats 4000000 in
theorem k_mroad {g : Gx} {h : HP} {p w : Int} (hp : 0 ≤ p ∧ p ≤ 63) (hw : 0 ≤ w ∧ w ≤ 3) (hn : 0 ≤ mbes p w) : Ct g yX11_roadOf (.code yX11_roadOf cX11_roadOf 3 (some .int)) 3 0 0 [vI p, vI w] h (Rt (some (vI (mroad p w))) h) := by
  refine Ct.of (by decide) (Nat.le_of_ble_eq_true rfl) (fun x hg C F => ?_)
  subst hg
  have hb := mbes_in (w := w) hp
  have hb2 : (w = 1 → mbes p w = p - 1) ∧ (w = 3 → mbes p w = p - 8) := by unfold mbes at hn ⊢; constructor <;> intro e <;> subst e <;> simp at hn ⊢ <;> omega
  show T x 0 [(0, vI p), (1, vI w)] [] h 0 0
  refine st_iload_n C 1 dX11_roadOf_0 rfl rfl ?_
  refine st_iconst C dX11_roadOf_1 (by decide) ?_
  refine st_icmp_eq (tgt := 10) C dX11_roadOf_2 (by decide) (fun c_2 => ?_) (fun c_2 => ?_)
  · refine st_iload_n C 0 dX11_roadOf_10 rfl rfl ?_
    refine st_iload_n C 1 dX11_roadOf_11 rfl rfl ?_
    refine st_callS (st := []) C dX11_roadOf_12 [vI p, vI w] (k_mbes (p := p) (w := w) (by omega) (by omega)) w_X11_79 rfl (by decide) (by decide) (by omega) (by omega) (Nat.le_of_ble_eq_true rfl) (ko_rt ?_)
    show T x 15 [(0, vI p), (1, vI w)] [vI (mbes p w)] _ _ _
    refine st_goto (tgt := 19) C dX11_roadOf_15 (by decide) ?_
    refine st_istore_n C 2 dX11_roadOf_19 rfl (by decide) rfl ?_
    show T x 20 [(0, vI p), (1, vI w), (2, vI (mbes p w))] [] _ _ _
    refine st_iload_n C 1 dX11_roadOf_20 rfl rfl ?_
    refine st_iconst C dX11_roadOf_21 (by decide) ?_
    refine st_icmp_ge (tgt := 44) C dX11_roadOf_22 (by decide) (fun c_22 => by omega) (fun c_22 => ?_)
    refine st_sipush C dX11_roadOf_25 (by decide) (by decide) ?_
    refine st_bipush C dX11_roadOf_28 (by decide) (by decide) ?_
    refine st_iload_n C 2 dX11_roadOf_30 rfl rfl ?_
    refine st_bipush C dX11_roadOf_31 (by decide) (by decide) ?_
    refine st_idiv C dX11_roadOf_33 (by omega) (by omega) ?_
    refine st_imul C dX11_roadOf_34 ⟨(by omega), (by omega)⟩ ?_
    refine st_iadd C dX11_roadOf_35 ⟨(by omega), (by omega)⟩ ?_
    refine st_iload_n C 2 dX11_roadOf_36 rfl rfl ?_
    refine st_bipush C dX11_roadOf_37 (by decide) (by decide) ?_
    refine st_irem C dX11_roadOf_39 (by omega) (by omega) ?_
    refine st_iadd C dX11_roadOf_40 ⟨(by omega), (by omega)⟩ ?_
    refine st_goto (tgt := 49) C dX11_roadOf_41 (by decide) ?_
    exact st_ireturn C F dX11_roadOf_49 rfl (rt_i (by unfold mroad; repeat (first | omega | split)) rfl) (by omega) (by omega)
  · refine st_iload_n C 1 dX11_roadOf_5 rfl rfl ?_
    refine st_iconst C dX11_roadOf_6 (by decide) ?_
    refine st_icmp_ne (tgt := 18) C dX11_roadOf_7 (by decide) (fun c_7 => ?_) (fun c_7 => ?_)
    · refine st_iload_n C 0 dX11_roadOf_18 rfl rfl ?_
      refine st_istore_n C 2 dX11_roadOf_19 rfl (by decide) rfl ?_
      show T x 20 [(0, vI p), (1, vI w), (2, vI p)] [] _ _ _
      refine st_iload_n C 1 dX11_roadOf_20 rfl rfl ?_
      refine st_iconst C dX11_roadOf_21 (by decide) ?_
      refine st_icmp_ge (tgt := 44) C dX11_roadOf_22 (by decide) (fun c_22 => ?_) (fun c_22 => ?_)
      · refine st_sipush C dX11_roadOf_44 (by decide) (by decide) ?_
        refine st_iload_n C 2 dX11_roadOf_47 rfl rfl ?_
        refine st_iadd C dX11_roadOf_48 ⟨(by omega), (by omega)⟩ ?_
        exact st_ireturn C F dX11_roadOf_49 rfl (rt_i (by unfold mroad; repeat (first | omega | split)) rfl) (by omega) (by omega)
      · refine st_sipush C dX11_roadOf_25 (by decide) (by decide) ?_
        refine st_bipush C dX11_roadOf_28 (by decide) (by decide) ?_
        refine st_iload_n C 2 dX11_roadOf_30 rfl rfl ?_
        refine st_bipush C dX11_roadOf_31 (by decide) (by decide) ?_
        refine st_idiv C dX11_roadOf_33 (by omega) (by omega) ?_
        refine st_imul C dX11_roadOf_34 ⟨(by omega), (by omega)⟩ ?_
        refine st_iadd C dX11_roadOf_35 ⟨(by omega), (by omega)⟩ ?_
        refine st_iload_n C 2 dX11_roadOf_36 rfl rfl ?_
        refine st_bipush C dX11_roadOf_37 (by decide) (by decide) ?_
        refine st_irem C dX11_roadOf_39 (by omega) (by omega) ?_
        refine st_iadd C dX11_roadOf_40 ⟨(by omega), (by omega)⟩ ?_
        refine st_goto (tgt := 49) C dX11_roadOf_41 (by decide) ?_
        exact st_ireturn C F dX11_roadOf_49 rfl (rt_i (by unfold mroad; repeat (first | omega | split)) rfl) (by omega) (by omega)
    · refine st_iload_n C 0 dX11_roadOf_10 rfl rfl ?_
      refine st_iload_n C 1 dX11_roadOf_11 rfl rfl ?_
      refine st_callS (st := []) C dX11_roadOf_12 [vI p, vI w] (k_mbes (p := p) (w := w) (by omega) (by omega)) w_X11_79 rfl (by decide) (by decide) (by omega) (by omega) (Nat.le_of_ble_eq_true rfl) (ko_rt ?_)
      show T x 15 [(0, vI p), (1, vI w)] [vI (mbes p w)] _ _ _
      refine st_goto (tgt := 19) C dX11_roadOf_15 (by decide) ?_
      refine st_istore_n C 2 dX11_roadOf_19 rfl (by decide) rfl ?_
      show T x 20 [(0, vI p), (1, vI w), (2, vI (mbes p w))] [] _ _ _
      refine st_iload_n C 1 dX11_roadOf_20 rfl rfl ?_
      refine st_iconst C dX11_roadOf_21 (by decide) ?_
      refine st_icmp_ge (tgt := 44) C dX11_roadOf_22 (by decide) (fun c_22 => ?_) (fun c_22 => by omega)
      refine st_sipush C dX11_roadOf_44 (by decide) (by decide) ?_
      refine st_iload_n C 2 dX11_roadOf_47 rfl rfl ?_
      refine st_iadd C dX11_roadOf_48 ⟨(by omega), (by omega)⟩ ?_
      exact st_ireturn C F dX11_roadOf_49 rfl (rt_i (by unfold mroad; repeat (first | omega | split)) rfl) (by omega) (by omega)
set_option maxRecDepth 20000 in
set_option maxHeartbeats 4000000 in
theorem k_msz {g : Gx} {h : HP} {d : Int} (hd : 0 ≤ d ∧ d ≤ 3) : Ct g yX11_size (.code yX11_size cX11_size 1 (some .int)) 1 0 0 [vI d] h (Rt (some (vI (if d = 0 then 1 else if d = 1 then 2 else if d = 2 then 4 else 8))) h) := by
  refine Ct.of (by decide) (Nat.le_of_ble_eq_true rfl) (fun x hg C F => ?_)
  subst hg
  show T x 0 [(0, vI d)] [] h 0 0
  refine st_iload_n C 0 dX11_size_0 rfl rfl ?_
  refine st_if_ne (tgt := 8) C dX11_size_1 (by decide) (fun c_1 => ?_) (fun c_1 => ?_)
  · refine st_iload_n C 0 dX11_size_8 rfl rfl ?_
    refine st_iconst C dX11_size_9 (by decide) ?_
    refine st_icmp_ne (tgt := 17) C dX11_size_10 (by decide) (fun c_10 => ?_) (fun c_10 => ?_)
    · refine st_iload_n C 0 dX11_size_17 rfl rfl ?_
      refine st_iconst C dX11_size_18 (by decide) ?_
      refine st_icmp_ne (tgt := 26) C dX11_size_19 (by decide) (fun c_19 => ?_) (fun c_19 => ?_)
      · refine st_bipush C dX11_size_26 (by decide) (by decide) ?_
        exact st_ireturn C F dX11_size_28 rfl (rt_i (by repeat (first | omega | split)) rfl) (by omega) (by omega)
      · refine st_iconst C dX11_size_22 (by decide) ?_
        refine st_goto (tgt := 28) C dX11_size_23 (by decide) ?_
        exact st_ireturn C F dX11_size_28 rfl (rt_i (by repeat (first | omega | split)) rfl) (by omega) (by omega)
    · refine st_iconst C dX11_size_13 (by decide) ?_
      refine st_goto (tgt := 28) C dX11_size_14 (by decide) ?_
      exact st_ireturn C F dX11_size_28 rfl (rt_i (by repeat (first | omega | split)) rfl) (by omega) (by omega)
  · refine st_iconst C dX11_size_4 (by decide) ?_
    refine st_goto (tgt := 28) C dX11_size_5 (by decide) ?_
    exact st_ireturn C F dX11_size_28 rfl (rt_i (by repeat (first | omega | split)) rfl) (by omega) (by omega)
set_option maxRecDepth 20000 in
set_option maxHeartbeats 4000000 in
theorem k_depth {g : Gx} {h : HP} {s9 : Int}  : Ct g yX11_depth (.code yX11_depth cX11_depth 1 (some .int)) 1 0 0 [vI s9] h (Rt (some (vI (lvOf s9))) h) := by
  refine Ct.of (by decide) (Nat.le_of_ble_eq_true rfl) (fun x hg C F => ?_)
  subst hg
  show T x 0 [(0, vI s9)] [] h 0 0
  refine st_iload_n C 0 dX11_depth_0 rfl rfl ?_
  refine st_iconst C dX11_depth_1 (by decide) ?_
  refine st_icmp_ne (tgt := 9) C dX11_depth_2 (by decide) (fun c_2 => ?_) (fun c_2 => ?_)
  · refine st_iload_n C 0 dX11_depth_9 rfl rfl ?_
    refine st_iconst C dX11_depth_10 (by decide) ?_
    refine st_icmp_ne (tgt := 18) C dX11_depth_11 (by decide) (fun c_11 => ?_) (fun c_11 => ?_)
    · refine st_iload_n C 0 dX11_depth_18 rfl rfl ?_
      refine st_iconst C dX11_depth_19 (by decide) ?_
      refine st_icmp_ne (tgt := 27) C dX11_depth_20 (by decide) (fun c_20 => ?_) (fun c_20 => ?_)
      · refine st_iload_n C 0 dX11_depth_27 rfl rfl ?_
        refine st_bipush C dX11_depth_28 (by decide) (by decide) ?_
        refine st_icmp_ne (tgt := 37) C dX11_depth_30 (by decide) (fun c_30 => ?_) (fun c_30 => ?_)
        · refine st_iconst C dX11_depth_37 (by decide) ?_
          exact st_ireturn C F dX11_depth_38 rfl (rt_i (by unfold lvOf; repeat (first | omega | split)) rfl) (by omega) (by omega)
        · refine st_iconst C dX11_depth_33 (by decide) ?_
          refine st_goto (tgt := 38) C dX11_depth_34 (by decide) ?_
          exact st_ireturn C F dX11_depth_38 rfl (rt_i (by unfold lvOf; repeat (first | omega | split)) rfl) (by omega) (by omega)
      · refine st_iconst C dX11_depth_23 (by decide) ?_
        refine st_goto (tgt := 38) C dX11_depth_24 (by decide) ?_
        exact st_ireturn C F dX11_depth_38 rfl (rt_i (by unfold lvOf; repeat (first | omega | split)) rfl) (by omega) (by omega)
    · refine st_iconst C dX11_depth_14 (by decide) ?_
      refine st_goto (tgt := 38) C dX11_depth_15 (by decide) ?_
      exact st_ireturn C F dX11_depth_38 rfl (rt_i (by unfold lvOf; repeat (first | omega | split)) rfl) (by omega) (by omega)
  · refine st_iconst C dX11_depth_5 (by decide) ?_
    refine st_goto (tgt := 38) C dX11_depth_6 (by decide) ?_
    exact st_ireturn C F dX11_depth_38 rfl (rt_i (by unfold lvOf; repeat (first | omega | split)) rfl) (by omega) (by omega)
set_option maxRecDepth 20000 in
set_option maxHeartbeats 4000000 in
theorem k_editsOf {g : Gx} {h : HP} {mv mrc mmc mmk mdv mwl mwa mwp mth : Int} {me : Int → Int} {b9 : Int} (hm : mO h mv mrc mmc mmk mdv mwl mwa mwp mth) (h208 : h 208 = some (oI 1216 me)) (hb : 0 ≤ b9 ∧ b9 ≤ 3) : Ct g yX11_editsOf (.code yX11_editsOf cX11_editsOf 4 (some .int)) 1 0 0 [vR 200, vI b9] h (Rt (some (vI (cnt (fun j => 0 ≤ me (304 * b9 + j)) 304))) h) := by
  refine Ct.of (by decide) (Nat.le_of_ble_eq_true rfl) (fun x hg C F => ?_)
  subst hg
  show T x 0 [(0, vR 200), (1, vI b9)] [] h 0 0
  refine st_iconst C dX11_editsOf_0 (by decide) ?_
  refine st_istore_n C 2 dX11_editsOf_1 rfl (by decide) rfl ?_
  show T x 2 [(0, vR 200), (1, vI b9), (2, vI 0)] [] _ _ _
  refine st_iconst C dX11_editsOf_2 (by decide) ?_
  refine st_istore_n C 3 dX11_editsOf_3 rfl (by decide) rfl ?_
  show T x 4 [(0, vR 200), (1, vI b9), (2, vI 0), (3, vI 0)] [] _ _ _
  have loop_4 : ∀ (n_4 : Nat) (c1 : Int) (i : Int), (0 ≤ i) → (i ≤ 304) → (0 ≤ c1 ∧ c1 ≤ i) → (c1 = cnt (fun j => 0 ≤ me (304 * b9 + j)) i) → (304 - i).toNat < n_4 → T x 4 [(0, vR 200), (1, vI b9), (2, vI c1), (3, vI i)] [] h 0 0 := by
    intro n_4
    induction n_4 with
    | zero => intro c1 i g1 g2 g3 g4 hm_4; exact absurd hm_4 (Nat.not_lt_zero _)
    | succ n_4 ih_4 =>
      intro c1 i g1 g2 g3 g4 hm_4
      refine st_iload_n C 3 dX11_editsOf_4 rfl rfl ?_
      refine st_sipush C dX11_editsOf_5 (by decide) (by decide) ?_
      refine st_icmp_ge (tgt := 40) C dX11_editsOf_8 (by decide) (fun c_8 => ?_) (fun c_8 => ?_)
      · refine st_iload_n C 2 dX11_editsOf_40 rfl rfl ?_
        exact st_ireturn C F dX11_editsOf_41 rfl (rt_i (cntE g4 (by omega)) rfl) (by omega) (by omega)
      · refine st_iload_n C 2 dX11_editsOf_11 rfl rfl ?_
        refine st_aload_n C 0 dX11_editsOf_12 rfl rfl ?_
        refine st_getf C dX11_editsOf_13 fl_X11_32 hm rfl ?_
        refine st_sipush C dX11_editsOf_16 (by decide) (by decide) ?_
        refine st_iload_n C 1 dX11_editsOf_19 rfl rfl ?_
        refine st_imul C dX11_editsOf_20 ⟨(by omega), (by omega)⟩ ?_
        refine st_iload_n C 3 dX11_editsOf_21 rfl rfl ?_
        refine st_iadd C dX11_editsOf_22 ⟨(by omega), (by omega)⟩ ?_
        refine st_iald C dX11_editsOf_23 h208 (by omega) (by omega) ?_
        refine st_if_lt (tgt := 31) C dX11_editsOf_24 (by decide) (fun c_24 => ?_) (fun c_24 => ?_)
        · refine st_iconst C dX11_editsOf_31 (by decide) ?_
          refine st_iadd C dX11_editsOf_32 ⟨(by omega), (by omega)⟩ ?_
          refine st_istore_n C 2 dX11_editsOf_33 rfl (by decide) rfl ?_
          show T x 34 [(0, vR 200), (1, vI b9), (2, vI (c1 + 0)), (3, vI i)] [] _ _ _
          refine st_iinc C dX11_editsOf_34 rfl (by decide) rfl ⟨(by omega), (by omega)⟩ ?_
          show T x 37 [(0, vR 200), (1, vI b9), (2, vI (c1 + 0)), (3, vI (i + 1))] [] _ _ _
          refine st_goto (tgt := 4) C dX11_editsOf_37 (by decide) ?_
          exact ih_4 (c1 + 0) (i + 1) (by omega) (by omega) (by omega) (by first | exact cnt_t g1 (by omega) g4 | exact cnt_f g1 (by omega) ((Int.add_zero _).trans g4)) (by omega)
        · refine st_iconst C dX11_editsOf_27 (by decide) ?_
          refine st_goto (tgt := 32) C dX11_editsOf_28 (by decide) ?_
          refine st_iadd C dX11_editsOf_32 ⟨(by omega), (by omega)⟩ ?_
          refine st_istore_n C 2 dX11_editsOf_33 rfl (by decide) rfl ?_
          show T x 34 [(0, vR 200), (1, vI b9), (2, vI (c1 + 1)), (3, vI i)] [] _ _ _
          refine st_iinc C dX11_editsOf_34 rfl (by decide) rfl ⟨(by omega), (by omega)⟩ ?_
          show T x 37 [(0, vR 200), (1, vI b9), (2, vI (c1 + 1)), (3, vI (i + 1))] [] _ _ _
          refine st_goto (tgt := 4) C dX11_editsOf_37 (by decide) ?_
          exact ih_4 (c1 + 1) (i + 1) (by omega) (by omega) (by omega) (by first | exact cnt_t g1 (by omega) g4 | exact cnt_f g1 (by omega) ((Int.add_zero _).trans g4)) (by omega)
  exact loop_4 _ 0 0 (by omega) (by omega) (by omega) (cnt_0) (Nat.lt_succ_self _)
set_option maxRecDepth 20000 in
set_option maxHeartbeats 4000000 in
theorem k_munlike {g : Gx} {h : HP} {mv mrc mmc mmk mdv mwl mwa mwp mth : Int} {mm : Int → Int} {mw : Int → Int} (hm : mO h mv mrc mmc mmk mdv mwl mwa mwp mth) (hmm : h 201 = some (oI 12464 mm)) (hv : 0 ≤ mv ∧ mv ≤ 40) (h202 : h 202 = some (oI 304 mw)) : Ct g yX11_unlike (.code yX11_unlike cX11_unlike 3 (some .int)) 2 0 0 [vR 200] h (Rt (some (vI (cnt (fun j => mw j ≠ mm (304 * mv + j)) 304))) h) := by
  refine Ct.of (by decide) (Nat.le_of_ble_eq_true rfl) (fun x hg C F => ?_)
  subst hg
  show T x 0 [(0, vR 200)] [] h 0 0
  refine st_iconst C dX11_unlike_0 (by decide) ?_
  refine st_istore_n C 1 dX11_unlike_1 rfl (by decide) rfl ?_
  show T x 2 [(0, vR 200), (1, vI 0)] [] _ _ _
  refine st_iconst C dX11_unlike_2 (by decide) ?_
  refine st_istore_n C 2 dX11_unlike_3 rfl (by decide) rfl ?_
  show T x 4 [(0, vR 200), (1, vI 0), (2, vI 0)] [] _ _ _
  have loop_4 : ∀ (n_4 : Nat) (c1 : Int) (i : Int), (0 ≤ i) → (i ≤ 304) → (0 ≤ c1 ∧ c1 ≤ i) → (c1 = cnt (fun j => mw j ≠ mm (304 * mv + j)) i) → (304 - i).toNat < n_4 → T x 4 [(0, vR 200), (1, vI c1), (2, vI i)] [] h 0 0 := by
    intro n_4
    induction n_4 with
    | zero => intro c1 i g1 g2 g3 g4 hm_4; exact absurd hm_4 (Nat.not_lt_zero _)
    | succ n_4 ih_4 =>
      intro c1 i g1 g2 g3 g4 hm_4
      refine st_iload_n C 2 dX11_unlike_4 rfl rfl ?_
      refine st_sipush C dX11_unlike_5 (by decide) (by decide) ?_
      refine st_icmp_ge (tgt := 39) C dX11_unlike_8 (by decide) (fun c_8 => ?_) (fun c_8 => ?_)
      · refine st_iload_n C 1 dX11_unlike_39 rfl rfl ?_
        exact st_ireturn C F dX11_unlike_40 rfl (rt_i (cntE g4 (by omega)) rfl) (by omega) (by omega)
      · refine st_iload_n C 1 dX11_unlike_11 rfl rfl ?_
        refine st_aload_n C 0 dX11_unlike_12 rfl rfl ?_
        refine st_getf C dX11_unlike_13 fl_X11_13 hm rfl ?_
        refine st_iload_n C 2 dX11_unlike_16 rfl rfl ?_
        refine st_iald C dX11_unlike_17 h202 (by omega) (by omega) ?_
        refine st_aload_n C 0 dX11_unlike_18 rfl rfl ?_
        refine st_iload_n C 2 dX11_unlike_19 rfl rfl ?_
        refine st_callV (st := [vI (mw i), vI c1]) C dX11_unlike_20 [vI i] (k_now (mm := mm) (s9 := i) hm hmm hv (by omega)) hm w_X11_105 rfl (by decide) (by decide) (by omega) (by omega) (Nat.le_of_ble_eq_true rfl) (ko_rt ?_)
        show T x 23 [(0, vR 200), (1, vI c1), (2, vI i)] [vI (mm (304 * mv + i)), vI (mw i), vI c1] _ _ _
        refine st_icmp_eq (tgt := 30) C dX11_unlike_23 (by decide) (fun c_23 => ?_) (fun c_23 => ?_)
        · refine st_iconst C dX11_unlike_30 (by decide) ?_
          refine st_iadd C dX11_unlike_31 ⟨(by omega), (by omega)⟩ ?_
          refine st_istore_n C 1 dX11_unlike_32 rfl (by decide) rfl ?_
          show T x 33 [(0, vR 200), (1, vI (c1 + 0)), (2, vI i)] [] _ _ _
          refine st_iinc C dX11_unlike_33 rfl (by decide) rfl ⟨(by omega), (by omega)⟩ ?_
          show T x 36 [(0, vR 200), (1, vI (c1 + 0)), (2, vI (i + 1))] [] _ _ _
          refine st_goto (tgt := 4) C dX11_unlike_36 (by decide) ?_
          exact ih_4 (c1 + 0) (i + 1) (by omega) (by omega) (by omega) (by first | exact cnt_t g1 (by omega) g4 | exact cnt_f g1 (by omega) ((Int.add_zero _).trans g4)) (by omega)
        · refine st_iconst C dX11_unlike_26 (by decide) ?_
          refine st_goto (tgt := 31) C dX11_unlike_27 (by decide) ?_
          refine st_iadd C dX11_unlike_31 ⟨(by omega), (by omega)⟩ ?_
          refine st_istore_n C 1 dX11_unlike_32 rfl (by decide) rfl ?_
          show T x 33 [(0, vR 200), (1, vI (c1 + 1)), (2, vI i)] [] _ _ _
          refine st_iinc C dX11_unlike_33 rfl (by decide) rfl ⟨(by omega), (by omega)⟩ ?_
          show T x 36 [(0, vR 200), (1, vI (c1 + 1)), (2, vI (i + 1))] [] _ _ _
          refine st_goto (tgt := 4) C dX11_unlike_36 (by decide) ?_
          exact ih_4 (c1 + 1) (i + 1) (by omega) (by omega) (by omega) (by first | exact cnt_t g1 (by omega) g4 | exact cnt_f g1 (by omega) ((Int.add_zero _).trans g4)) (by omega)
  exact loop_4 _ 0 0 (by omega) (by omega) (by omega) (cnt_0) (Nat.lt_succ_self _)
set_option maxRecDepth 20000 in
set_option maxHeartbeats 4000000 in
theorem k_sizeOf {g : Gx} {h : HP} {mv mrc mmc mmk mdv mwl mwa mwp mth : Int} {mm : Int → Int} {l a9 : Int} (hm : mO h mv mrc mmc mmk mdv mwl mwa mwp mth) (hmm : h 201 = some (oI 12464 mm)) (hv : 0 ≤ mv ∧ mv ≤ 40) (hl : 0 ≤ l ∧ l ≤ 2) : Ct g yX11_sizeOf (.code yX11_sizeOf cX11_sizeOf 5 (some .int)) 2 0 0 [vR 200, vI l, vI a9] h (Rt (some (vI (cnt (fun j => mm (304 * mv + (64 * l + j)) = a9) 64))) h) := by
  refine Ct.of (by decide) (Nat.le_of_ble_eq_true rfl) (fun x hg C F => ?_)
  subst hg
  show T x 0 [(0, vR 200), (1, vI l), (2, vI a9)] [] h 0 0
  refine st_iconst C dX11_sizeOf_0 (by decide) ?_
  refine st_istore_n C 3 dX11_sizeOf_1 rfl (by decide) rfl ?_
  show T x 2 [(0, vR 200), (1, vI l), (2, vI a9), (3, vI 0)] [] _ _ _
  refine st_iconst C dX11_sizeOf_2 (by decide) ?_
  refine st_istore C dX11_sizeOf_3 (by decide) rfl ?_
  show T x 5 [(0, vR 200), (1, vI l), (2, vI a9), (3, vI 0), (4, vI 0)] [] _ _ _
  have loop_5 : ∀ (n_5 : Nat) (c1 : Int) (i : Int), (0 ≤ i) → (i ≤ 64) → (0 ≤ c1 ∧ c1 ≤ i) → (c1 = cnt (fun j => mm (304 * mv + (64 * l + j)) = a9) i) → (64 - i).toNat < n_5 → T x 5 [(0, vR 200), (1, vI l), (2, vI a9), (3, vI c1), (4, vI i)] [] h 0 0 := by
    intro n_5
    induction n_5 with
    | zero => intro c1 i g1 g2 g3 g4 hm_5; exact absurd hm_5 (Nat.not_lt_zero _)
    | succ n_5 ih_5 =>
      intro c1 i g1 g2 g3 g4 hm_5
      refine st_iload C dX11_sizeOf_5 rfl ?_
      refine st_bipush C dX11_sizeOf_7 (by decide) (by decide) ?_
      refine st_icmp_ge (tgt := 41) C dX11_sizeOf_9 (by decide) (fun c_9 => ?_) (fun c_9 => ?_)
      · refine st_iload_n C 3 dX11_sizeOf_41 rfl rfl ?_
        exact st_ireturn C F dX11_sizeOf_42 rfl (rt_i (cntE g4 (by omega)) rfl) (by omega) (by omega)
      · refine st_iload_n C 3 dX11_sizeOf_12 rfl rfl ?_
        refine st_aload_n C 0 dX11_sizeOf_13 rfl rfl ?_
        refine st_bipush C dX11_sizeOf_14 (by decide) (by decide) ?_
        refine st_iload_n C 1 dX11_sizeOf_16 rfl rfl ?_
        refine st_imul C dX11_sizeOf_17 ⟨(by omega), (by omega)⟩ ?_
        refine st_iload C dX11_sizeOf_18 rfl ?_
        refine st_iadd C dX11_sizeOf_20 ⟨(by omega), (by omega)⟩ ?_
        refine st_callV (st := [vI c1]) C dX11_sizeOf_21 [vI (64 * l + i)] (k_now (mm := mm) (s9 := (64 * l + i)) hm hmm hv (by omega)) hm w_X11_105 rfl (by decide) (by decide) (by omega) (by omega) (Nat.le_of_ble_eq_true rfl) (ko_rt ?_)
        show T x 24 [(0, vR 200), (1, vI l), (2, vI a9), (3, vI c1), (4, vI i)] [vI (mm (304 * mv + (64 * l + i))), vI c1] _ _ _
        refine st_iload_n C 2 dX11_sizeOf_24 rfl rfl ?_
        refine st_icmp_ne (tgt := 32) C dX11_sizeOf_25 (by decide) (fun c_25 => ?_) (fun c_25 => ?_)
        · refine st_iconst C dX11_sizeOf_32 (by decide) ?_
          refine st_iadd C dX11_sizeOf_33 ⟨(by omega), (by omega)⟩ ?_
          refine st_istore_n C 3 dX11_sizeOf_34 rfl (by decide) rfl ?_
          show T x 35 [(0, vR 200), (1, vI l), (2, vI a9), (3, vI (c1 + 0)), (4, vI i)] [] _ _ _
          refine st_iinc C dX11_sizeOf_35 rfl (by decide) rfl ⟨(by omega), (by omega)⟩ ?_
          show T x 38 [(0, vR 200), (1, vI l), (2, vI a9), (3, vI (c1 + 0)), (4, vI (i + 1))] [] _ _ _
          refine st_goto (tgt := 5) C dX11_sizeOf_38 (by decide) ?_
          exact ih_5 (c1 + 0) (i + 1) (by omega) (by omega) (by omega) (by first | exact cnt_t g1 (by omega) g4 | exact cnt_f g1 (by omega) ((Int.add_zero _).trans g4)) (by omega)
        · refine st_iconst C dX11_sizeOf_28 (by decide) ?_
          refine st_goto (tgt := 33) C dX11_sizeOf_29 (by decide) ?_
          refine st_iadd C dX11_sizeOf_33 ⟨(by omega), (by omega)⟩ ?_
          refine st_istore_n C 3 dX11_sizeOf_34 rfl (by decide) rfl ?_
          show T x 35 [(0, vR 200), (1, vI l), (2, vI a9), (3, vI (c1 + 1)), (4, vI i)] [] _ _ _
          refine st_iinc C dX11_sizeOf_35 rfl (by decide) rfl ⟨(by omega), (by omega)⟩ ?_
          show T x 38 [(0, vR 200), (1, vI l), (2, vI a9), (3, vI (c1 + 1)), (4, vI (i + 1))] [] _ _ _
          refine st_goto (tgt := 5) C dX11_sizeOf_38 (by decide) ?_
          exact ih_5 (c1 + 1) (i + 1) (by omega) (by omega) (by omega) (by first | exact cnt_t g1 (by omega) g4 | exact cnt_f g1 (by omega) ((Int.add_zero _).trans g4)) (by omega)
  exact loop_5 _ 0 0 (by omega) (by omega) (by omega) (cnt_0) (Nat.lt_succ_self _)
set_option maxRecDepth 20000 in
set_option maxHeartbeats 4000000 in
theorem k_mConflict_t {g : Gx} {h : HP} {mv mrc mmc mmk mdv mwl mwa mwp mth : Int} {mm : Int → Int} {mb me mt : Int → Int} {b9 : Int} {s9 : Int} (hm : mO h mv mrc mmc mmk mdv mwl mwa mwp mth) (hmm : h 201 = some (oI 12464 mm)) (hv : 0 ≤ mv ∧ mv ≤ 40) (h207 : h 207 = some (oI 1216 mb)) (h208 : h 208 = some (oI 1216 me)) (h209 : h 209 = some (oI 1216 mt)) (hb : 0 ≤ b9 ∧ b9 ≤ 3) (hs : 0 ≤ s9 ∧ s9 ≤ 303) (hP : (0 ≤ me (304 * b9 + s9) ∧ mm (304 * mv + s9) ≠ mb (304 * b9 + s9) ∧ mm (304 * mv + s9) ≠ me (304 * b9 + s9) ∧ mm (304 * mv + s9) ≠ mt (304 * b9 + s9))) : Ct g yX11_isConflict (.code yX11_isConflict cX11_isConflict 5 (some .boolean)) 2 0 0 [vR 200, vI b9, vI s9] h (Rt (some (vI 1)) h) := by
  refine Ct.of (by decide) (Nat.le_of_ble_eq_true rfl) (fun x hg C F => ?_)
  subst hg
  show T x 0 [(0, vR 200), (1, vI b9), (2, vI s9)] [] h 0 0
  refine st_sipush C dX11_isConflict_0 (by decide) (by decide) ?_
  refine st_iload_n C 1 dX11_isConflict_3 rfl rfl ?_
  refine st_imul C dX11_isConflict_4 ⟨(by omega), (by omega)⟩ ?_
  refine st_iload_n C 2 dX11_isConflict_5 rfl rfl ?_
  refine st_iadd C dX11_isConflict_6 ⟨(by omega), (by omega)⟩ ?_
  refine st_istore_n C 3 dX11_isConflict_7 rfl (by decide) rfl ?_
  show T x 8 [(0, vR 200), (1, vI b9), (2, vI s9), (3, vI (304 * b9 + s9))] [] _ _ _
  refine st_aload_n C 0 dX11_isConflict_8 rfl rfl ?_
  refine st_iload_n C 2 dX11_isConflict_9 rfl rfl ?_
  refine st_callV (st := []) C dX11_isConflict_10 [vI s9] (k_now (mm := mm) (s9 := s9) hm hmm hv (by omega)) hm w_X11_105 rfl (by decide) (by decide) (by omega) (by omega) (Nat.le_of_ble_eq_true rfl) (ko_rt ?_)
  show T x 13 [(0, vR 200), (1, vI b9), (2, vI s9), (3, vI (304 * b9 + s9))] [vI (mm (304 * mv + s9))] _ _ _
  refine st_istore C dX11_isConflict_13 (by decide) rfl ?_
  show T x 15 [(0, vR 200), (1, vI b9), (2, vI s9), (3, vI (304 * b9 + s9)), (4, vI (mm (304 * mv + s9)))] [] _ _ _
  refine st_aload_n C 0 dX11_isConflict_15 rfl rfl ?_
  refine st_getf C dX11_isConflict_16 fl_X11_32 hm rfl ?_
  refine st_iload_n C 3 dX11_isConflict_19 rfl rfl ?_
  refine st_iald C dX11_isConflict_20 h208 (by omega) (by omega) ?_
  refine st_if_lt (tgt := 61) C dX11_isConflict_21 (by decide) (fun c_21 => ?_) (fun c_21 => ?_)
  · refine st_iconst C dX11_isConflict_61 (by decide) ?_
    exact st_zreturn C F dX11_isConflict_62 rfl (by omega) (rt_i (by first | rfl | omega) rfl) (by omega) (by omega)
  · refine st_iload C dX11_isConflict_24 rfl ?_
    refine st_aload_n C 0 dX11_isConflict_26 rfl rfl ?_
    refine st_getf C dX11_isConflict_27 fl_X11_29 hm rfl ?_
    refine st_iload_n C 3 dX11_isConflict_30 rfl rfl ?_
    refine st_iald C dX11_isConflict_31 h207 (by omega) (by omega) ?_
    refine st_icmp_eq (tgt := 61) C dX11_isConflict_32 (by decide) (fun c_32 => ?_) (fun c_32 => ?_)
    · refine st_iconst C dX11_isConflict_61 (by decide) ?_
      exact st_zreturn C F dX11_isConflict_62 rfl (by omega) (rt_i (by first | rfl | omega) rfl) (by omega) (by omega)
    · refine st_iload C dX11_isConflict_35 rfl ?_
      refine st_aload_n C 0 dX11_isConflict_37 rfl rfl ?_
      refine st_getf C dX11_isConflict_38 fl_X11_32 hm rfl ?_
      refine st_iload_n C 3 dX11_isConflict_41 rfl rfl ?_
      refine st_iald C dX11_isConflict_42 h208 (by omega) (by omega) ?_
      refine st_icmp_eq (tgt := 61) C dX11_isConflict_43 (by decide) (fun c_43 => ?_) (fun c_43 => ?_)
      · refine st_iconst C dX11_isConflict_61 (by decide) ?_
        exact st_zreturn C F dX11_isConflict_62 rfl (by omega) (rt_i (by first | rfl | omega) rfl) (by omega) (by omega)
      · refine st_iload C dX11_isConflict_46 rfl ?_
        refine st_aload_n C 0 dX11_isConflict_48 rfl rfl ?_
        refine st_getf C dX11_isConflict_49 fl_X11_35 hm rfl ?_
        refine st_iload_n C 3 dX11_isConflict_52 rfl rfl ?_
        refine st_iald C dX11_isConflict_53 h209 (by omega) (by omega) ?_
        refine st_icmp_eq (tgt := 61) C dX11_isConflict_54 (by decide) (fun c_54 => ?_) (fun c_54 => ?_)
        · refine st_iconst C dX11_isConflict_61 (by decide) ?_
          exact st_zreturn C F dX11_isConflict_62 rfl (by omega) (rt_i (by first | rfl | omega) rfl) (by omega) (by omega)
        · refine st_iconst C dX11_isConflict_57 (by decide) ?_
          refine st_goto (tgt := 62) C dX11_isConflict_58 (by decide) ?_
          exact st_zreturn C F dX11_isConflict_62 rfl (by omega) (rt_i (by first | rfl | omega) rfl) (by omega) (by omega)
set_option maxRecDepth 20000 in
set_option maxHeartbeats 4000000 in
theorem k_mConflict_f {g : Gx} {h : HP} {mv mrc mmc mmk mdv mwl mwa mwp mth : Int} {mm : Int → Int} {mb me mt : Int → Int} {b9 : Int} {s9 : Int} (hm : mO h mv mrc mmc mmk mdv mwl mwa mwp mth) (hmm : h 201 = some (oI 12464 mm)) (hv : 0 ≤ mv ∧ mv ≤ 40) (h207 : h 207 = some (oI 1216 mb)) (h208 : h 208 = some (oI 1216 me)) (h209 : h 209 = some (oI 1216 mt)) (hb : 0 ≤ b9 ∧ b9 ≤ 3) (hs : 0 ≤ s9 ∧ s9 ≤ 303) (hP : ¬ (0 ≤ me (304 * b9 + s9) ∧ mm (304 * mv + s9) ≠ mb (304 * b9 + s9) ∧ mm (304 * mv + s9) ≠ me (304 * b9 + s9) ∧ mm (304 * mv + s9) ≠ mt (304 * b9 + s9))) : Ct g yX11_isConflict (.code yX11_isConflict cX11_isConflict 5 (some .boolean)) 2 0 0 [vR 200, vI b9, vI s9] h (Rt (some (vI 0)) h) := by
  refine Ct.of (by decide) (Nat.le_of_ble_eq_true rfl) (fun x hg C F => ?_)
  subst hg
  show T x 0 [(0, vR 200), (1, vI b9), (2, vI s9)] [] h 0 0
  refine st_sipush C dX11_isConflict_0 (by decide) (by decide) ?_
  refine st_iload_n C 1 dX11_isConflict_3 rfl rfl ?_
  refine st_imul C dX11_isConflict_4 ⟨(by omega), (by omega)⟩ ?_
  refine st_iload_n C 2 dX11_isConflict_5 rfl rfl ?_
  refine st_iadd C dX11_isConflict_6 ⟨(by omega), (by omega)⟩ ?_
  refine st_istore_n C 3 dX11_isConflict_7 rfl (by decide) rfl ?_
  show T x 8 [(0, vR 200), (1, vI b9), (2, vI s9), (3, vI (304 * b9 + s9))] [] _ _ _
  refine st_aload_n C 0 dX11_isConflict_8 rfl rfl ?_
  refine st_iload_n C 2 dX11_isConflict_9 rfl rfl ?_
  refine st_callV (st := []) C dX11_isConflict_10 [vI s9] (k_now (mm := mm) (s9 := s9) hm hmm hv (by omega)) hm w_X11_105 rfl (by decide) (by decide) (by omega) (by omega) (Nat.le_of_ble_eq_true rfl) (ko_rt ?_)
  show T x 13 [(0, vR 200), (1, vI b9), (2, vI s9), (3, vI (304 * b9 + s9))] [vI (mm (304 * mv + s9))] _ _ _
  refine st_istore C dX11_isConflict_13 (by decide) rfl ?_
  show T x 15 [(0, vR 200), (1, vI b9), (2, vI s9), (3, vI (304 * b9 + s9)), (4, vI (mm (304 * mv + s9)))] [] _ _ _
  refine st_aload_n C 0 dX11_isConflict_15 rfl rfl ?_
  refine st_getf C dX11_isConflict_16 fl_X11_32 hm rfl ?_
  refine st_iload_n C 3 dX11_isConflict_19 rfl rfl ?_
  refine st_iald C dX11_isConflict_20 h208 (by omega) (by omega) ?_
  refine st_if_lt (tgt := 61) C dX11_isConflict_21 (by decide) (fun c_21 => ?_) (fun c_21 => ?_)
  · refine st_iconst C dX11_isConflict_61 (by decide) ?_
    exact st_zreturn C F dX11_isConflict_62 rfl (by omega) (rt_i (by first | rfl | omega) rfl) (by omega) (by omega)
  · refine st_iload C dX11_isConflict_24 rfl ?_
    refine st_aload_n C 0 dX11_isConflict_26 rfl rfl ?_
    refine st_getf C dX11_isConflict_27 fl_X11_29 hm rfl ?_
    refine st_iload_n C 3 dX11_isConflict_30 rfl rfl ?_
    refine st_iald C dX11_isConflict_31 h207 (by omega) (by omega) ?_
    refine st_icmp_eq (tgt := 61) C dX11_isConflict_32 (by decide) (fun c_32 => ?_) (fun c_32 => ?_)
    · refine st_iconst C dX11_isConflict_61 (by decide) ?_
      exact st_zreturn C F dX11_isConflict_62 rfl (by omega) (rt_i (by first | rfl | omega) rfl) (by omega) (by omega)
    · refine st_iload C dX11_isConflict_35 rfl ?_
      refine st_aload_n C 0 dX11_isConflict_37 rfl rfl ?_
      refine st_getf C dX11_isConflict_38 fl_X11_32 hm rfl ?_
      refine st_iload_n C 3 dX11_isConflict_41 rfl rfl ?_
      refine st_iald C dX11_isConflict_42 h208 (by omega) (by omega) ?_
      refine st_icmp_eq (tgt := 61) C dX11_isConflict_43 (by decide) (fun c_43 => ?_) (fun c_43 => ?_)
      · refine st_iconst C dX11_isConflict_61 (by decide) ?_
        exact st_zreturn C F dX11_isConflict_62 rfl (by omega) (rt_i (by first | rfl | omega) rfl) (by omega) (by omega)
      · refine st_iload C dX11_isConflict_46 rfl ?_
        refine st_aload_n C 0 dX11_isConflict_48 rfl rfl ?_
        refine st_getf C dX11_isConflict_49 fl_X11_35 hm rfl ?_
        refine st_iload_n C 3 dX11_isConflict_52 rfl rfl ?_
        refine st_iald C dX11_isConflict_53 h209 (by omega) (by omega) ?_
        refine st_icmp_eq (tgt := 61) C dX11_isConflict_54 (by decide) (fun c_54 => ?_) (fun c_54 => ?_)
        · refine st_iconst C dX11_isConflict_61 (by decide) ?_
          exact st_zreturn C F dX11_isConflict_62 rfl (by omega) (rt_i (by first | rfl | omega) rfl) (by omega) (by omega)
        · refine st_iconst C dX11_isConflict_57 (by decide) ?_
          refine st_goto (tgt := 62) C dX11_isConflict_58 (by decide) ?_
          exact st_zreturn C F dX11_isConflict_62 rfl (by omega) (rt_i (by first | rfl | omega) rfl) (by omega) (by omega)
set_option maxRecDepth 20000 in
set_option maxHeartbeats 4000000 in
theorem k_conflictsOf {g : Gx} {h : HP} {mv mrc mmc mmk mdv mwl mwa mwp mth : Int} {mm : Int → Int} {mb me mt : Int → Int} {b9 : Int} (hm : mO h mv mrc mmc mmk mdv mwl mwa mwp mth) (hmm : h 201 = some (oI 12464 mm)) (hv : 0 ≤ mv ∧ mv ≤ 40) (h207 : h 207 = some (oI 1216 mb)) (h208 : h 208 = some (oI 1216 me)) (h209 : h 209 = some (oI 1216 mt)) (hb : 0 ≤ b9 ∧ b9 ≤ 3) : Ct g yX11_conflictsOf (.code yX11_conflictsOf cX11_conflictsOf 4 (some .int)) 3 0 0 [vR 200, vI b9] h (Rt (some (vI (cnt (fun s9 => (0 ≤ me (304 * b9 + s9) ∧ mm (304 * mv + s9) ≠ mb (304 * b9 + s9) ∧ mm (304 * mv + s9) ≠ me (304 * b9 + s9) ∧ mm (304 * mv + s9) ≠ mt (304 * b9 + s9))) 304))) h) := by
  refine Ct.of (by decide) (Nat.le_of_ble_eq_true rfl) (fun x hg C F => ?_)
  subst hg
  show T x 0 [(0, vR 200), (1, vI b9)] [] h 0 0
  refine st_iconst C dX11_conflictsOf_0 (by decide) ?_
  refine st_istore_n C 2 dX11_conflictsOf_1 rfl (by decide) rfl ?_
  show T x 2 [(0, vR 200), (1, vI b9), (2, vI 0)] [] _ _ _
  refine st_iconst C dX11_conflictsOf_2 (by decide) ?_
  refine st_istore_n C 3 dX11_conflictsOf_3 rfl (by decide) rfl ?_
  show T x 4 [(0, vR 200), (1, vI b9), (2, vI 0), (3, vI 0)] [] _ _ _
  have loop_4 : ∀ (n_4 : Nat) (c1 : Int) (i : Int), (0 ≤ i) → (i ≤ 304) → (0 ≤ c1 ∧ c1 ≤ i) → (c1 = cnt (fun s9 => (0 ≤ me (304 * b9 + s9) ∧ mm (304 * mv + s9) ≠ mb (304 * b9 + s9) ∧ mm (304 * mv + s9) ≠ me (304 * b9 + s9) ∧ mm (304 * mv + s9) ≠ mt (304 * b9 + s9))) i) → (304 - i).toNat < n_4 → T x 4 [(0, vR 200), (1, vI b9), (2, vI c1), (3, vI i)] [] h 0 0 := by
    intro n_4
    induction n_4 with
    | zero => intro c1 i g1 g2 g3 g4 hm_4; exact absurd hm_4 (Nat.not_lt_zero _)
    | succ n_4 ih_4 =>
      intro c1 i g1 g2 g3 g4 hm_4
      refine st_iload_n C 3 dX11_conflictsOf_4 rfl rfl ?_
      refine st_sipush C dX11_conflictsOf_5 (by decide) (by decide) ?_
      refine st_icmp_ge (tgt := 34) C dX11_conflictsOf_8 (by decide) (fun c_8 => ?_) (fun c_8 => ?_)
      · refine st_iload_n C 2 dX11_conflictsOf_34 rfl rfl ?_
        exact st_ireturn C F dX11_conflictsOf_35 rfl (rt_i (cntE g4 (by omega)) rfl) (by omega) (by omega)
      · refine st_iload_n C 2 dX11_conflictsOf_11 rfl rfl ?_
        refine st_aload_n C 0 dX11_conflictsOf_12 rfl rfl ?_
        refine st_iload_n C 1 dX11_conflictsOf_13 rfl rfl ?_
        refine st_iload_n C 3 dX11_conflictsOf_14 rfl rfl ?_
        by_cases b_15 : (0 ≤ me (304 * b9 + i) ∧ mm (304 * mv + i) ≠ mb (304 * b9 + i) ∧ mm (304 * mv + i) ≠ me (304 * b9 + i) ∧ mm (304 * mv + i) ≠ mt (304 * b9 + i))
        · refine st_callV (st := [vI c1]) C dX11_conflictsOf_15 [vI b9, vI i] (k_mConflict_t (s9 := i) hm hmm hv h207 h208 h209 hb (by omega) b_15) hm w_X11_142 rfl (by decide) (by decide) (by omega) (by omega) (Nat.le_of_ble_eq_true rfl) (ko_rt ?_)
          show T x 18 [(0, vR 200), (1, vI b9), (2, vI c1), (3, vI i)] [vI 1, vI c1] _ _ _
          refine st_if_eq (tgt := 25) C dX11_conflictsOf_18 (by decide) (fun c_18 => by omega) (fun c_18 => ?_)
          refine st_iconst C dX11_conflictsOf_21 (by decide) ?_
          refine st_goto (tgt := 26) C dX11_conflictsOf_22 (by decide) ?_
          refine st_iadd C dX11_conflictsOf_26 ⟨(by omega), (by omega)⟩ ?_
          refine st_istore_n C 2 dX11_conflictsOf_27 rfl (by decide) rfl ?_
          show T x 28 [(0, vR 200), (1, vI b9), (2, vI (c1 + 1)), (3, vI i)] [] _ _ _
          refine st_iinc C dX11_conflictsOf_28 rfl (by decide) rfl ⟨(by omega), (by omega)⟩ ?_
          show T x 31 [(0, vR 200), (1, vI b9), (2, vI (c1 + 1)), (3, vI (i + 1))] [] _ _ _
          refine st_goto (tgt := 4) C dX11_conflictsOf_31 (by decide) ?_
          exact ih_4 (c1 + 1) (i + 1) (by omega) (by omega) (by omega) (by first | exact cnt_t g1 (by omega) g4 | exact cnt_f g1 (by omega) ((Int.add_zero _).trans g4)) (by omega)
        · refine st_callV (st := [vI c1]) C dX11_conflictsOf_15 [vI b9, vI i] (k_mConflict_f (s9 := i) hm hmm hv h207 h208 h209 hb (by omega) b_15) hm w_X11_142 rfl (by decide) (by decide) (by omega) (by omega) (Nat.le_of_ble_eq_true rfl) (ko_rt ?_)
          show T x 18 [(0, vR 200), (1, vI b9), (2, vI c1), (3, vI i)] [vI 0, vI c1] _ _ _
          refine st_if_eq (tgt := 25) C dX11_conflictsOf_18 (by decide) (fun c_18 => ?_) (fun c_18 => by omega)
          refine st_iconst C dX11_conflictsOf_25 (by decide) ?_
          refine st_iadd C dX11_conflictsOf_26 ⟨(by omega), (by omega)⟩ ?_
          refine st_istore_n C 2 dX11_conflictsOf_27 rfl (by decide) rfl ?_
          show T x 28 [(0, vR 200), (1, vI b9), (2, vI (c1 + 0)), (3, vI i)] [] _ _ _
          refine st_iinc C dX11_conflictsOf_28 rfl (by decide) rfl ⟨(by omega), (by omega)⟩ ?_
          show T x 31 [(0, vR 200), (1, vI b9), (2, vI (c1 + 0)), (3, vI (i + 1))] [] _ _ _
          refine st_goto (tgt := 4) C dX11_conflictsOf_31 (by decide) ?_
          exact ih_4 (c1 + 0) (i + 1) (by omega) (by omega) (by omega) (by first | exact cnt_t g1 (by omega) g4 | exact cnt_f g1 (by omega) ((Int.add_zero _).trans g4)) (by omega)
  exact loop_4 _ 0 0 (by omega) (by omega) (by omega) (cnt_0) (Nat.lt_succ_self _)
set_option maxRecDepth 20000 in
set_option maxHeartbeats 4000000 in
theorem k_take {g : Gx} {h : HP} {mv mrc mmc mmk mdv mwl mwa mwp mth : Int} {mm : Int → Int} {mw : Int → Int} (hm : mO h mv mrc mmc mmk mdv mwl mwa mwp mth) (hmm : h 201 = some (oI 12464 mm)) (hv : 0 ≤ mv ∧ mv ≤ 40) (h202 : h 202 = some (oI 304 mw)) : Ct g yX11_take (.code yX11_take cX11_take 2 none) 2 0 0 [vR 200] h (Rt none (hput h 202 (oI 304 (fmix (fun s => mm (304 * mv + s)) mw 304)))) := by
  refine Ct.of (by decide) (Nat.le_of_ble_eq_true rfl) (fun x hg C F => ?_)
  subst hg
  show T x 0 [(0, vR 200)] [] h 0 0
  refine st_iconst C dX11_take_0 (by decide) ?_
  refine st_istore_n C 1 dX11_take_1 rfl (by decide) rfl ?_
  show T x 2 [(0, vR 200), (1, vI 0)] [] _ _ _
  have loop_2 : ∀ (n_2 : Nat) (i : Int) (h1 : HP), (0 ≤ i) → (i ≤ 304) → (h1 = hput h 202 (oI 304 (fmix (fun s => mm (304 * mv + s)) mw i))) → (304 - i).toNat < n_2 → T x 2 [(0, vR 200), (1, vI i)] [] h1 0 0 := by
    intro n_2
    induction n_2 with
    | zero => intro i h1 g1 g2 hh hm_2; exact absurd hm_2 (Nat.not_lt_zero _)
    | succ n_2 ih_2 =>
      intro i h1 g1 g2 hh hm_2
      refine st_iload_n C 1 dX11_take_2 rfl rfl ?_
      refine st_sipush C dX11_take_3 (by decide) (by decide) ?_
      refine st_icmp_ge (tgt := 26) C dX11_take_6 (by decide) (fun c_6 => ?_) (fun c_6 => ?_)
      · exact st_return C F dX11_take_26 rfl (rt_n (by rw [hh, show i = 304 by omega])) (by omega) (by omega)
      · refine st_aload_n C 0 dX11_take_9 rfl rfl ?_
        refine st_getf C dX11_take_10 fl_X11_13 (by rw [hh]; exact hput_o (by decide) hm) rfl ?_
        refine st_iload_n C 1 dX11_take_13 rfl rfl ?_
        refine st_aload_n C 0 dX11_take_14 rfl rfl ?_
        refine st_iload_n C 1 dX11_take_15 rfl rfl ?_
        refine st_callV (st := [vI i, vR 202]) C dX11_take_16 [vI i] (k_now (mm := mm) (s9 := i) (by rw [hh]; exact hput_o (by decide) hm) (by rw [hh]; exact hput_o (by decide) hmm) hv (by omega)) (by rw [hh]; exact hput_o (by decide) hm) w_X11_105 rfl (by decide) (by decide) (by omega) (by omega) (Nat.le_of_ble_eq_true rfl) (ko_rt ?_)
        show T x 19 [(0, vR 200), (1, vI i)] [vI (mm (304 * mv + i)), vI i, vR 202] _ _ _
        refine st_iast C dX11_take_19 (by rw [hh]; exact hput_s) (by omega) (by omega) ?_
        refine st_iinc C dX11_take_20 rfl (by decide) rfl ⟨(by omega), (by omega)⟩ ?_
        show T x 23 [(0, vR 200), (1, vI (i + 1))] [] _ _ _
        refine st_goto (tgt := 2) C dX11_take_23 (by decide) ?_
        exact ih_2 (i + 1) (hput h1 202 (oI 304 (fput (fmix (fun s => mm (304 * mv + s)) mw i) i (mm (304 * mv + i))))) (by omega) (by omega) (by rw [hh, hput_hput, fmix_s g1 (by first | rfl | exact (if_pos (by assumption)).symm | exact (if_neg (by omega)).symm)]) (by omega)
  exact loop_2 _ 0 h (by omega) (by omega) (by rw [fmix_0]; exact (hput_self h202).symm) (Nat.lt_succ_self _)
set_option maxRecDepth 20000 in
set_option maxHeartbeats 4000000 in
theorem k_mbring {g : Gx} {h : HP} {mv mrc mmc mmk mdv mwl mwa mwp mth : Int} {mm : Int → Int} {mw me : Int → Int} {b9 : Int} (hm : mO h mv mrc mmc mmk mdv mwl mwa mwp mth) (hmm : h 201 = some (oI 12464 mm)) (hv : 0 ≤ mv ∧ mv ≤ 40) (h202 : h 202 = some (oI 304 mw)) (h208 : h 208 = some (oI 1216 me)) (hb : 0 ≤ b9 ∧ b9 ≤ 3) : Ct g yX11_bring (.code yX11_bring cX11_bring 4 none) 2 0 0 [vR 200, vI b9] h (Rt none (hput h 202 (oI 304 (fmix (fun s => if 0 ≤ me (304 * b9 + s) then me (304 * b9 + s) else mm (304 * mv + s)) mw 304)))) := by
  refine Ct.of (by decide) (Nat.le_of_ble_eq_true rfl) (fun x hg C F => ?_)
  subst hg
  show T x 0 [(0, vR 200), (1, vI b9)] [] h 0 0
  refine st_iconst C dX11_bring_0 (by decide) ?_
  refine st_istore_n C 2 dX11_bring_1 rfl (by decide) rfl ?_
  show T x 2 [(0, vR 200), (1, vI b9), (2, vI 0)] [] _ _ _
  have loop_2 : ∀ (n_2 : Nat) (i : Int) (h1 : HP), (0 ≤ i) → (i ≤ 304) → (h1 = hput h 202 (oI 304 (fmix (fun s => if 0 ≤ me (304 * b9 + s) then me (304 * b9 + s) else mm (304 * mv + s)) mw i))) → (304 - i).toNat < n_2 → T x 2 [(0, vR 200), (1, vI b9), (2, vI i)] [] h1 0 0 := by
    intro n_2
    induction n_2 with
    | zero => intro i h1 g1 g2 hh hm_2; exact absurd hm_2 (Nat.not_lt_zero _)
    | succ n_2 ih_2 =>
      intro i h1 g1 g2 hh hm_2
      refine st_iload_n C 2 dX11_bring_2 rfl rfl ?_
      refine st_sipush C dX11_bring_3 (by decide) (by decide) ?_
      refine st_icmp_ge (tgt := 52) C dX11_bring_6 (by decide) (fun c_6 => ?_) (fun c_6 => ?_)
      · exact st_return C F dX11_bring_52 rfl (rt_n (by rw [hh, show i = 304 by omega])) (by omega) (by omega)
      · refine st_sipush C dX11_bring_9 (by decide) (by decide) ?_
        refine st_iload_n C 1 dX11_bring_12 rfl rfl ?_
        refine st_imul C dX11_bring_13 ⟨(by omega), (by omega)⟩ ?_
        refine st_iload_n C 2 dX11_bring_14 rfl rfl ?_
        refine st_iadd C dX11_bring_15 ⟨(by omega), (by omega)⟩ ?_
        refine st_istore_n C 3 dX11_bring_16 rfl (by decide) rfl ?_
        show T x 17 [(0, vR 200), (1, vI b9), (2, vI i), (3, vI (304 * b9 + i))] [] _ _ _
        refine st_aload_n C 0 dX11_bring_17 rfl rfl ?_
        refine st_getf C dX11_bring_18 fl_X11_13 (by rw [hh]; exact hput_o (by decide) hm) rfl ?_
        refine st_iload_n C 2 dX11_bring_21 rfl rfl ?_
        refine st_aload_n C 0 dX11_bring_22 rfl rfl ?_
        refine st_getf C dX11_bring_23 fl_X11_32 (by rw [hh]; exact hput_o (by decide) hm) rfl ?_
        refine st_iload_n C 3 dX11_bring_26 rfl rfl ?_
        refine st_iald C dX11_bring_27 (by rw [hh]; exact hput_o (by decide) h208) (by omega) (by omega) ?_
        refine st_if_lt (tgt := 40) C dX11_bring_28 (by decide) (fun c_28 => ?_) (fun c_28 => ?_)
        · refine st_aload_n C 0 dX11_bring_40 rfl rfl ?_
          refine st_iload_n C 2 dX11_bring_41 rfl rfl ?_
          refine st_callV (st := [vI i, vR 202]) C dX11_bring_42 [vI i] (k_now (mm := mm) (s9 := i) (by rw [hh]; exact hput_o (by decide) hm) (by rw [hh]; exact hput_o (by decide) hmm) hv (by omega)) (by rw [hh]; exact hput_o (by decide) hm) w_X11_105 rfl (by decide) (by decide) (by omega) (by omega) (Nat.le_of_ble_eq_true rfl) (ko_rt ?_)
          show T x 45 [(0, vR 200), (1, vI b9), (2, vI i), (3, vI (304 * b9 + i))] [vI (mm (304 * mv + i)), vI i, vR 202] _ _ _
          refine st_iast C dX11_bring_45 (by rw [hh]; exact hput_s) (by omega) (by omega) ?_
          refine st_iinc C dX11_bring_46 rfl (by decide) rfl ⟨(by omega), (by omega)⟩ ?_
          show T x 49 [(0, vR 200), (1, vI b9), (2, vI (i + 1)), (3, vI (304 * b9 + i))] [] _ _ _
          refine st_goto (tgt := 2) C dX11_bring_49 (by decide) ?_
          refine st_sub [0, 1, 2] rfl ?_
          exact ih_2 (i + 1) (hput h1 202 (oI 304 (fput (fmix (fun s => if 0 ≤ me (304 * b9 + s) then me (304 * b9 + s) else mm (304 * mv + s)) mw i) i (mm (304 * mv + i))))) (by omega) (by omega) (by rw [hh, hput_hput, fmix_s g1 (by first | rfl | exact (if_pos (by assumption)).symm | exact (if_neg (by omega)).symm)]) (by omega)
        · refine st_aload_n C 0 dX11_bring_31 rfl rfl ?_
          refine st_getf C dX11_bring_32 fl_X11_32 (by rw [hh]; exact hput_o (by decide) hm) rfl ?_
          refine st_iload_n C 3 dX11_bring_35 rfl rfl ?_
          refine st_iald C dX11_bring_36 (by rw [hh]; exact hput_o (by decide) h208) (by omega) (by omega) ?_
          refine st_goto (tgt := 45) C dX11_bring_37 (by decide) ?_
          refine st_iast C dX11_bring_45 (by rw [hh]; exact hput_s) (by omega) (by omega) ?_
          refine st_iinc C dX11_bring_46 rfl (by decide) rfl ⟨(by omega), (by omega)⟩ ?_
          show T x 49 [(0, vR 200), (1, vI b9), (2, vI (i + 1)), (3, vI (304 * b9 + i))] [] _ _ _
          refine st_goto (tgt := 2) C dX11_bring_49 (by decide) ?_
          refine st_sub [0, 1, 2] rfl ?_
          exact ih_2 (i + 1) (hput h1 202 (oI 304 (fput (fmix (fun s => if 0 ≤ me (304 * b9 + s) then me (304 * b9 + s) else mm (304 * mv + s)) mw i) i (me (304 * b9 + i))))) (by omega) (by omega) (by rw [hh, hput_hput, fmix_s g1 (by first | rfl | exact (if_pos (by assumption)).symm | exact (if_neg (by omega)).symm)]) (by omega)
  exact loop_2 _ 0 h (by omega) (by omega) (by rw [fmix_0]; exact (hput_self h202).symm) (Nat.lt_succ_self _)
