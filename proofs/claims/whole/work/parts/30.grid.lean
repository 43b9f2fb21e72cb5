def besid (p d : Int) : Int := if d = 0 then (if p % 8 < 7 then p + 1 else -1) else if d = 1 then (if p / 8 < 7 then p + 8 else -1) else if d = 2 then (if 0 < p % 8 then p - 1 else -1) else (if 0 < p / 8 then p - 8 else -1)
/-- a road between two places, in a row of all spots -/
def RoadB (f : Int → Int) (p q : Int) : Prop := (q = p + 8 ∧ f (248 + 8 * (p / 8) + p % 8) = 1) ∨ (p = q + 8 ∧ f (248 + 8 * (q / 8) + q % 8) = 1) ∨ (q = p + 1 ∧ p % 8 < 7 ∧ f (192 + 7 * (p / 8) + p % 8) = 1) ∨ (p = q + 1 ∧ q % 8 < 7 ∧ f (192 + 7 * (q / 8) + q % 8) = 1)
set_option maxRecDepth 20000 in
set_option maxHeartbeats 4000000 in
theorem k_areaSpot {g : Gx} {h : HP} {l p : Int} (hl : 0 ≤ l ∧ l ≤ 2) (hp : 0 ≤ p ∧ p ≤ 63) : Ct g yX2_areaSpot (.code yX2_areaSpot cX2_areaSpot 2 (some .int)) 1 0 0 [vI l, vI p] h (Rt (some (vI (64 * l + p))) h) := by
  refine Ct.of (by decide) (Nat.le_of_ble_eq_true rfl) (fun x hg C F => ?_)
  subst hg
  show T x 0 [(0, vI l), (1, vI p)] [] h 0 0
  refine st_bipush C dX2_areaSpot_0 (by decide) (by decide) ?_
  refine st_iload_n C 0 dX2_areaSpot_2 rfl rfl ?_
  refine st_imul C dX2_areaSpot_3 ⟨(by omega), (by omega)⟩ ?_
  refine st_iload_n C 1 dX2_areaSpot_4 rfl rfl ?_
  refine st_iadd C dX2_areaSpot_5 ⟨(by omega), (by omega)⟩ ?_
  exact st_ireturn C F dX2_areaSpot_6 rfl ⟨rfl, rfl⟩ (by omega) (by omega)
set_option maxRecDepth 20000 in
set_option maxHeartbeats 4000000 in
theorem k_rightRoad {g : Gx} {h : HP} {x9 y9 : Int} (hx : 0 ≤ x9 ∧ x9 ≤ 6) (hy : 0 ≤ y9 ∧ y9 ≤ 7) : Ct g yX2_rightRoad (.code yX2_rightRoad cX2_rightRoad 2 (some .int)) 1 0 0 [vI x9, vI y9] h (Rt (some (vI (192 + 7 * y9 + x9))) h) := by
  refine Ct.of (by decide) (Nat.le_of_ble_eq_true rfl) (fun x hg C F => ?_)
  subst hg
  show T x 0 [(0, vI x9), (1, vI y9)] [] h 0 0
  refine st_sipush C dX2_rightRoad_0 (by decide) (by decide) ?_
  refine st_bipush C dX2_rightRoad_3 (by decide) (by decide) ?_
  refine st_iload_n C 1 dX2_rightRoad_5 rfl rfl ?_
  refine st_imul C dX2_rightRoad_6 ⟨(by omega), (by omega)⟩ ?_
  refine st_iadd C dX2_rightRoad_7 ⟨(by omega), (by omega)⟩ ?_
  refine st_iload_n C 0 dX2_rightRoad_8 rfl rfl ?_
  refine st_iadd C dX2_rightRoad_9 ⟨(by omega), (by omega)⟩ ?_
  exact st_ireturn C F dX2_rightRoad_10 rfl ⟨rfl, rfl⟩ (by omega) (by omega)
set_option maxRecDepth 20000 in
set_option maxHeartbeats 4000000 in
theorem k_downRoad {g : Gx} {h : HP} {x9 y9 : Int} (hx : 0 ≤ x9 ∧ x9 ≤ 7) (hy : 0 ≤ y9 ∧ y9 ≤ 6) : Ct g yX2_downRoad (.code yX2_downRoad cX2_downRoad 2 (some .int)) 1 0 0 [vI x9, vI y9] h (Rt (some (vI (248 + 8 * y9 + x9))) h) := by
  refine Ct.of (by decide) (Nat.le_of_ble_eq_true rfl) (fun x hg C F => ?_)
  subst hg
  show T x 0 [(0, vI x9), (1, vI y9)] [] h 0 0
  refine st_sipush C dX2_downRoad_0 (by decide) (by decide) ?_
  refine st_bipush C dX2_downRoad_3 (by decide) (by decide) ?_
  refine st_iload_n C 1 dX2_downRoad_5 rfl rfl ?_
  refine st_imul C dX2_downRoad_6 ⟨(by omega), (by omega)⟩ ?_
  refine st_iadd C dX2_downRoad_7 ⟨(by omega), (by omega)⟩ ?_
  refine st_iload_n C 0 dX2_downRoad_8 rfl rfl ?_
  refine st_iadd C dX2_downRoad_9 ⟨(by omega), (by omega)⟩ ?_
  exact st_ireturn C F dX2_downRoad_10 rfl ⟨rfl, rfl⟩ (by omega) (by omega)
set_option maxRecDepth 20000 in
set_option maxHeartbeats 4000000 in
theorem k_valueIn {g : Gx} {h : HP} {a : Nat} {f : Int → Int} {s9 : Int} (ha : h a = some (oI 304 f)) (hs : 0 ≤ s9 ∧ s9 ≤ 303) : Ct g yX2_valueIn (.code yX2_valueIn cX2_valueIn 2 (some .int)) 1 0 0 [vR a, vI s9] h (Rt (some (vI (f s9))) h) := by
  refine Ct.of (by decide) (Nat.le_of_ble_eq_true rfl) (fun x hg C F => ?_)
  subst hg
  show T x 0 [(0, vR a), (1, vI s9)] [] h 0 0
  refine st_iload_n C 1 dX2_valueIn_0 rfl rfl ?_
  refine st_if_lt (tgt := 16) C dX2_valueIn_1 (by decide) (fun c_1 => by omega) (fun c_1 => ?_)
  refine st_iload_n C 1 dX2_valueIn_4 rfl rfl ?_
  refine st_aload_n C 0 dX2_valueIn_5 rfl rfl ?_
  refine st_alenI C dX2_valueIn_6 ha (by decide) ?_
  show T x 7 [(0, vR a), (1, vI s9)] [vI 304, vI s9] _ _ _
  refine st_icmp_ge (tgt := 16) C dX2_valueIn_7 (by decide) (fun c_7 => by omega) (fun c_7 => ?_)
  refine st_aload_n C 0 dX2_valueIn_10 rfl rfl ?_
  refine st_iload_n C 1 dX2_valueIn_11 rfl rfl ?_
  refine st_iald C dX2_valueIn_12 ha (by omega) (by omega) ?_
  refine st_goto (tgt := 17) C dX2_valueIn_13 (by decide) ?_
  exact st_ireturn C F dX2_valueIn_17 rfl ⟨rfl, rfl⟩ (by omega) (by omega)
set_option maxRecDepth 20000 in
set_option maxHeartbeats 4000000 in
theorem k_areaAt {g : Gx} {h : HP} {a : Nat} {f : Int → Int} {l p : Int} (ha : h a = some (oI 304 f)) (hl : 0 ≤ l ∧ l ≤ 2) (hp : 0 ≤ p ∧ p ≤ 63) : Ct g yX2_areaAt (.code yX2_areaAt cX2_areaAt 4 (some .int)) 1 0 0 [vR a, vI l, vI p] h (Rt (some (vI (f (64 * l + p)))) h) := by
  refine Ct.of (by decide) (Nat.le_of_ble_eq_true rfl) (fun x hg C F => ?_)
  subst hg
  show T x 0 [(0, vR a), (1, vI l), (2, vI p)] [] h 0 0
  refine st_bipush C dX2_areaAt_0 (by decide) (by decide) ?_
  refine st_iload_n C 1 dX2_areaAt_2 rfl rfl ?_
  refine st_imul C dX2_areaAt_3 ⟨(by omega), (by omega)⟩ ?_
  refine st_iload_n C 2 dX2_areaAt_4 rfl rfl ?_
  refine st_iadd C dX2_areaAt_5 ⟨(by omega), (by omega)⟩ ?_
  refine st_istore_n C 3 dX2_areaAt_6 rfl (by decide) rfl ?_
  show T x 7 [(0, vR a), (1, vI l), (2, vI p), (3, vI (64 * l + p))] [] _ _ _
  refine st_iload_n C 3 dX2_areaAt_7 rfl rfl ?_
  refine st_if_lt (tgt := 23) C dX2_areaAt_8 (by decide) (fun c_8 => by omega) (fun c_8 => ?_)
  refine st_iload_n C 3 dX2_areaAt_11 rfl rfl ?_
  refine st_aload_n C 0 dX2_areaAt_12 rfl rfl ?_
  refine st_alenI C dX2_areaAt_13 ha (by decide) ?_
  show T x 14 [(0, vR a), (1, vI l), (2, vI p), (3, vI (64 * l + p))] [vI 304, vI (64 * l + p)] _ _ _
  refine st_icmp_ge (tgt := 23) C dX2_areaAt_14 (by decide) (fun c_14 => by omega) (fun c_14 => ?_)
  refine st_aload_n C 0 dX2_areaAt_17 rfl rfl ?_
  refine st_iload_n C 3 dX2_areaAt_18 rfl rfl ?_
  refine st_iald C dX2_areaAt_19 ha (by omega) (by omega) ?_
  refine st_goto (tgt := 24) C dX2_areaAt_20 (by decide) ?_
  exact st_ireturn C F dX2_areaAt_24 rfl ⟨rfl, rfl⟩ (by omega) (by omega)
set_option maxRecDepth 20000 in
set_option maxHeartbeats 4000000 in
theorem k_beside {g : Gx} {h : HP} {p d : Int} (hp : 0 ≤ p ∧ p ≤ 63) (hd : 0 ≤ d ∧ d ≤ 3) : Ct g yX2_beside (.code yX2_beside cX2_beside 4 (some .int)) 1 0 0 [vI p, vI d] h (Rt (some (vI (besid p d))) h) := by
  refine Ct.of (by decide) (Nat.le_of_ble_eq_true rfl) (fun x hg C F => ?_)
  subst hg
  show T x 0 [(0, vI p), (1, vI d)] [] h 0 0
  refine st_iload_n C 0 dX2_beside_0 rfl rfl ?_
  refine st_bipush C dX2_beside_1 (by decide) (by decide) ?_
  refine st_irem C dX2_beside_3 (by omega) (by omega) ?_
  refine st_istore_n C 2 dX2_beside_4 rfl (by decide) rfl ?_
  show T x 5 [(0, vI p), (1, vI d), (2, vI (p % 8))] [] _ _ _
  refine st_iload_n C 0 dX2_beside_5 rfl rfl ?_
  refine st_bipush C dX2_beside_6 (by decide) (by decide) ?_
  refine st_idiv C dX2_beside_8 (by omega) (by omega) ?_
  refine st_istore_n C 3 dX2_beside_9 rfl (by decide) rfl ?_
  show T x 10 [(0, vI p), (1, vI d), (2, vI (p % 8)), (3, vI (p / 8))] [] _ _ _
  refine st_iload_n C 1 dX2_beside_10 rfl rfl ?_
  refine st_if_ne (tgt := 28) C dX2_beside_11 (by decide) (fun c_11 => ?_) (fun c_11 => ?_)
  · refine st_iload_n C 1 dX2_beside_28 rfl rfl ?_
    refine st_iconst C dX2_beside_29 (by decide) ?_
    refine st_icmp_ne (tgt := 48) C dX2_beside_30 (by decide) (fun c_30 => ?_) (fun c_30 => ?_)
    · refine st_iload_n C 1 dX2_beside_48 rfl rfl ?_
      refine st_iconst C dX2_beside_49 (by decide) ?_
      refine st_icmp_ne (tgt := 65) C dX2_beside_50 (by decide) (fun c_50 => ?_) (fun c_50 => ?_)
      · refine st_iload_n C 3 dX2_beside_65 rfl rfl ?_
        refine st_if_le (tgt := 76) C dX2_beside_66 (by decide) (fun c_66 => ?_) (fun c_66 => ?_)
        · refine st_iconst C dX2_beside_76 (by decide) ?_
          exact st_ireturn C F dX2_beside_77 rfl (rt_i (by unfold besid; repeat (first | rfl | (split <;> (try omega)))) rfl) (by omega) (by omega)
        · refine st_iload_n C 0 dX2_beside_69 rfl rfl ?_
          refine st_bipush C dX2_beside_70 (by decide) (by decide) ?_
          refine st_isub C dX2_beside_72 ⟨(by omega), (by omega)⟩ ?_
          refine st_goto (tgt := 77) C dX2_beside_73 (by decide) ?_
          exact st_ireturn C F dX2_beside_77 rfl (rt_i (by unfold besid; repeat (first | rfl | (split <;> (try omega)))) rfl) (by omega) (by omega)
      · refine st_iload_n C 2 dX2_beside_53 rfl rfl ?_
        refine st_if_le (tgt := 63) C dX2_beside_54 (by decide) (fun c_54 => ?_) (fun c_54 => ?_)
        · refine st_iconst C dX2_beside_63 (by decide) ?_
          exact st_ireturn C F dX2_beside_64 rfl (rt_i (by unfold besid; repeat (first | rfl | (split <;> (try omega)))) rfl) (by omega) (by omega)
        · refine st_iload_n C 0 dX2_beside_57 rfl rfl ?_
          refine st_iconst C dX2_beside_58 (by decide) ?_
          refine st_isub C dX2_beside_59 ⟨(by omega), (by omega)⟩ ?_
          refine st_goto (tgt := 64) C dX2_beside_60 (by decide) ?_
          exact st_ireturn C F dX2_beside_64 rfl (rt_i (by unfold besid; repeat (first | rfl | (split <;> (try omega)))) rfl) (by omega) (by omega)
    · refine st_iload_n C 3 dX2_beside_33 rfl rfl ?_
      refine st_bipush C dX2_beside_34 (by decide) (by decide) ?_
      refine st_icmp_ge (tgt := 46) C dX2_beside_36 (by decide) (fun c_36 => ?_) (fun c_36 => ?_)
      · refine st_iconst C dX2_beside_46 (by decide) ?_
        exact st_ireturn C F dX2_beside_47 rfl (rt_i (by unfold besid; repeat (first | rfl | (split <;> (try omega)))) rfl) (by omega) (by omega)
      · refine st_iload_n C 0 dX2_beside_39 rfl rfl ?_
        refine st_bipush C dX2_beside_40 (by decide) (by decide) ?_
        refine st_iadd C dX2_beside_42 ⟨(by omega), (by omega)⟩ ?_
        refine st_goto (tgt := 47) C dX2_beside_43 (by decide) ?_
        exact st_ireturn C F dX2_beside_47 rfl (rt_i (by unfold besid; repeat (first | rfl | (split <;> (try omega)))) rfl) (by omega) (by omega)
  · refine st_iload_n C 2 dX2_beside_14 rfl rfl ?_
    refine st_bipush C dX2_beside_15 (by decide) (by decide) ?_
    refine st_icmp_ge (tgt := 26) C dX2_beside_17 (by decide) (fun c_17 => ?_) (fun c_17 => ?_)
    · refine st_iconst C dX2_beside_26 (by decide) ?_
      exact st_ireturn C F dX2_beside_27 rfl (rt_i (by unfold besid; repeat (first | rfl | (split <;> (try omega)))) rfl) (by omega) (by omega)
    · refine st_iload_n C 0 dX2_beside_20 rfl rfl ?_
      refine st_iconst C dX2_beside_21 (by decide) ?_
      refine st_iadd C dX2_beside_22 ⟨(by omega), (by omega)⟩ ?_
      refine st_goto (tgt := 27) C dX2_beside_23 (by decide) ?_
      exact st_ireturn C F dX2_beside_27 rfl (rt_i (by unfold besid; repeat (first | rfl | (split <;> (try omega)))) rfl) (by omega) (by omega)
set_option maxRecDepth 20000 in
set_option maxHeartbeats 4000000 in
theorem k_isAtEdge_t {g : Gx} {h : HP} {p : Int} (hp : 0 ≤ p ∧ p ≤ 63) (hP : p % 8 = 0 ∨ p % 8 = 7 ∨ p / 8 = 0 ∨ p / 8 = 7) : Ct g yX2_isAtEdge (.code yX2_isAtEdge cX2_isAtEdge 3 (some .boolean)) 1 0 0 [vI p] h (Rt (some (vI 1)) h) := by
  refine Ct.of (by decide) (Nat.le_of_ble_eq_true rfl) (fun x hg C F => ?_)
  subst hg
  show T x 0 [(0, vI p)] [] h 0 0
  refine st_iload_n C 0 dX2_isAtEdge_0 rfl rfl ?_
  refine st_bipush C dX2_isAtEdge_1 (by decide) (by decide) ?_
  refine st_irem C dX2_isAtEdge_3 (by omega) (by omega) ?_
  refine st_istore_n C 1 dX2_isAtEdge_4 rfl (by decide) rfl ?_
  show T x 5 [(0, vI p), (1, vI (p % 8))] [] _ _ _
  refine st_iload_n C 0 dX2_isAtEdge_5 rfl rfl ?_
  refine st_bipush C dX2_isAtEdge_6 (by decide) (by decide) ?_
  refine st_idiv C dX2_isAtEdge_8 (by omega) (by omega) ?_
  refine st_istore_n C 2 dX2_isAtEdge_9 rfl (by decide) rfl ?_
  show T x 10 [(0, vI p), (1, vI (p % 8)), (2, vI (p / 8))] [] _ _ _
  refine st_iload_n C 1 dX2_isAtEdge_10 rfl rfl ?_
  refine st_if_eq (tgt := 30) C dX2_isAtEdge_11 (by decide) (fun c_11 => ?_) (fun c_11 => ?_)
  · refine st_iconst C dX2_isAtEdge_30 (by decide) ?_
    refine st_goto (tgt := 35) C dX2_isAtEdge_31 (by decide) ?_
    exact st_zreturn C F dX2_isAtEdge_35 rfl (by omega) (rt_i (by omega) rfl) (by omega) (by omega)
  · refine st_iload_n C 1 dX2_isAtEdge_14 rfl rfl ?_
    refine st_bipush C dX2_isAtEdge_15 (by decide) (by decide) ?_
    refine st_icmp_eq (tgt := 30) C dX2_isAtEdge_17 (by decide) (fun c_17 => ?_) (fun c_17 => ?_)
    · refine st_iconst C dX2_isAtEdge_30 (by decide) ?_
      refine st_goto (tgt := 35) C dX2_isAtEdge_31 (by decide) ?_
      exact st_zreturn C F dX2_isAtEdge_35 rfl (by omega) (rt_i (by omega) rfl) (by omega) (by omega)
    · refine st_iload_n C 2 dX2_isAtEdge_20 rfl rfl ?_
      refine st_if_eq (tgt := 30) C dX2_isAtEdge_21 (by decide) (fun c_21 => ?_) (fun c_21 => ?_)
      · refine st_iconst C dX2_isAtEdge_30 (by decide) ?_
        refine st_goto (tgt := 35) C dX2_isAtEdge_31 (by decide) ?_
        exact st_zreturn C F dX2_isAtEdge_35 rfl (by omega) (rt_i (by omega) rfl) (by omega) (by omega)
      · refine st_iload_n C 2 dX2_isAtEdge_24 rfl rfl ?_
        refine st_bipush C dX2_isAtEdge_25 (by decide) (by decide) ?_
        refine st_icmp_ne (tgt := 34) C dX2_isAtEdge_27 (by decide) (fun c_27 => ?_) (fun c_27 => ?_)
        · refine st_iconst C dX2_isAtEdge_34 (by decide) ?_
          exact st_zreturn C F dX2_isAtEdge_35 rfl (by omega) (rt_i (by omega) rfl) (by omega) (by omega)
        · refine st_iconst C dX2_isAtEdge_30 (by decide) ?_
          refine st_goto (tgt := 35) C dX2_isAtEdge_31 (by decide) ?_
          exact st_zreturn C F dX2_isAtEdge_35 rfl (by omega) (rt_i (by omega) rfl) (by omega) (by omega)
set_option maxRecDepth 20000 in
set_option maxHeartbeats 4000000 in
theorem k_isAtEdge_f {g : Gx} {h : HP} {p : Int} (hp : 0 ≤ p ∧ p ≤ 63) (hP : ¬ (p % 8 = 0 ∨ p % 8 = 7 ∨ p / 8 = 0 ∨ p / 8 = 7)) : Ct g yX2_isAtEdge (.code yX2_isAtEdge cX2_isAtEdge 3 (some .boolean)) 1 0 0 [vI p] h (Rt (some (vI 0)) h) := by
  refine Ct.of (by decide) (Nat.le_of_ble_eq_true rfl) (fun x hg C F => ?_)
  subst hg
  show T x 0 [(0, vI p)] [] h 0 0
  refine st_iload_n C 0 dX2_isAtEdge_0 rfl rfl ?_
  refine st_bipush C dX2_isAtEdge_1 (by decide) (by decide) ?_
  refine st_irem C dX2_isAtEdge_3 (by omega) (by omega) ?_
  refine st_istore_n C 1 dX2_isAtEdge_4 rfl (by decide) rfl ?_
  show T x 5 [(0, vI p), (1, vI (p % 8))] [] _ _ _
  refine st_iload_n C 0 dX2_isAtEdge_5 rfl rfl ?_
  refine st_bipush C dX2_isAtEdge_6 (by decide) (by decide) ?_
  refine st_idiv C dX2_isAtEdge_8 (by omega) (by omega) ?_
  refine st_istore_n C 2 dX2_isAtEdge_9 rfl (by decide) rfl ?_
  show T x 10 [(0, vI p), (1, vI (p % 8)), (2, vI (p / 8))] [] _ _ _
  refine st_iload_n C 1 dX2_isAtEdge_10 rfl rfl ?_
  refine st_if_eq (tgt := 30) C dX2_isAtEdge_11 (by decide) (fun c_11 => ?_) (fun c_11 => ?_)
  · refine st_iconst C dX2_isAtEdge_30 (by decide) ?_
    refine st_goto (tgt := 35) C dX2_isAtEdge_31 (by decide) ?_
    exact st_zreturn C F dX2_isAtEdge_35 rfl (by omega) (rt_i (by omega) rfl) (by omega) (by omega)
  · refine st_iload_n C 1 dX2_isAtEdge_14 rfl rfl ?_
    refine st_bipush C dX2_isAtEdge_15 (by decide) (by decide) ?_
    refine st_icmp_eq (tgt := 30) C dX2_isAtEdge_17 (by decide) (fun c_17 => ?_) (fun c_17 => ?_)
    · refine st_iconst C dX2_isAtEdge_30 (by decide) ?_
      refine st_goto (tgt := 35) C dX2_isAtEdge_31 (by decide) ?_
      exact st_zreturn C F dX2_isAtEdge_35 rfl (by omega) (rt_i (by omega) rfl) (by omega) (by omega)
    · refine st_iload_n C 2 dX2_isAtEdge_20 rfl rfl ?_
      refine st_if_eq (tgt := 30) C dX2_isAtEdge_21 (by decide) (fun c_21 => ?_) (fun c_21 => ?_)
      · refine st_iconst C dX2_isAtEdge_30 (by decide) ?_
        refine st_goto (tgt := 35) C dX2_isAtEdge_31 (by decide) ?_
        exact st_zreturn C F dX2_isAtEdge_35 rfl (by omega) (rt_i (by omega) rfl) (by omega) (by omega)
      · refine st_iload_n C 2 dX2_isAtEdge_24 rfl rfl ?_
        refine st_bipush C dX2_isAtEdge_25 (by decide) (by decide) ?_
        refine st_icmp_ne (tgt := 34) C dX2_isAtEdge_27 (by decide) (fun c_27 => ?_) (fun c_27 => ?_)
        · refine st_iconst C dX2_isAtEdge_34 (by decide) ?_
          exact st_zreturn C F dX2_isAtEdge_35 rfl (by omega) (rt_i (by omega) rfl) (by omega) (by omega)
        · refine st_iconst C dX2_isAtEdge_30 (by decide) ?_
          refine st_goto (tgt := 35) C dX2_isAtEdge_31 (by decide) ?_
          exact st_zreturn C F dX2_isAtEdge_35 rfl (by omega) (rt_i (by omega) rfl) (by omega) (by omega)
def Touch (p q : Int) : Prop := (q = p + 8) ∨ (p = q + 8) ∨ (q = p + 1 ∧ p % 8 < 7) ∨ (p = q + 1 ∧ q % 8 < 7)
set_option maxRecDepth 20000 in
set_option maxHeartbeats 4000000 in
theorem k_touch_t {g : Gx} {h : HP} {p q : Int} (hp : 0 ≤ p ∧ p ≤ 63) (hq : 0 ≤ q ∧ q ≤ 63) (hP : Touch p q) : Ct g yX2_touch (.code yX2_touch cX2_touch 2 (some .boolean)) 1 0 0 [vI p, vI q] h (Rt (some (vI 1)) h) := by
  refine Ct.of (by decide) (Nat.le_of_ble_eq_true rfl) (fun x hg C F => ?_)
  subst hg
  show T x 0 [(0, vI p), (1, vI q)] [] h 0 0
  refine st_iload_n C 0 dX2_touch_0 rfl rfl ?_
  refine st_bipush C dX2_touch_1 (by decide) (by decide) ?_
  refine st_irem C dX2_touch_3 (by omega) (by omega) ?_
  refine st_iload_n C 1 dX2_touch_4 rfl rfl ?_
  refine st_bipush C dX2_touch_5 (by decide) (by decide) ?_
  refine st_irem C dX2_touch_7 (by omega) (by omega) ?_
  refine st_isub C dX2_touch_8 ⟨(by omega), (by omega)⟩ ?_
  refine st_mabs C (by split <;> (constructor <;> omega)) dX2_touch_9 mt_X2_11 mts_abs mti mtc_abs (by decide) (Nat.le_of_ble_eq_true rfl) (by omega) (by omega) ?_
  refine st_iload_n C 0 dX2_touch_12 rfl rfl ?_
  refine st_bipush C dX2_touch_13 (by decide) (by decide) ?_
  refine st_idiv C dX2_touch_15 (by omega) (by omega) ?_
  refine st_iload_n C 1 dX2_touch_16 rfl rfl ?_
  refine st_bipush C dX2_touch_17 (by decide) (by decide) ?_
  refine st_idiv C dX2_touch_19 (by omega) (by omega) ?_
  refine st_isub C dX2_touch_20 ⟨(by omega), (by omega)⟩ ?_
  refine st_mabs C (by split <;> (constructor <;> omega)) dX2_touch_21 mt_X2_11 mts_abs mti mtc_abs (by decide) (Nat.le_of_ble_eq_true rfl) (by omega) (by omega) ?_
  refine st_iadd C dX2_touch_24 ⟨(by omega), (by omega)⟩ ?_
  refine st_iconst C dX2_touch_25 (by decide) ?_
  refine st_icmp_ne (tgt := 33) C dX2_touch_26 (by decide) (fun c_26 => ?_) (fun c_26 => ?_)
  · refine st_iconst C dX2_touch_33 (by decide) ?_
    exact st_zreturn C F dX2_touch_34 rfl (by omega) (rt_i (by unfold Touch at hP; omega) rfl) (by omega) (by omega)
  · refine st_iconst C dX2_touch_29 (by decide) ?_
    refine st_goto (tgt := 34) C dX2_touch_30 (by decide) ?_
    exact st_zreturn C F dX2_touch_34 rfl (by omega) (rt_i (by unfold Touch at hP; omega) rfl) (by omega) (by omega)
set_option maxRecDepth 20000 in
set_option maxHeartbeats 4000000 in
theorem k_touch_f {g : Gx} {h : HP} {p q : Int} (hp : 0 ≤ p ∧ p ≤ 63) (hq : 0 ≤ q ∧ q ≤ 63) (hP : ¬ Touch p q) : Ct g yX2_touch (.code yX2_touch cX2_touch 2 (some .boolean)) 1 0 0 [vI p, vI q] h (Rt (some (vI 0)) h) := by
  refine Ct.of (by decide) (Nat.le_of_ble_eq_true rfl) (fun x hg C F => ?_)
  subst hg
  show T x 0 [(0, vI p), (1, vI q)] [] h 0 0
  refine st_iload_n C 0 dX2_touch_0 rfl rfl ?_
  refine st_bipush C dX2_touch_1 (by decide) (by decide) ?_
  refine st_irem C dX2_touch_3 (by omega) (by omega) ?_
  refine st_iload_n C 1 dX2_touch_4 rfl rfl ?_
  refine st_bipush C dX2_touch_5 (by decide) (by decide) ?_
  refine st_irem C dX2_touch_7 (by omega) (by omega) ?_
  refine st_isub C dX2_touch_8 ⟨(by omega), (by omega)⟩ ?_
  refine st_mabs C (by split <;> (constructor <;> omega)) dX2_touch_9 mt_X2_11 mts_abs mti mtc_abs (by decide) (Nat.le_of_ble_eq_true rfl) (by omega) (by omega) ?_
  refine st_iload_n C 0 dX2_touch_12 rfl rfl ?_
  refine st_bipush C dX2_touch_13 (by decide) (by decide) ?_
  refine st_idiv C dX2_touch_15 (by omega) (by omega) ?_
  refine st_iload_n C 1 dX2_touch_16 rfl rfl ?_
  refine st_bipush C dX2_touch_17 (by decide) (by decide) ?_
  refine st_idiv C dX2_touch_19 (by omega) (by omega) ?_
  refine st_isub C dX2_touch_20 ⟨(by omega), (by omega)⟩ ?_
  refine st_mabs C (by split <;> (constructor <;> omega)) dX2_touch_21 mt_X2_11 mts_abs mti mtc_abs (by decide) (Nat.le_of_ble_eq_true rfl) (by omega) (by omega) ?_
  refine st_iadd C dX2_touch_24 ⟨(by omega), (by omega)⟩ ?_
  refine st_iconst C dX2_touch_25 (by decide) ?_
  refine st_icmp_ne (tgt := 33) C dX2_touch_26 (by decide) (fun c_26 => ?_) (fun c_26 => ?_)
  · refine st_iconst C dX2_touch_33 (by decide) ?_
    exact st_zreturn C F dX2_touch_34 rfl (by omega) (rt_i (by unfold Touch at hP; omega) rfl) (by omega) (by omega)
  · refine st_iconst C dX2_touch_29 (by decide) ?_
    refine st_goto (tgt := 34) C dX2_touch_30 (by decide) ?_
    exact st_zreturn C F dX2_touch_34 rfl (by omega) (rt_i (by unfold Touch at hP; omega) rfl) (by omega) (by omega)
set_option maxRecDepth 20000 in
set_option maxHeartbeats 4000000 in
theorem k_isRoadBetween_tl {g : Gx} {h : HP} {a : Nat} {f : Int → Int} {p q : Int} (ha : h a = some (oI 304 f)) (hp : 0 ≤ p ∧ p ≤ 63) (hq : 0 ≤ q ∧ q ≤ 63) (ho : p < q) (hP : RoadB f p q) : Ct g yX2_isRoadBetween (.code yX2_isRoadBetween cX2_isRoadBetween 7 (some .boolean)) 2 0 0 [vR a, vI p, vI q] h (Rt (some (vI 1)) h) := by
  refine Ct.of (by decide) (Nat.le_of_ble_eq_true rfl) (fun x hg C F => ?_)
  subst hg
  show T x 0 [(0, vR a), (1, vI p), (2, vI q)] [] h 0 0
  refine st_iload_n C 1 dX2_isRoadBetween_0 rfl rfl ?_
  refine st_iload_n C 2 dX2_isRoadBetween_1 rfl rfl ?_
  refine st_mmin C dX2_isRoadBetween_2 mt_X2_17 mts_min mti mtc_min (by decide) (Nat.le_of_ble_eq_true rfl) (by omega) (by omega) ?_
  rw [if_neg (by omega)]
  refine st_istore_n C 3 dX2_isRoadBetween_5 rfl (by decide) rfl ?_
  show T x 6 [(0, vR a), (1, vI p), (2, vI q), (3, vI p)] [] _ _ _
  refine st_iload_n C 1 dX2_isRoadBetween_6 rfl rfl ?_
  refine st_iload_n C 2 dX2_isRoadBetween_7 rfl rfl ?_
  refine st_mmax C dX2_isRoadBetween_8 mt_X2_21 mts_max mti mtc_max (by decide) (Nat.le_of_ble_eq_true rfl) (by omega) (by omega) ?_
  rw [if_pos (by omega)]
  refine st_istore C dX2_isRoadBetween_11 (by decide) rfl ?_
  show T x 13 [(0, vR a), (1, vI p), (2, vI q), (3, vI p), (4, vI q)] [] _ _ _
  refine st_iload_n C 3 dX2_isRoadBetween_13 rfl rfl ?_
  refine st_bipush C dX2_isRoadBetween_14 (by decide) (by decide) ?_
  refine st_irem C dX2_isRoadBetween_16 (by omega) (by omega) ?_
  refine st_istore C dX2_isRoadBetween_17 (by decide) rfl ?_
  show T x 19 [(0, vR a), (1, vI p), (2, vI q), (3, vI p), (4, vI q), (5, vI (p % 8))] [] _ _ _
  refine st_iload_n C 3 dX2_isRoadBetween_19 rfl rfl ?_
  refine st_bipush C dX2_isRoadBetween_20 (by decide) (by decide) ?_
  refine st_idiv C dX2_isRoadBetween_22 (by omega) (by omega) ?_
  refine st_istore C dX2_isRoadBetween_23 (by decide) rfl ?_
  show T x 25 [(0, vR a), (1, vI p), (2, vI q), (3, vI p), (4, vI q), (5, vI (p % 8)), (6, vI (p / 8))] [] _ _ _
  refine st_iload C dX2_isRoadBetween_25 rfl ?_
  refine st_iload_n C 3 dX2_isRoadBetween_27 rfl rfl ?_
  refine st_bipush C dX2_isRoadBetween_28 (by decide) (by decide) ?_
  refine st_iadd C dX2_isRoadBetween_30 ⟨(by omega), (by omega)⟩ ?_
  refine st_icmp_ne (tgt := 55) C dX2_isRoadBetween_31 (by decide) (fun c_31 => ?_) (fun c_31 => ?_)
  · refine st_iload C dX2_isRoadBetween_55 rfl ?_
    refine st_iload_n C 3 dX2_isRoadBetween_57 rfl rfl ?_
    refine st_iconst C dX2_isRoadBetween_58 (by decide) ?_
    refine st_iadd C dX2_isRoadBetween_59 ⟨(by omega), (by omega)⟩ ?_
    refine st_icmp_ne (tgt := 89) C dX2_isRoadBetween_60 (by decide) (fun c_60 => ?_) (fun c_60 => ?_)
    · refine st_iconst C dX2_isRoadBetween_89 (by decide) ?_
      exact st_zreturn C F dX2_isRoadBetween_90 rfl (by omega) (rt_i (by unfold RoadB at hP; omega) rfl) (by omega) (by omega)
    · refine st_iload C dX2_isRoadBetween_63 rfl ?_
      refine st_bipush C dX2_isRoadBetween_65 (by decide) (by decide) ?_
      refine st_icmp_ge (tgt := 89) C dX2_isRoadBetween_67 (by decide) (fun c_67 => ?_) (fun c_67 => ?_)
      · refine st_iconst C dX2_isRoadBetween_89 (by decide) ?_
        exact st_zreturn C F dX2_isRoadBetween_90 rfl (by omega) (rt_i (by unfold RoadB at hP; omega) rfl) (by omega) (by omega)
      · refine st_aload_n C 0 dX2_isRoadBetween_70 rfl rfl ?_
        refine st_iload C dX2_isRoadBetween_71 rfl ?_
        refine st_iload C dX2_isRoadBetween_73 rfl ?_
        refine st_callS (st := [vR a]) C dX2_isRoadBetween_75 [vI (p % 8), vI (p / 8)] (k_rightRoad (x9 := (p % 8)) (y9 := (p / 8)) (by omega) (by omega)) w_X2_31 rfl (by decide) (by decide) (by omega) (by omega) (Nat.le_of_ble_eq_true rfl) (ko_rt ?_)
        show T x 78 [(0, vR a), (1, vI p), (2, vI q), (3, vI p), (4, vI q), (5, vI (p % 8)), (6, vI (p / 8))] [vI (192 + 7 * (p / 8) + (p % 8)), vR a] _ _ _
        refine st_callS (st := []) C dX2_isRoadBetween_78 [vR a, vI (192 + 7 * (p / 8) + (p % 8))] (k_valueIn (f := f) (s9 := (192 + 7 * (p / 8) + (p % 8))) ha (by omega)) w_X2_27 rfl (by decide) (by decide) (by omega) (by omega) (Nat.le_of_ble_eq_true rfl) (ko_rt ?_)
        show T x 81 [(0, vR a), (1, vI p), (2, vI q), (3, vI p), (4, vI q), (5, vI (p % 8)), (6, vI (p / 8))] [vI (f (192 + 7 * (p / 8) + (p % 8)))] _ _ _
        refine st_iconst C dX2_isRoadBetween_81 (by decide) ?_
        refine st_icmp_ne (tgt := 89) C dX2_isRoadBetween_82 (by decide) (fun c_82 => ?_) (fun c_82 => ?_)
        · refine st_iconst C dX2_isRoadBetween_89 (by decide) ?_
          exact st_zreturn C F dX2_isRoadBetween_90 rfl (by omega) (rt_i (by unfold RoadB at hP; omega) rfl) (by omega) (by omega)
        · refine st_iconst C dX2_isRoadBetween_85 (by decide) ?_
          refine st_goto (tgt := 90) C dX2_isRoadBetween_86 (by decide) ?_
          exact st_zreturn C F dX2_isRoadBetween_90 rfl (by omega) (rt_i (by unfold RoadB at hP; omega) rfl) (by omega) (by omega)
  · refine st_aload_n C 0 dX2_isRoadBetween_34 rfl rfl ?_
    refine st_iload C dX2_isRoadBetween_35 rfl ?_
    refine st_iload C dX2_isRoadBetween_37 rfl ?_
    refine st_callS (st := [vR a]) C dX2_isRoadBetween_39 [vI (p % 8), vI (p / 8)] (k_downRoad (x9 := (p % 8)) (y9 := (p / 8)) (by omega) (by omega)) w_X2_24 rfl (by decide) (by decide) (by omega) (by omega) (Nat.le_of_ble_eq_true rfl) (ko_rt ?_)
    show T x 42 [(0, vR a), (1, vI p), (2, vI q), (3, vI p), (4, vI q), (5, vI (p % 8)), (6, vI (p / 8))] [vI (248 + 8 * (p / 8) + (p % 8)), vR a] _ _ _
    refine st_callS (st := []) C dX2_isRoadBetween_42 [vR a, vI (248 + 8 * (p / 8) + (p % 8))] (k_valueIn (f := f) (s9 := (248 + 8 * (p / 8) + (p % 8))) ha (by omega)) w_X2_27 rfl (by decide) (by decide) (by omega) (by omega) (Nat.le_of_ble_eq_true rfl) (ko_rt ?_)
    show T x 45 [(0, vR a), (1, vI p), (2, vI q), (3, vI p), (4, vI q), (5, vI (p % 8)), (6, vI (p / 8))] [vI (f (248 + 8 * (p / 8) + (p % 8)))] _ _ _
    refine st_iconst C dX2_isRoadBetween_45 (by decide) ?_
    refine st_icmp_ne (tgt := 53) C dX2_isRoadBetween_46 (by decide) (fun c_46 => ?_) (fun c_46 => ?_)
    · refine st_iconst C dX2_isRoadBetween_53 (by decide) ?_
      exact st_zreturn C F dX2_isRoadBetween_54 rfl (by omega) (rt_i (by unfold RoadB at hP; omega) rfl) (by omega) (by omega)
    · refine st_iconst C dX2_isRoadBetween_49 (by decide) ?_
      refine st_goto (tgt := 54) C dX2_isRoadBetween_50 (by decide) ?_
      exact st_zreturn C F dX2_isRoadBetween_54 rfl (by omega) (rt_i (by unfold RoadB at hP; omega) rfl) (by omega) (by omega)
set_option maxRecDepth 20000 in
set_option maxHeartbeats 4000000 in
theorem k_isRoadBetween_tg {g : Gx} {h : HP} {a : Nat} {f : Int → Int} {p q : Int} (ha : h a = some (oI 304 f)) (hp : 0 ≤ p ∧ p ≤ 63) (hq : 0 ≤ q ∧ q ≤ 63) (ho : q < p) (hP : RoadB f p q) : Ct g yX2_isRoadBetween (.code yX2_isRoadBetween cX2_isRoadBetween 7 (some .boolean)) 2 0 0 [vR a, vI p, vI q] h (Rt (some (vI 1)) h) := by
  refine Ct.of (by decide) (Nat.le_of_ble_eq_true rfl) (fun x hg C F => ?_)
  subst hg
  show T x 0 [(0, vR a), (1, vI p), (2, vI q)] [] h 0 0
  refine st_iload_n C 1 dX2_isRoadBetween_0 rfl rfl ?_
  refine st_iload_n C 2 dX2_isRoadBetween_1 rfl rfl ?_
  refine st_mmin C dX2_isRoadBetween_2 mt_X2_17 mts_min mti mtc_min (by decide) (Nat.le_of_ble_eq_true rfl) (by omega) (by omega) ?_
  rw [if_pos (by omega)]
  refine st_istore_n C 3 dX2_isRoadBetween_5 rfl (by decide) rfl ?_
  show T x 6 [(0, vR a), (1, vI p), (2, vI q), (3, vI q)] [] _ _ _
  refine st_iload_n C 1 dX2_isRoadBetween_6 rfl rfl ?_
  refine st_iload_n C 2 dX2_isRoadBetween_7 rfl rfl ?_
  refine st_mmax C dX2_isRoadBetween_8 mt_X2_21 mts_max mti mtc_max (by decide) (Nat.le_of_ble_eq_true rfl) (by omega) (by omega) ?_
  rw [if_neg (by omega)]
  refine st_istore C dX2_isRoadBetween_11 (by decide) rfl ?_
  show T x 13 [(0, vR a), (1, vI p), (2, vI q), (3, vI q), (4, vI p)] [] _ _ _
  refine st_iload_n C 3 dX2_isRoadBetween_13 rfl rfl ?_
  refine st_bipush C dX2_isRoadBetween_14 (by decide) (by decide) ?_
  refine st_irem C dX2_isRoadBetween_16 (by omega) (by omega) ?_
  refine st_istore C dX2_isRoadBetween_17 (by decide) rfl ?_
  show T x 19 [(0, vR a), (1, vI p), (2, vI q), (3, vI q), (4, vI p), (5, vI (q % 8))] [] _ _ _
  refine st_iload_n C 3 dX2_isRoadBetween_19 rfl rfl ?_
  refine st_bipush C dX2_isRoadBetween_20 (by decide) (by decide) ?_
  refine st_idiv C dX2_isRoadBetween_22 (by omega) (by omega) ?_
  refine st_istore C dX2_isRoadBetween_23 (by decide) rfl ?_
  show T x 25 [(0, vR a), (1, vI p), (2, vI q), (3, vI q), (4, vI p), (5, vI (q % 8)), (6, vI (q / 8))] [] _ _ _
  refine st_iload C dX2_isRoadBetween_25 rfl ?_
  refine st_iload_n C 3 dX2_isRoadBetween_27 rfl rfl ?_
  refine st_bipush C dX2_isRoadBetween_28 (by decide) (by decide) ?_
  refine st_iadd C dX2_isRoadBetween_30 ⟨(by omega), (by omega)⟩ ?_
  refine st_icmp_ne (tgt := 55) C dX2_isRoadBetween_31 (by decide) (fun c_31 => ?_) (fun c_31 => ?_)
  · refine st_iload C dX2_isRoadBetween_55 rfl ?_
    refine st_iload_n C 3 dX2_isRoadBetween_57 rfl rfl ?_
    refine st_iconst C dX2_isRoadBetween_58 (by decide) ?_
    refine st_iadd C dX2_isRoadBetween_59 ⟨(by omega), (by omega)⟩ ?_
    refine st_icmp_ne (tgt := 89) C dX2_isRoadBetween_60 (by decide) (fun c_60 => ?_) (fun c_60 => ?_)
    · refine st_iconst C dX2_isRoadBetween_89 (by decide) ?_
      exact st_zreturn C F dX2_isRoadBetween_90 rfl (by omega) (rt_i (by unfold RoadB at hP; omega) rfl) (by omega) (by omega)
    · refine st_iload C dX2_isRoadBetween_63 rfl ?_
      refine st_bipush C dX2_isRoadBetween_65 (by decide) (by decide) ?_
      refine st_icmp_ge (tgt := 89) C dX2_isRoadBetween_67 (by decide) (fun c_67 => ?_) (fun c_67 => ?_)
      · refine st_iconst C dX2_isRoadBetween_89 (by decide) ?_
        exact st_zreturn C F dX2_isRoadBetween_90 rfl (by omega) (rt_i (by unfold RoadB at hP; omega) rfl) (by omega) (by omega)
      · refine st_aload_n C 0 dX2_isRoadBetween_70 rfl rfl ?_
        refine st_iload C dX2_isRoadBetween_71 rfl ?_
        refine st_iload C dX2_isRoadBetween_73 rfl ?_
        refine st_callS (st := [vR a]) C dX2_isRoadBetween_75 [vI (q % 8), vI (q / 8)] (k_rightRoad (x9 := (q % 8)) (y9 := (q / 8)) (by omega) (by omega)) w_X2_31 rfl (by decide) (by decide) (by omega) (by omega) (Nat.le_of_ble_eq_true rfl) (ko_rt ?_)
        show T x 78 [(0, vR a), (1, vI p), (2, vI q), (3, vI q), (4, vI p), (5, vI (q % 8)), (6, vI (q / 8))] [vI (192 + 7 * (q / 8) + (q % 8)), vR a] _ _ _
        refine st_callS (st := []) C dX2_isRoadBetween_78 [vR a, vI (192 + 7 * (q / 8) + (q % 8))] (k_valueIn (f := f) (s9 := (192 + 7 * (q / 8) + (q % 8))) ha (by omega)) w_X2_27 rfl (by decide) (by decide) (by omega) (by omega) (Nat.le_of_ble_eq_true rfl) (ko_rt ?_)
        show T x 81 [(0, vR a), (1, vI p), (2, vI q), (3, vI q), (4, vI p), (5, vI (q % 8)), (6, vI (q / 8))] [vI (f (192 + 7 * (q / 8) + (q % 8)))] _ _ _
        refine st_iconst C dX2_isRoadBetween_81 (by decide) ?_
        refine st_icmp_ne (tgt := 89) C dX2_isRoadBetween_82 (by decide) (fun c_82 => ?_) (fun c_82 => ?_)
        · refine st_iconst C dX2_isRoadBetween_89 (by decide) ?_
          exact st_zreturn C F dX2_isRoadBetween_90 rfl (by omega) (rt_i (by unfold RoadB at hP; omega) rfl) (by omega) (by omega)
        · refine st_iconst C dX2_isRoadBetween_85 (by decide) ?_
          refine st_goto (tgt := 90) C dX2_isRoadBetween_86 (by decide) ?_
          exact st_zreturn C F dX2_isRoadBetween_90 rfl (by omega) (rt_i (by unfold RoadB at hP; omega) rfl) (by omega) (by omega)
  · refine st_aload_n C 0 dX2_isRoadBetween_34 rfl rfl ?_
    refine st_iload C dX2_isRoadBetween_35 rfl ?_
    refine st_iload C dX2_isRoadBetween_37 rfl ?_
    refine st_callS (st := [vR a]) C dX2_isRoadBetween_39 [vI (q % 8), vI (q / 8)] (k_downRoad (x9 := (q % 8)) (y9 := (q / 8)) (by omega) (by omega)) w_X2_24 rfl (by decide) (by decide) (by omega) (by omega) (Nat.le_of_ble_eq_true rfl) (ko_rt ?_)
    show T x 42 [(0, vR a), (1, vI p), (2, vI q), (3, vI q), (4, vI p), (5, vI (q % 8)), (6, vI (q / 8))] [vI (248 + 8 * (q / 8) + (q % 8)), vR a] _ _ _
    refine st_callS (st := []) C dX2_isRoadBetween_42 [vR a, vI (248 + 8 * (q / 8) + (q % 8))] (k_valueIn (f := f) (s9 := (248 + 8 * (q / 8) + (q % 8))) ha (by omega)) w_X2_27 rfl (by decide) (by decide) (by omega) (by omega) (Nat.le_of_ble_eq_true rfl) (ko_rt ?_)
    show T x 45 [(0, vR a), (1, vI p), (2, vI q), (3, vI q), (4, vI p), (5, vI (q % 8)), (6, vI (q / 8))] [vI (f (248 + 8 * (q / 8) + (q % 8)))] _ _ _
    refine st_iconst C dX2_isRoadBetween_45 (by decide) ?_
    refine st_icmp_ne (tgt := 53) C dX2_isRoadBetween_46 (by decide) (fun c_46 => ?_) (fun c_46 => ?_)
    · refine st_iconst C dX2_isRoadBetween_53 (by decide) ?_
      exact st_zreturn C F dX2_isRoadBetween_54 rfl (by omega) (rt_i (by unfold RoadB at hP; omega) rfl) (by omega) (by omega)
    · refine st_iconst C dX2_isRoadBetween_49 (by decide) ?_
      refine st_goto (tgt := 54) C dX2_isRoadBetween_50 (by decide) ?_
      exact st_zreturn C F dX2_isRoadBetween_54 rfl (by omega) (rt_i (by unfold RoadB at hP; omega) rfl) (by omega) (by omega)
set_option maxRecDepth 20000 in
set_option maxHeartbeats 4000000 in
theorem k_isRoadBetween_te {g : Gx} {h : HP} {a : Nat} {f : Int → Int} {p q : Int} (ha : h a = some (oI 304 f)) (hp : 0 ≤ p ∧ p ≤ 63) (hq : 0 ≤ q ∧ q ≤ 63) (ho : p = q) (hP : RoadB f p q) : Ct g yX2_isRoadBetween (.code yX2_isRoadBetween cX2_isRoadBetween 7 (some .boolean)) 2 0 0 [vR a, vI p, vI q] h (Rt (some (vI 1)) h) := by
  refine Ct.of (by decide) (Nat.le_of_ble_eq_true rfl) (fun x hg C F => ?_)
  subst hg
  show T x 0 [(0, vR a), (1, vI p), (2, vI q)] [] h 0 0
  refine st_iload_n C 1 dX2_isRoadBetween_0 rfl rfl ?_
  refine st_iload_n C 2 dX2_isRoadBetween_1 rfl rfl ?_
  refine st_mmin C dX2_isRoadBetween_2 mt_X2_17 mts_min mti mtc_min (by decide) (Nat.le_of_ble_eq_true rfl) (by omega) (by omega) ?_
  rw [if_neg (by omega)]
  refine st_istore_n C 3 dX2_isRoadBetween_5 rfl (by decide) rfl ?_
  show T x 6 [(0, vR a), (1, vI p), (2, vI q), (3, vI p)] [] _ _ _
  refine st_iload_n C 1 dX2_isRoadBetween_6 rfl rfl ?_
  refine st_iload_n C 2 dX2_isRoadBetween_7 rfl rfl ?_
  refine st_mmax C dX2_isRoadBetween_8 mt_X2_21 mts_max mti mtc_max (by decide) (Nat.le_of_ble_eq_true rfl) (by omega) (by omega) ?_
  rw [if_neg (by omega)]
  refine st_istore C dX2_isRoadBetween_11 (by decide) rfl ?_
  show T x 13 [(0, vR a), (1, vI p), (2, vI q), (3, vI p), (4, vI p)] [] _ _ _
  refine st_iload_n C 3 dX2_isRoadBetween_13 rfl rfl ?_
  refine st_bipush C dX2_isRoadBetween_14 (by decide) (by decide) ?_
  refine st_irem C dX2_isRoadBetween_16 (by omega) (by omega) ?_
  refine st_istore C dX2_isRoadBetween_17 (by decide) rfl ?_
  show T x 19 [(0, vR a), (1, vI p), (2, vI q), (3, vI p), (4, vI p), (5, vI (p % 8))] [] _ _ _
  refine st_iload_n C 3 dX2_isRoadBetween_19 rfl rfl ?_
  refine st_bipush C dX2_isRoadBetween_20 (by decide) (by decide) ?_
  refine st_idiv C dX2_isRoadBetween_22 (by omega) (by omega) ?_
  refine st_istore C dX2_isRoadBetween_23 (by decide) rfl ?_
  show T x 25 [(0, vR a), (1, vI p), (2, vI q), (3, vI p), (4, vI p), (5, vI (p % 8)), (6, vI (p / 8))] [] _ _ _
  refine st_iload C dX2_isRoadBetween_25 rfl ?_
  refine st_iload_n C 3 dX2_isRoadBetween_27 rfl rfl ?_
  refine st_bipush C dX2_isRoadBetween_28 (by decide) (by decide) ?_
  refine st_iadd C dX2_isRoadBetween_30 ⟨(by omega), (by omega)⟩ ?_
  refine st_icmp_ne (tgt := 55) C dX2_isRoadBetween_31 (by decide) (fun c_31 => ?_) (fun c_31 => by omega)
  refine st_iload C dX2_isRoadBetween_55 rfl ?_
  refine st_iload_n C 3 dX2_isRoadBetween_57 rfl rfl ?_
  refine st_iconst C dX2_isRoadBetween_58 (by decide) ?_
  refine st_iadd C dX2_isRoadBetween_59 ⟨(by omega), (by omega)⟩ ?_
  refine st_icmp_ne (tgt := 89) C dX2_isRoadBetween_60 (by decide) (fun c_60 => ?_) (fun c_60 => by omega)
  refine st_iconst C dX2_isRoadBetween_89 (by decide) ?_
  exact st_zreturn C F dX2_isRoadBetween_90 rfl (by omega) (rt_i (by unfold RoadB at hP; omega) rfl) (by omega) (by omega)
theorem k_isRoadBetween_t {g : Gx} {h : HP} {a : Nat} {f : Int → Int} {p q : Int} (ha : h a = some (oI 304 f)) (hp : 0 ≤ p ∧ p ≤ 63) (hq : 0 ≤ q ∧ q ≤ 63) (hP : RoadB f p q) : Ct g yX2_isRoadBetween (.code yX2_isRoadBetween cX2_isRoadBetween 7 (some .boolean)) 2 0 0 [vR a, vI p, vI q] h (Rt (some (vI 1)) h) := by
  rcases Int.lt_trichotomy p q with ho | ho | ho
  · exact k_isRoadBetween_tl ha hp hq ho hP
  · exact k_isRoadBetween_te ha hp hq ho hP
  · exact k_isRoadBetween_tg ha hp hq ho hP
set_option maxRecDepth 20000 in
set_option maxHeartbeats 4000000 in
theorem k_isRoadBetween_fl {g : Gx} {h : HP} {a : Nat} {f : Int → Int} {p q : Int} (ha : h a = some (oI 304 f)) (hp : 0 ≤ p ∧ p ≤ 63) (hq : 0 ≤ q ∧ q ≤ 63) (ho : p < q) (hP : ¬ RoadB f p q) : Ct g yX2_isRoadBetween (.code yX2_isRoadBetween cX2_isRoadBetween 7 (some .boolean)) 2 0 0 [vR a, vI p, vI q] h (Rt (some (vI 0)) h) := by
  refine Ct.of (by decide) (Nat.le_of_ble_eq_true rfl) (fun x hg C F => ?_)
  subst hg
  show T x 0 [(0, vR a), (1, vI p), (2, vI q)] [] h 0 0
  refine st_iload_n C 1 dX2_isRoadBetween_0 rfl rfl ?_
  refine st_iload_n C 2 dX2_isRoadBetween_1 rfl rfl ?_
  refine st_mmin C dX2_isRoadBetween_2 mt_X2_17 mts_min mti mtc_min (by decide) (Nat.le_of_ble_eq_true rfl) (by omega) (by omega) ?_
  rw [if_neg (by omega)]
  refine st_istore_n C 3 dX2_isRoadBetween_5 rfl (by decide) rfl ?_
  show T x 6 [(0, vR a), (1, vI p), (2, vI q), (3, vI p)] [] _ _ _
  refine st_iload_n C 1 dX2_isRoadBetween_6 rfl rfl ?_
  refine st_iload_n C 2 dX2_isRoadBetween_7 rfl rfl ?_
  refine st_mmax C dX2_isRoadBetween_8 mt_X2_21 mts_max mti mtc_max (by decide) (Nat.le_of_ble_eq_true rfl) (by omega) (by omega) ?_
  rw [if_pos (by omega)]
  refine st_istore C dX2_isRoadBetween_11 (by decide) rfl ?_
  show T x 13 [(0, vR a), (1, vI p), (2, vI q), (3, vI p), (4, vI q)] [] _ _ _
  refine st_iload_n C 3 dX2_isRoadBetween_13 rfl rfl ?_
  refine st_bipush C dX2_isRoadBetween_14 (by decide) (by decide) ?_
  refine st_irem C dX2_isRoadBetween_16 (by omega) (by omega) ?_
  refine st_istore C dX2_isRoadBetween_17 (by decide) rfl ?_
  show T x 19 [(0, vR a), (1, vI p), (2, vI q), (3, vI p), (4, vI q), (5, vI (p % 8))] [] _ _ _
  refine st_iload_n C 3 dX2_isRoadBetween_19 rfl rfl ?_
  refine st_bipush C dX2_isRoadBetween_20 (by decide) (by decide) ?_
  refine st_idiv C dX2_isRoadBetween_22 (by omega) (by omega) ?_
  refine st_istore C dX2_isRoadBetween_23 (by decide) rfl ?_
  show T x 25 [(0, vR a), (1, vI p), (2, vI q), (3, vI p), (4, vI q), (5, vI (p % 8)), (6, vI (p / 8))] [] _ _ _
  refine st_iload C dX2_isRoadBetween_25 rfl ?_
  refine st_iload_n C 3 dX2_isRoadBetween_27 rfl rfl ?_
  refine st_bipush C dX2_isRoadBetween_28 (by decide) (by decide) ?_
  refine st_iadd C dX2_isRoadBetween_30 ⟨(by omega), (by omega)⟩ ?_
  refine st_icmp_ne (tgt := 55) C dX2_isRoadBetween_31 (by decide) (fun c_31 => ?_) (fun c_31 => ?_)
  · refine st_iload C dX2_isRoadBetween_55 rfl ?_
    refine st_iload_n C 3 dX2_isRoadBetween_57 rfl rfl ?_
    refine st_iconst C dX2_isRoadBetween_58 (by decide) ?_
    refine st_iadd C dX2_isRoadBetween_59 ⟨(by omega), (by omega)⟩ ?_
    refine st_icmp_ne (tgt := 89) C dX2_isRoadBetween_60 (by decide) (fun c_60 => ?_) (fun c_60 => ?_)
    · refine st_iconst C dX2_isRoadBetween_89 (by decide) ?_
      exact st_zreturn C F dX2_isRoadBetween_90 rfl (by omega) (rt_i (by unfold RoadB at hP; omega) rfl) (by omega) (by omega)
    · refine st_iload C dX2_isRoadBetween_63 rfl ?_
      refine st_bipush C dX2_isRoadBetween_65 (by decide) (by decide) ?_
      refine st_icmp_ge (tgt := 89) C dX2_isRoadBetween_67 (by decide) (fun c_67 => ?_) (fun c_67 => ?_)
      · refine st_iconst C dX2_isRoadBetween_89 (by decide) ?_
        exact st_zreturn C F dX2_isRoadBetween_90 rfl (by omega) (rt_i (by unfold RoadB at hP; omega) rfl) (by omega) (by omega)
      · refine st_aload_n C 0 dX2_isRoadBetween_70 rfl rfl ?_
        refine st_iload C dX2_isRoadBetween_71 rfl ?_
        refine st_iload C dX2_isRoadBetween_73 rfl ?_
        refine st_callS (st := [vR a]) C dX2_isRoadBetween_75 [vI (p % 8), vI (p / 8)] (k_rightRoad (x9 := (p % 8)) (y9 := (p / 8)) (by omega) (by omega)) w_X2_31 rfl (by decide) (by decide) (by omega) (by omega) (Nat.le_of_ble_eq_true rfl) (ko_rt ?_)
        show T x 78 [(0, vR a), (1, vI p), (2, vI q), (3, vI p), (4, vI q), (5, vI (p % 8)), (6, vI (p / 8))] [vI (192 + 7 * (p / 8) + (p % 8)), vR a] _ _ _
        refine st_callS (st := []) C dX2_isRoadBetween_78 [vR a, vI (192 + 7 * (p / 8) + (p % 8))] (k_valueIn (f := f) (s9 := (192 + 7 * (p / 8) + (p % 8))) ha (by omega)) w_X2_27 rfl (by decide) (by decide) (by omega) (by omega) (Nat.le_of_ble_eq_true rfl) (ko_rt ?_)
        show T x 81 [(0, vR a), (1, vI p), (2, vI q), (3, vI p), (4, vI q), (5, vI (p % 8)), (6, vI (p / 8))] [vI (f (192 + 7 * (p / 8) + (p % 8)))] _ _ _
        refine st_iconst C dX2_isRoadBetween_81 (by decide) ?_
        refine st_icmp_ne (tgt := 89) C dX2_isRoadBetween_82 (by decide) (fun c_82 => ?_) (fun c_82 => ?_)
        · refine st_iconst C dX2_isRoadBetween_89 (by decide) ?_
          exact st_zreturn C F dX2_isRoadBetween_90 rfl (by omega) (rt_i (by unfold RoadB at hP; omega) rfl) (by omega) (by omega)
        · refine st_iconst C dX2_isRoadBetween_85 (by decide) ?_
          refine st_goto (tgt := 90) C dX2_isRoadBetween_86 (by decide) ?_
          exact st_zreturn C F dX2_isRoadBetween_90 rfl (by omega) (rt_i (by unfold RoadB at hP; omega) rfl) (by omega) (by omega)
  · refine st_aload_n C 0 dX2_isRoadBetween_34 rfl rfl ?_
    refine st_iload C dX2_isRoadBetween_35 rfl ?_
    refine st_iload C dX2_isRoadBetween_37 rfl ?_
    refine st_callS (st := [vR a]) C dX2_isRoadBetween_39 [vI (p % 8), vI (p / 8)] (k_downRoad (x9 := (p % 8)) (y9 := (p / 8)) (by omega) (by omega)) w_X2_24 rfl (by decide) (by decide) (by omega) (by omega) (Nat.le_of_ble_eq_true rfl) (ko_rt ?_)
    show T x 42 [(0, vR a), (1, vI p), (2, vI q), (3, vI p), (4, vI q), (5, vI (p % 8)), (6, vI (p / 8))] [vI (248 + 8 * (p / 8) + (p % 8)), vR a] _ _ _
    refine st_callS (st := []) C dX2_isRoadBetween_42 [vR a, vI (248 + 8 * (p / 8) + (p % 8))] (k_valueIn (f := f) (s9 := (248 + 8 * (p / 8) + (p % 8))) ha (by omega)) w_X2_27 rfl (by decide) (by decide) (by omega) (by omega) (Nat.le_of_ble_eq_true rfl) (ko_rt ?_)
    show T x 45 [(0, vR a), (1, vI p), (2, vI q), (3, vI p), (4, vI q), (5, vI (p % 8)), (6, vI (p / 8))] [vI (f (248 + 8 * (p / 8) + (p % 8)))] _ _ _
    refine st_iconst C dX2_isRoadBetween_45 (by decide) ?_
    refine st_icmp_ne (tgt := 53) C dX2_isRoadBetween_46 (by decide) (fun c_46 => ?_) (fun c_46 => ?_)
    · refine st_iconst C dX2_isRoadBetween_53 (by decide) ?_
      exact st_zreturn C F dX2_isRoadBetween_54 rfl (by omega) (rt_i (by unfold RoadB at hP; omega) rfl) (by omega) (by omega)
    · refine st_iconst C dX2_isRoadBetween_49 (by decide) ?_
      refine st_goto (tgt := 54) C dX2_isRoadBetween_50 (by decide) ?_
      exact st_zreturn C F dX2_isRoadBetween_54 rfl (by omega) (rt_i (by unfold RoadB at hP; omega) rfl) (by omega) (by omega)
set_option maxRecDepth 20000 in
set_option maxHeartbeats 4000000 in
theorem k_isRoadBetween_fg {g : Gx} {h : HP} {a : Nat} {f : Int → Int} {p q : Int} (ha : h a = some (oI 304 f)) (hp : 0 ≤ p ∧ p ≤ 63) (hq : 0 ≤ q ∧ q ≤ 63) (ho : q < p) (hP : ¬ RoadB f p q) : Ct g yX2_isRoadBetween (.code yX2_isRoadBetween cX2_isRoadBetween 7 (some .boolean)) 2 0 0 [vR a, vI p, vI q] h (Rt (some (vI 0)) h) := by
  refine Ct.of (by decide) (Nat.le_of_ble_eq_true rfl) (fun x hg C F => ?_)
  subst hg
  show T x 0 [(0, vR a), (1, vI p), (2, vI q)] [] h 0 0
  refine st_iload_n C 1 dX2_isRoadBetween_0 rfl rfl ?_
  refine st_iload_n C 2 dX2_isRoadBetween_1 rfl rfl ?_
  refine st_mmin C dX2_isRoadBetween_2 mt_X2_17 mts_min mti mtc_min (by decide) (Nat.le_of_ble_eq_true rfl) (by omega) (by omega) ?_
  rw [if_pos (by omega)]
  refine st_istore_n C 3 dX2_isRoadBetween_5 rfl (by decide) rfl ?_
  show T x 6 [(0, vR a), (1, vI p), (2, vI q), (3, vI q)] [] _ _ _
  refine st_iload_n C 1 dX2_isRoadBetween_6 rfl rfl ?_
  refine st_iload_n C 2 dX2_isRoadBetween_7 rfl rfl ?_
  refine st_mmax C dX2_isRoadBetween_8 mt_X2_21 mts_max mti mtc_max (by decide) (Nat.le_of_ble_eq_true rfl) (by omega) (by omega) ?_
  rw [if_neg (by omega)]
  refine st_istore C dX2_isRoadBetween_11 (by decide) rfl ?_
  show T x 13 [(0, vR a), (1, vI p), (2, vI q), (3, vI q), (4, vI p)] [] _ _ _
  refine st_iload_n C 3 dX2_isRoadBetween_13 rfl rfl ?_
  refine st_bipush C dX2_isRoadBetween_14 (by decide) (by decide) ?_
  refine st_irem C dX2_isRoadBetween_16 (by omega) (by omega) ?_
  refine st_istore C dX2_isRoadBetween_17 (by decide) rfl ?_
  show T x 19 [(0, vR a), (1, vI p), (2, vI q), (3, vI q), (4, vI p), (5, vI (q % 8))] [] _ _ _
  refine st_iload_n C 3 dX2_isRoadBetween_19 rfl rfl ?_
  refine st_bipush C dX2_isRoadBetween_20 (by decide) (by decide) ?_
  refine st_idiv C dX2_isRoadBetween_22 (by omega) (by omega) ?_
  refine st_istore C dX2_isRoadBetween_23 (by decide) rfl ?_
  show T x 25 [(0, vR a), (1, vI p), (2, vI q), (3, vI q), (4, vI p), (5, vI (q % 8)), (6, vI (q / 8))] [] _ _ _
  refine st_iload C dX2_isRoadBetween_25 rfl ?_
  refine st_iload_n C 3 dX2_isRoadBetween_27 rfl rfl ?_
  refine st_bipush C dX2_isRoadBetween_28 (by decide) (by decide) ?_
  refine st_iadd C dX2_isRoadBetween_30 ⟨(by omega), (by omega)⟩ ?_
  refine st_icmp_ne (tgt := 55) C dX2_isRoadBetween_31 (by decide) (fun c_31 => ?_) (fun c_31 => ?_)
  · refine st_iload C dX2_isRoadBetween_55 rfl ?_
    refine st_iload_n C 3 dX2_isRoadBetween_57 rfl rfl ?_
    refine st_iconst C dX2_isRoadBetween_58 (by decide) ?_
    refine st_iadd C dX2_isRoadBetween_59 ⟨(by omega), (by omega)⟩ ?_
    refine st_icmp_ne (tgt := 89) C dX2_isRoadBetween_60 (by decide) (fun c_60 => ?_) (fun c_60 => ?_)
    · refine st_iconst C dX2_isRoadBetween_89 (by decide) ?_
      exact st_zreturn C F dX2_isRoadBetween_90 rfl (by omega) (rt_i (by unfold RoadB at hP; omega) rfl) (by omega) (by omega)
    · refine st_iload C dX2_isRoadBetween_63 rfl ?_
      refine st_bipush C dX2_isRoadBetween_65 (by decide) (by decide) ?_
      refine st_icmp_ge (tgt := 89) C dX2_isRoadBetween_67 (by decide) (fun c_67 => ?_) (fun c_67 => ?_)
      · refine st_iconst C dX2_isRoadBetween_89 (by decide) ?_
        exact st_zreturn C F dX2_isRoadBetween_90 rfl (by omega) (rt_i (by unfold RoadB at hP; omega) rfl) (by omega) (by omega)
      · refine st_aload_n C 0 dX2_isRoadBetween_70 rfl rfl ?_
        refine st_iload C dX2_isRoadBetween_71 rfl ?_
        refine st_iload C dX2_isRoadBetween_73 rfl ?_
        refine st_callS (st := [vR a]) C dX2_isRoadBetween_75 [vI (q % 8), vI (q / 8)] (k_rightRoad (x9 := (q % 8)) (y9 := (q / 8)) (by omega) (by omega)) w_X2_31 rfl (by decide) (by decide) (by omega) (by omega) (Nat.le_of_ble_eq_true rfl) (ko_rt ?_)
        show T x 78 [(0, vR a), (1, vI p), (2, vI q), (3, vI q), (4, vI p), (5, vI (q % 8)), (6, vI (q / 8))] [vI (192 + 7 * (q / 8) + (q % 8)), vR a] _ _ _
        refine st_callS (st := []) C dX2_isRoadBetween_78 [vR a, vI (192 + 7 * (q / 8) + (q % 8))] (k_valueIn (f := f) (s9 := (192 + 7 * (q / 8) + (q % 8))) ha (by omega)) w_X2_27 rfl (by decide) (by decide) (by omega) (by omega) (Nat.le_of_ble_eq_true rfl) (ko_rt ?_)
        show T x 81 [(0, vR a), (1, vI p), (2, vI q), (3, vI q), (4, vI p), (5, vI (q % 8)), (6, vI (q / 8))] [vI (f (192 + 7 * (q / 8) + (q % 8)))] _ _ _
        refine st_iconst C dX2_isRoadBetween_81 (by decide) ?_
        refine st_icmp_ne (tgt := 89) C dX2_isRoadBetween_82 (by decide) (fun c_82 => ?_) (fun c_82 => ?_)
        · refine st_iconst C dX2_isRoadBetween_89 (by decide) ?_
          exact st_zreturn C F dX2_isRoadBetween_90 rfl (by omega) (rt_i (by unfold RoadB at hP; omega) rfl) (by omega) (by omega)
        · refine st_iconst C dX2_isRoadBetween_85 (by decide) ?_
          refine st_goto (tgt := 90) C dX2_isRoadBetween_86 (by decide) ?_
          exact st_zreturn C F dX2_isRoadBetween_90 rfl (by omega) (rt_i (by unfold RoadB at hP; omega) rfl) (by omega) (by omega)
  · refine st_aload_n C 0 dX2_isRoadBetween_34 rfl rfl ?_
    refine st_iload C dX2_isRoadBetween_35 rfl ?_
    refine st_iload C dX2_isRoadBetween_37 rfl ?_
    refine st_callS (st := [vR a]) C dX2_isRoadBetween_39 [vI (q % 8), vI (q / 8)] (k_downRoad (x9 := (q % 8)) (y9 := (q / 8)) (by omega) (by omega)) w_X2_24 rfl (by decide) (by decide) (by omega) (by omega) (Nat.le_of_ble_eq_true rfl) (ko_rt ?_)
    show T x 42 [(0, vR a), (1, vI p), (2, vI q), (3, vI q), (4, vI p), (5, vI (q % 8)), (6, vI (q / 8))] [vI (248 + 8 * (q / 8) + (q % 8)), vR a] _ _ _
    refine st_callS (st := []) C dX2_isRoadBetween_42 [vR a, vI (248 + 8 * (q / 8) + (q % 8))] (k_valueIn (f := f) (s9 := (248 + 8 * (q / 8) + (q % 8))) ha (by omega)) w_X2_27 rfl (by decide) (by decide) (by omega) (by omega) (Nat.le_of_ble_eq_true rfl) (ko_rt ?_)
    show T x 45 [(0, vR a), (1, vI p), (2, vI q), (3, vI q), (4, vI p), (5, vI (q % 8)), (6, vI (q / 8))] [vI (f (248 + 8 * (q / 8) + (q % 8)))] _ _ _
    refine st_iconst C dX2_isRoadBetween_45 (by decide) ?_
    refine st_icmp_ne (tgt := 53) C dX2_isRoadBetween_46 (by decide) (fun c_46 => ?_) (fun c_46 => ?_)
    · refine st_iconst C dX2_isRoadBetween_53 (by decide) ?_
      exact st_zreturn C F dX2_isRoadBetween_54 rfl (by omega) (rt_i (by unfold RoadB at hP; omega) rfl) (by omega) (by omega)
    · refine st_iconst C dX2_isRoadBetween_49 (by decide) ?_
      refine st_goto (tgt := 54) C dX2_isRoadBetween_50 (by decide) ?_
      exact st_zreturn C F dX2_isRoadBetween_54 rfl (by omega) (rt_i (by unfold RoadB at hP; omega) rfl) (by omega) (by omega)
set_option maxRecDepth 20000 in
set_option maxHeartbeats 4000000 in
theorem k_isRoadBetween_fe {g : Gx} {h : HP} {a : Nat} {f : Int → Int} {p q : Int} (ha : h a = some (oI 304 f)) (hp : 0 ≤ p ∧ p ≤ 63) (hq : 0 ≤ q ∧ q ≤ 63) (ho : p = q) (hP : ¬ RoadB f p q) : Ct g yX2_isRoadBetween (.code yX2_isRoadBetween cX2_isRoadBetween 7 (some .boolean)) 2 0 0 [vR a, vI p, vI q] h (Rt (some (vI 0)) h) := by
  refine Ct.of (by decide) (Nat.le_of_ble_eq_true rfl) (fun x hg C F => ?_)
  subst hg
  show T x 0 [(0, vR a), (1, vI p), (2, vI q)] [] h 0 0
  refine st_iload_n C 1 dX2_isRoadBetween_0 rfl rfl ?_
  refine st_iload_n C 2 dX2_isRoadBetween_1 rfl rfl ?_
  refine st_mmin C dX2_isRoadBetween_2 mt_X2_17 mts_min mti mtc_min (by decide) (Nat.le_of_ble_eq_true rfl) (by omega) (by omega) ?_
  rw [if_neg (by omega)]
  refine st_istore_n C 3 dX2_isRoadBetween_5 rfl (by decide) rfl ?_
  show T x 6 [(0, vR a), (1, vI p), (2, vI q), (3, vI p)] [] _ _ _
  refine st_iload_n C 1 dX2_isRoadBetween_6 rfl rfl ?_
  refine st_iload_n C 2 dX2_isRoadBetween_7 rfl rfl ?_
  refine st_mmax C dX2_isRoadBetween_8 mt_X2_21 mts_max mti mtc_max (by decide) (Nat.le_of_ble_eq_true rfl) (by omega) (by omega) ?_
  rw [if_neg (by omega)]
  refine st_istore C dX2_isRoadBetween_11 (by decide) rfl ?_
  show T x 13 [(0, vR a), (1, vI p), (2, vI q), (3, vI p), (4, vI p)] [] _ _ _
  refine st_iload_n C 3 dX2_isRoadBetween_13 rfl rfl ?_
  refine st_bipush C dX2_isRoadBetween_14 (by decide) (by decide) ?_
  refine st_irem C dX2_isRoadBetween_16 (by omega) (by omega) ?_
  refine st_istore C dX2_isRoadBetween_17 (by decide) rfl ?_
  show T x 19 [(0, vR a), (1, vI p), (2, vI q), (3, vI p), (4, vI p), (5, vI (p % 8))] [] _ _ _
  refine st_iload_n C 3 dX2_isRoadBetween_19 rfl rfl ?_
  refine st_bipush C dX2_isRoadBetween_20 (by decide) (by decide) ?_
  refine st_idiv C dX2_isRoadBetween_22 (by omega) (by omega) ?_
  refine st_istore C dX2_isRoadBetween_23 (by decide) rfl ?_
  show T x 25 [(0, vR a), (1, vI p), (2, vI q), (3, vI p), (4, vI p), (5, vI (p % 8)), (6, vI (p / 8))] [] _ _ _
  refine st_iload C dX2_isRoadBetween_25 rfl ?_
  refine st_iload_n C 3 dX2_isRoadBetween_27 rfl rfl ?_
  refine st_bipush C dX2_isRoadBetween_28 (by decide) (by decide) ?_
  refine st_iadd C dX2_isRoadBetween_30 ⟨(by omega), (by omega)⟩ ?_
  refine st_icmp_ne (tgt := 55) C dX2_isRoadBetween_31 (by decide) (fun c_31 => ?_) (fun c_31 => by omega)
  refine st_iload C dX2_isRoadBetween_55 rfl ?_
  refine st_iload_n C 3 dX2_isRoadBetween_57 rfl rfl ?_
  refine st_iconst C dX2_isRoadBetween_58 (by decide) ?_
  refine st_iadd C dX2_isRoadBetween_59 ⟨(by omega), (by omega)⟩ ?_
  refine st_icmp_ne (tgt := 89) C dX2_isRoadBetween_60 (by decide) (fun c_60 => ?_) (fun c_60 => by omega)
  refine st_iconst C dX2_isRoadBetween_89 (by decide) ?_
  exact st_zreturn C F dX2_isRoadBetween_90 rfl (by omega) (rt_i (by unfold RoadB at hP; omega) rfl) (by omega) (by omega)
theorem k_isRoadBetween_f {g : Gx} {h : HP} {a : Nat} {f : Int → Int} {p q : Int} (ha : h a = some (oI 304 f)) (hp : 0 ≤ p ∧ p ≤ 63) (hq : 0 ≤ q ∧ q ≤ 63) (hP : ¬ RoadB f p q) : Ct g yX2_isRoadBetween (.code yX2_isRoadBetween cX2_isRoadBetween 7 (some .boolean)) 2 0 0 [vR a, vI p, vI q] h (Rt (some (vI 0)) h) := by
  rcases Int.lt_trichotomy p q with ho | ho | ho
  · exact k_isRoadBetween_fl ha hp hq ho hP
  · exact k_isRoadBetween_fe ha hp hq ho hP
  · exact k_isRoadBetween_fg ha hp hq ho hP
