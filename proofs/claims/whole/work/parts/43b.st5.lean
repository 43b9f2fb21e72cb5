set_option maxRecDepth 20000 in
set_option maxHeartbeats 4000000 in
theorem s_route_x1 {g : Gx} {h : HP} {rc dc : Int} {t2 : Int → Int} {nw mcn : Int} {sv : Int → Int → Int} {gf : Int → Int} {stf : Int → Option Nat} {f9 o9 v9 : Int} (hs : cS h rc dc) (hX : cX h) (hT : h 2 = some (oI 304 t2)) (hH : cHf h nw mcn sv gf stf) (hnw : 0 ≤ nw ∧ nw ≤ 40) (hQ : ¬ ((0 ≤ f9 ∧ f9 ≤ 63) ∧ (0 ≤ o9 ∧ o9 ≤ 63) ∧ 0 ≤ v9 ∧ v9 ≤ nw)) : Ct g yX10_route (.code yX10_route cX10_route 5 (some .int)) 7 2 12 [vR 0, vI f9, vI o9, vI v9] h (Th "java/lang/IllegalArgumentException" h) := by
  refine Ct.of (by decide) (Nat.le_of_ble_eq_true rfl) (fun x hg C F => ?_)
  subst hg
  obtain ⟨hx9, ⟨qa, hx14⟩, sa, hx15⟩ := id hX
  obtain ⟨hHR, hH12, hHn⟩ := id hH
  have hH6 := hHR.1
  have hH11 := hHR.2.1
  have hge : 102 ≤ stN (nw + 1) := stN_ge (by omega)
  show T x 0 [(0, vR 0), (1, vI f9), (2, vI o9), (3, vI v9)] [] h 0 0
  refine st_iload_n C 1 dX10_route_0 rfl rfl ?_
  refine st_bipush C dX10_route_1 (by decide) (by decide) ?_
  by_cases b_3 : 0 ≤ f9 ∧ f9 ≤ 63
  · refine st_callS (st := []) C dX10_route_3 [vI f9, vI 63] (k_isWithin_t (v9 := f9) (m9 := 63)  b_3) w_X10_118 rfl (by decide) (by decide) (by omega) (by omega) (Nat.le_of_ble_eq_true rfl) (ko_rt ?_)
    show T x 6 [(0, vR 0), (1, vI f9), (2, vI o9), (3, vI v9)] [vI 1] _ _ _
    refine st_if_eq (tgt := 36) C dX10_route_6 (by decide) (fun c_6 => by omega) (fun c_6 => ?_)
    refine st_iload_n C 2 dX10_route_9 rfl rfl ?_
    refine st_bipush C dX10_route_10 (by decide) (by decide) ?_
    by_cases b_12 : 0 ≤ o9 ∧ o9 ≤ 63
    · refine st_callS (st := []) C dX10_route_12 [vI o9, vI 63] (k_isWithin_t (v9 := o9) (m9 := 63)  b_12) w_X10_118 rfl (by decide) (by decide) (by omega) (by omega) (Nat.le_of_ble_eq_true rfl) (ko_rt ?_)
      show T x 15 [(0, vR 0), (1, vI f9), (2, vI o9), (3, vI v9)] [vI 1] _ _ _
      refine st_if_eq (tgt := 36) C dX10_route_15 (by decide) (fun c_15 => by omega) (fun c_15 => ?_)
      refine st_iload_n C 3 dX10_route_18 rfl rfl ?_
      refine st_aload_n C 0 dX10_route_19 rfl rfl ?_
      refine st_getf C dX10_route_20 fl_X10_44 hs rfl ?_
      refine st_getf C dX10_route_23 fl_X10_213 hH6 rfl ?_
      by_cases b_26 : 0 ≤ v9 ∧ v9 ≤ nw
      · refine st_callS (st := []) C dX10_route_26 [vI v9, vI nw] (k_isWithin_t (v9 := v9) (m9 := nw)  b_26) w_X10_118 rfl (by decide) (by decide) (by omega) (by omega) (Nat.le_of_ble_eq_true rfl) (ko_rt ?_)
        show T x 29 [(0, vR 0), (1, vI f9), (2, vI o9), (3, vI v9)] [vI 1] _ _ _
        refine st_if_eq (tgt := 36) C dX10_route_29 (by decide) (fun c_29 => by omega) (fun c_29 => ?_)
        refine st_iconst C dX10_route_32 (by decide) ?_
        refine st_goto (tgt := 37) C dX10_route_33 (by decide) ?_
        exact absurd ⟨by assumption, by assumption, by assumption⟩ hQ
      · refine st_callS (st := []) C dX10_route_26 [vI v9, vI nw] (k_isWithin_f (v9 := v9) (m9 := nw)  b_26) w_X10_118 rfl (by decide) (by decide) (by omega) (by omega) (Nat.le_of_ble_eq_true rfl) (ko_rt ?_)
        show T x 29 [(0, vR 0), (1, vI f9), (2, vI o9), (3, vI v9)] [vI 0] _ _ _
        refine st_if_eq (tgt := 36) C dX10_route_29 (by decide) (fun c_29 => ?_) (fun c_29 => by omega)
        refine st_iconst C dX10_route_36 (by decide) ?_
        refine st_callS (st := []) C dX10_route_37 [vI 0] k_need_f w_X10_81 rfl (by decide) (by decide) (by omega) (by omega) (Nat.le_of_ble_eq_true rfl) (ko_th ?_)
        exact st_out C F ⟨rfl, rfl⟩ (by omega) (by omega)
    · refine st_callS (st := []) C dX10_route_12 [vI o9, vI 63] (k_isWithin_f (v9 := o9) (m9 := 63)  b_12) w_X10_118 rfl (by decide) (by decide) (by omega) (by omega) (Nat.le_of_ble_eq_true rfl) (ko_rt ?_)
      show T x 15 [(0, vR 0), (1, vI f9), (2, vI o9), (3, vI v9)] [vI 0] _ _ _
      refine st_if_eq (tgt := 36) C dX10_route_15 (by decide) (fun c_15 => ?_) (fun c_15 => by omega)
      refine st_iconst C dX10_route_36 (by decide) ?_
      refine st_callS (st := []) C dX10_route_37 [vI 0] k_need_f w_X10_81 rfl (by decide) (by decide) (by omega) (by omega) (Nat.le_of_ble_eq_true rfl) (ko_th ?_)
      exact st_out C F ⟨rfl, rfl⟩ (by omega) (by omega)
  · refine st_callS (st := []) C dX10_route_3 [vI f9, vI 63] (k_isWithin_f (v9 := f9) (m9 := 63)  b_3) w_X10_118 rfl (by decide) (by decide) (by omega) (by omega) (Nat.le_of_ble_eq_true rfl) (ko_rt ?_)
    show T x 6 [(0, vR 0), (1, vI f9), (2, vI o9), (3, vI v9)] [vI 0] _ _ _
    refine st_if_eq (tgt := 36) C dX10_route_6 (by decide) (fun c_6 => ?_) (fun c_6 => by omega)
    refine st_iconst C dX10_route_36 (by decide) ?_
    refine st_callS (st := []) C dX10_route_37 [vI 0] k_need_f w_X10_81 rfl (by decide) (by decide) (by omega) (by omega) (Nat.le_of_ble_eq_true rfl) (ko_th ?_)
    exact st_out C F ⟨rfl, rfl⟩ (by omega) (by omega)
set_option maxRecDepth 20000 in
set_option maxHeartbeats 4000000 in
theorem s_route_x2 {g : Gx} {h : HP} {rc dc : Int} {t2 : Int → Int} {nw mcn : Int} {sv : Int → Int → Int} {gf : Int → Int} {stf : Int → Option Nat} {f9 o9 v9 : Int} (hs : cS h rc dc) (hX : cX h) (hT : h 2 = some (oI 304 t2)) (hH : cHf h nw mcn sv gf stf) (hnw : 0 ≤ nw ∧ nw ≤ 40) (hq : (0 ≤ f9 ∧ f9 ≤ 63) ∧ (0 ≤ o9 ∧ o9 ≤ 63) ∧ 0 ≤ v9 ∧ v9 ≤ nw) (hQ : ¬ Reach (fun a b => RoadB (fmix (fun s => vA sv s v9) t2 304) a b) f9 o9) : Ct g yX10_route (.code yX10_route cX10_route 5 (some .int)) 7 2 12 [vR 0, vI f9, vI o9, vI v9] h (ThS "java/util/NoSuchElementException" (hput h 2 (oI 304 (fmix (fun s => vA sv s v9) t2 304))) 14 15) := by
  refine Ct.of (by decide) (Nat.le_of_ble_eq_true rfl) (fun x hg C F => ?_)
  subst hg
  obtain ⟨hx9, ⟨qa, hx14⟩, sa, hx15⟩ := id hX
  obtain ⟨hHR, hH12, hHn⟩ := id hH
  have hH6 := hHR.1
  have hH11 := hHR.2.1
  have hge : 102 ≤ stN (nw + 1) := stN_ge (by omega)
  show T x 0 [(0, vR 0), (1, vI f9), (2, vI o9), (3, vI v9)] [] h 0 0
  refine st_iload_n C 1 dX10_route_0 rfl rfl ?_
  refine st_bipush C dX10_route_1 (by decide) (by decide) ?_
  have b_3 : 0 ≤ f9 ∧ f9 ≤ 63 := by omega
  refine st_callS (st := []) C dX10_route_3 [vI f9, vI 63] (k_isWithin_t (v9 := f9) (m9 := 63)  b_3) w_X10_118 rfl (by decide) (by decide) (by omega) (by omega) (Nat.le_of_ble_eq_true rfl) (ko_rt ?_)
  show T x 6 [(0, vR 0), (1, vI f9), (2, vI o9), (3, vI v9)] [vI 1] _ _ _
  refine st_if_eq (tgt := 36) C dX10_route_6 (by decide) (fun c_6 => by omega) (fun c_6 => ?_)
  refine st_iload_n C 2 dX10_route_9 rfl rfl ?_
  refine st_bipush C dX10_route_10 (by decide) (by decide) ?_
  have b_12 : 0 ≤ o9 ∧ o9 ≤ 63 := by omega
  refine st_callS (st := []) C dX10_route_12 [vI o9, vI 63] (k_isWithin_t (v9 := o9) (m9 := 63)  b_12) w_X10_118 rfl (by decide) (by decide) (by omega) (by omega) (Nat.le_of_ble_eq_true rfl) (ko_rt ?_)
  show T x 15 [(0, vR 0), (1, vI f9), (2, vI o9), (3, vI v9)] [vI 1] _ _ _
  refine st_if_eq (tgt := 36) C dX10_route_15 (by decide) (fun c_15 => by omega) (fun c_15 => ?_)
  refine st_iload_n C 3 dX10_route_18 rfl rfl ?_
  refine st_aload_n C 0 dX10_route_19 rfl rfl ?_
  refine st_getf C dX10_route_20 fl_X10_44 hs rfl ?_
  refine st_getf C dX10_route_23 fl_X10_213 hH6 rfl ?_
  have b_26 : 0 ≤ v9 ∧ v9 ≤ nw := by omega
  refine st_callS (st := []) C dX10_route_26 [vI v9, vI nw] (k_isWithin_t (v9 := v9) (m9 := nw)  b_26) w_X10_118 rfl (by decide) (by decide) (by omega) (by omega) (Nat.le_of_ble_eq_true rfl) (ko_rt ?_)
  show T x 29 [(0, vR 0), (1, vI f9), (2, vI o9), (3, vI v9)] [vI 1] _ _ _
  refine st_if_eq (tgt := 36) C dX10_route_29 (by decide) (fun c_29 => by omega) (fun c_29 => ?_)
  refine st_iconst C dX10_route_32 (by decide) ?_
  refine st_goto (tgt := 37) C dX10_route_33 (by decide) ?_
  refine st_callS (st := []) C dX10_route_37 [vI 1] k_need_t w_X10_81 rfl (by decide) (by decide) (by omega) (by omega) (Nat.le_of_ble_eq_true rfl) (ko_rn ?_)
  show T x 40 [(0, vR 0), (1, vI f9), (2, vI o9), (3, vI v9)] [] _ _ _
  refine st_aload_n C 0 dX10_route_40 rfl rfl ?_
  refine st_getf C dX10_route_41 fl_X10_44 hs rfl ?_
  refine st_iload_n C 3 dX10_route_44 rfl rfl ?_
  refine st_aload_n C 0 dX10_route_45 rfl rfl ?_
  refine st_getf C dX10_route_46 fl_X10_13 hs rfl ?_
  refine st_callV (st := []) C dX10_route_49 [vI v9, vR 2] (k_writeAt (nw := nw) (mcn := mcn) (sf := stf) (sv := sv) (v9 := v9) (tf := t2) hH.1 hnw (by omega) hT (by omega) (by omega) (by omega)) hH6 w_X10_194 rfl (by decide) (by decide) (by omega) (by omega) (Nat.le_of_ble_eq_true rfl) (ko_rn ?_)
  show T x 52 [(0, vR 0), (1, vI f9), (2, vI o9), (3, vI v9)] [] (hput h 2 (oI 304 (fmix (fun s => vA sv s v9) t2 304))) _ _
  refine st_aload_n C 0 dX10_route_52 rfl rfl ?_
  refine st_getf C dX10_route_53 fl_X10_65 (hput_o (by omega) hs) rfl ?_
  refine st_aload_n C 0 dX10_route_56 rfl rfl ?_
  refine st_getf C dX10_route_57 fl_X10_13 (hput_o (by omega) hs) rfl ?_
  refine st_iconst C dX10_route_60 (by decide) ?_
  refine st_iload_n C 1 dX10_route_61 rfl rfl ?_
  refine st_callV (st := []) C dX10_route_62 [vR 2, vI (-1), vI f9] (k_spread_r (rf := (fmix (fun s => vA sv s v9) t2 304)) (p9 := f9) (hput_o (by omega) hx9) (hput_o (by omega) hx14) (hput_o (by omega) hx15) (by omega) (by omega) (by omega) hput_s (by omega) (by omega) (by omega)) (hput_o (by omega) hx9) w_X10_225 rfl (by decide) (by decide) (by omega) (by omega) (Nat.le_of_ble_eq_true rfl) (ko_rs (fun qz3 sz3 hD3 => ?_))
  show T x 65 [(0, vR 0), (1, vI f9), (2, vI o9), (3, vI v9)] [vI (cnt (Reach (fun a b => RoadB (fmix (fun s => vA sv s v9) t2 304) a b) f9) 64)] _ _ _
  refine st_pop C dX10_route_65 rfl ?_
  refine st_aload_n C 0 dX10_route_66 rfl rfl ?_
  refine st_getf C dX10_route_67 fl_X10_65 (sc_o (by omega) (by omega) (hput_o (by omega) hs)) rfl ?_
  refine st_iload_n C 2 dX10_route_70 rfl rfl ?_
  refine st_callV (st := []) C dX10_route_71 [vI o9] (k_stepsTo (s0 := sz3) (p9 := o9) (sc_o (by omega) (by omega) (hput_o (by omega) hx9)) sc_S (by omega)) (sc_o (by omega) (by omega) (hput_o (by omega) hx9)) w_X10_229 rfl (by decide) (by decide) (by omega) (by omega) (Nat.le_of_ble_eq_true rfl) (ko_rt ?_)
  show T x 74 [(0, vR 0), (1, vI f9), (2, vI o9), (3, vI v9)] [vI (sz3 o9)] _ _ _
  refine st_istore C dX10_route_74 (by decide) rfl ?_
  show T x 76 [(0, vR 0), (1, vI f9), (2, vI o9), (3, vI v9), (4, vI (sz3 o9))] [] _ _ _
  refine st_iload C dX10_route_76 rfl ?_
  refine st_iconst C dX10_route_78 (by decide) ?_
  refine st_icmp_ne (tgt := 90) C dX10_route_79 (by decide) (fun c_79 => ?_) (fun c_79 => ?_)
  · refine st_iload C dX10_route_90 rfl ?_
    exact st_ireturn C F dX10_route_92 rfl (by first | exact ⟨rfl, qz3, sz3, rfl⟩ | (exfalso; rcases hD3 o9 (by omega) (by omega) with z | ⟨n, -, z, -⟩; exact absurd z.1 (by assumption); exact hQ ⟨n, z⟩)) (by omega) (by omega)
  · exact st_throw C F dX10_route_82 dX10_route_85 dX10_route_86 dX10_route_89 xw_X10_154 (by decide) (by first | exact ⟨rfl, qz3, sz3, rfl⟩ | (exfalso; rcases hD3 o9 (by omega) (by omega) with z | ⟨n, -, z, -⟩; exact absurd z.1 (by assumption); exact hQ ⟨n, z⟩)) (by omega) (by omega)
set_option maxRecDepth 20000 in
set_option maxHeartbeats 4000000 in
theorem s_route {g : Gx} {h : HP} {rc dc : Int} {t2 : Int → Int} {nw mcn : Int} {sv : Int → Int → Int} {gf : Int → Int} {stf : Int → Option Nat} {f9 o9 v9 : Int} {d9 : Nat} (hs : cS h rc dc) (hX : cX h) (hT : h 2 = some (oI 304 t2)) (hH : cHf h nw mcn sv gf stf) (hnw : 0 ≤ nw ∧ nw ≤ 40) (hq : (0 ≤ f9 ∧ f9 ≤ 63) ∧ (0 ≤ o9 ∧ o9 ≤ 63) ∧ 0 ≤ v9 ∧ v9 ≤ nw) (hQ : Path (fun a b => RoadB (fmix (fun s => vA sv s v9) t2 304) a b) f9 d9 o9 ∧ ∀ m, Path (fun a b => RoadB (fmix (fun s => vA sv s v9) t2 304) a b) f9 m o9 → d9 ≤ m) : Ct g yX10_route (.code yX10_route cX10_route 5 (some .int)) 7 2 12 [vR 0, vI f9, vI o9, vI v9] h ((fun r h' => r = .inl (some (vI (d9 : Int))) ∧ ∃ q s : Int → Int, h' = sc (hput h 2 (oI 304 (fmix (fun s => vA sv s v9) t2 304))) 14 15 q s)) := by
  refine Ct.of (by decide) (Nat.le_of_ble_eq_true rfl) (fun x hg C F => ?_)
  subst hg
  obtain ⟨hx9, ⟨qa, hx14⟩, sa, hx15⟩ := id hX
  obtain ⟨hHR, hH12, hHn⟩ := id hH
  have hH6 := hHR.1
  have hH11 := hHR.2.1
  have hge : 102 ≤ stN (nw + 1) := stN_ge (by omega)
  show T x 0 [(0, vR 0), (1, vI f9), (2, vI o9), (3, vI v9)] [] h 0 0
  refine st_iload_n C 1 dX10_route_0 rfl rfl ?_
  refine st_bipush C dX10_route_1 (by decide) (by decide) ?_
  have b_3 : 0 ≤ f9 ∧ f9 ≤ 63 := by omega
  refine st_callS (st := []) C dX10_route_3 [vI f9, vI 63] (k_isWithin_t (v9 := f9) (m9 := 63)  b_3) w_X10_118 rfl (by decide) (by decide) (by omega) (by omega) (Nat.le_of_ble_eq_true rfl) (ko_rt ?_)
  show T x 6 [(0, vR 0), (1, vI f9), (2, vI o9), (3, vI v9)] [vI 1] _ _ _
  refine st_if_eq (tgt := 36) C dX10_route_6 (by decide) (fun c_6 => by omega) (fun c_6 => ?_)
  refine st_iload_n C 2 dX10_route_9 rfl rfl ?_
  refine st_bipush C dX10_route_10 (by decide) (by decide) ?_
  have b_12 : 0 ≤ o9 ∧ o9 ≤ 63 := by omega
  refine st_callS (st := []) C dX10_route_12 [vI o9, vI 63] (k_isWithin_t (v9 := o9) (m9 := 63)  b_12) w_X10_118 rfl (by decide) (by decide) (by omega) (by omega) (Nat.le_of_ble_eq_true rfl) (ko_rt ?_)
  show T x 15 [(0, vR 0), (1, vI f9), (2, vI o9), (3, vI v9)] [vI 1] _ _ _
  refine st_if_eq (tgt := 36) C dX10_route_15 (by decide) (fun c_15 => by omega) (fun c_15 => ?_)
  refine st_iload_n C 3 dX10_route_18 rfl rfl ?_
  refine st_aload_n C 0 dX10_route_19 rfl rfl ?_
  refine st_getf C dX10_route_20 fl_X10_44 hs rfl ?_
  refine st_getf C dX10_route_23 fl_X10_213 hH6 rfl ?_
  have b_26 : 0 ≤ v9 ∧ v9 ≤ nw := by omega
  refine st_callS (st := []) C dX10_route_26 [vI v9, vI nw] (k_isWithin_t (v9 := v9) (m9 := nw)  b_26) w_X10_118 rfl (by decide) (by decide) (by omega) (by omega) (Nat.le_of_ble_eq_true rfl) (ko_rt ?_)
  show T x 29 [(0, vR 0), (1, vI f9), (2, vI o9), (3, vI v9)] [vI 1] _ _ _
  refine st_if_eq (tgt := 36) C dX10_route_29 (by decide) (fun c_29 => by omega) (fun c_29 => ?_)
  refine st_iconst C dX10_route_32 (by decide) ?_
  refine st_goto (tgt := 37) C dX10_route_33 (by decide) ?_
  refine st_callS (st := []) C dX10_route_37 [vI 1] k_need_t w_X10_81 rfl (by decide) (by decide) (by omega) (by omega) (Nat.le_of_ble_eq_true rfl) (ko_rn ?_)
  show T x 40 [(0, vR 0), (1, vI f9), (2, vI o9), (3, vI v9)] [] _ _ _
  refine st_aload_n C 0 dX10_route_40 rfl rfl ?_
  refine st_getf C dX10_route_41 fl_X10_44 hs rfl ?_
  refine st_iload_n C 3 dX10_route_44 rfl rfl ?_
  refine st_aload_n C 0 dX10_route_45 rfl rfl ?_
  refine st_getf C dX10_route_46 fl_X10_13 hs rfl ?_
  refine st_callV (st := []) C dX10_route_49 [vI v9, vR 2] (k_writeAt (nw := nw) (mcn := mcn) (sf := stf) (sv := sv) (v9 := v9) (tf := t2) hH.1 hnw (by omega) hT (by omega) (by omega) (by omega)) hH6 w_X10_194 rfl (by decide) (by decide) (by omega) (by omega) (Nat.le_of_ble_eq_true rfl) (ko_rn ?_)
  show T x 52 [(0, vR 0), (1, vI f9), (2, vI o9), (3, vI v9)] [] (hput h 2 (oI 304 (fmix (fun s => vA sv s v9) t2 304))) _ _
  refine st_aload_n C 0 dX10_route_52 rfl rfl ?_
  refine st_getf C dX10_route_53 fl_X10_65 (hput_o (by omega) hs) rfl ?_
  refine st_aload_n C 0 dX10_route_56 rfl rfl ?_
  refine st_getf C dX10_route_57 fl_X10_13 (hput_o (by omega) hs) rfl ?_
  refine st_iconst C dX10_route_60 (by decide) ?_
  refine st_iload_n C 1 dX10_route_61 rfl rfl ?_
  refine st_callV (st := []) C dX10_route_62 [vR 2, vI (-1), vI f9] (k_spread_r (rf := (fmix (fun s => vA sv s v9) t2 304)) (p9 := f9) (hput_o (by omega) hx9) (hput_o (by omega) hx14) (hput_o (by omega) hx15) (by omega) (by omega) (by omega) hput_s (by omega) (by omega) (by omega)) (hput_o (by omega) hx9) w_X10_225 rfl (by decide) (by decide) (by omega) (by omega) (Nat.le_of_ble_eq_true rfl) (ko_rs (fun qz4 sz4 hD4 => ?_))
  show T x 65 [(0, vR 0), (1, vI f9), (2, vI o9), (3, vI v9)] [vI (cnt (Reach (fun a b => RoadB (fmix (fun s => vA sv s v9) t2 304) a b) f9) 64)] _ _ _
  refine st_pop C dX10_route_65 rfl ?_
  refine st_aload_n C 0 dX10_route_66 rfl rfl ?_
  refine st_getf C dX10_route_67 fl_X10_65 (sc_o (by omega) (by omega) (hput_o (by omega) hs)) rfl ?_
  refine st_iload_n C 2 dX10_route_70 rfl rfl ?_
  refine st_callV (st := []) C dX10_route_71 [vI o9] (k_stepsTo (s0 := sz4) (p9 := o9) (sc_o (by omega) (by omega) (hput_o (by omega) hx9)) sc_S (by omega)) (sc_o (by omega) (by omega) (hput_o (by omega) hx9)) w_X10_229 rfl (by decide) (by decide) (by omega) (by omega) (Nat.le_of_ble_eq_true rfl) (ko_rt ?_)
  show T x 74 [(0, vR 0), (1, vI f9), (2, vI o9), (3, vI v9)] [vI (sz4 o9)] _ _ _
  refine st_istore C dX10_route_74 (by decide) rfl ?_
  show T x 76 [(0, vR 0), (1, vI f9), (2, vI o9), (3, vI v9), (4, vI (sz4 o9))] [] _ _ _
  refine st_iload C dX10_route_76 rfl ?_
  refine st_iconst C dX10_route_78 (by decide) ?_
  refine st_icmp_ne (tgt := 90) C dX10_route_79 (by decide) (fun c_79 => ?_) (fun c_79 => ?_)
  · refine st_iload C dX10_route_90 rfl ?_
    exact st_ireturn C F dX10_route_92 rfl (by rcases hD4 o9 (by omega) (by omega) with z | ⟨n, z1, z2, z3⟩; exact absurd ⟨d9, hQ.1⟩ z.2; have e1 := z3 d9 hQ.1; have e2 := hQ.2 n z2; have e3 : n = d9 := (by omega); subst e3; first | exact ⟨by rw [z1], qz4, sz4, rfl⟩ | (exfalso; omega)) (by omega) (by omega)
  · exact st_throw C F dX10_route_82 dX10_route_85 dX10_route_86 dX10_route_89 xw_X10_154 (by decide) (by rcases hD4 o9 (by omega) (by omega) with z | ⟨n, z1, z2, z3⟩; exact absurd ⟨d9, hQ.1⟩ z.2; have e1 := z3 d9 hQ.1; have e2 := hQ.2 n z2; have e3 : n = d9 := (by omega); subst e3; first | exact ⟨by rw [z1], qz4, sz4, rfl⟩ | (exfalso; omega)) (by omega) (by omega)
set_option maxRecDepth 20000 in
set_option maxHeartbeats 4000000 in
theorem k_rulesHold {g : Gx} {h : HP} {rc dc : Int} {mf : Int → Int} {rk ra rb : Int → Int} {rn : Int → Nat} (hs : cS h rc dc) (hM : cM h mf) (hR : cR h rc rk ra rb rn) (hrc : 0 ≤ rc ∧ rc ≤ 6) (hok : ∀ i, 0 ≤ i → i < rc → RuleOk (rk i) (ra i) (rb i)) (hP9 : cP h) (hv : ∀ s, 0 ≤ s → s < 192 → 0 ≤ mf s ∧ mf s ≤ 9) (hall : ∀ i, 0 ≤ i → i < rc → RuleHolds (rk i) (ra i) (rb i) mf) : Ct g yX10_rulesHoldByPairs (.code yX10_rulesHoldByPairs cX10_rulesHoldByPairs 3 (some .boolean)) 6 0 0 [vR 0] h (RtG (some (vI 1)) h 16 (fun _ => True)) := by
  refine Ct.of (by decide) (Nat.le_of_ble_eq_true rfl) (fun x hg C F => ?_)
  subst hg
  obtain ⟨ruf, hrf, hrr⟩ := id hR
  obtain ⟨hp10, ga, hp16⟩ := id hP9
  show T x 0 [(0, vR 0)] [] h 0 0
  refine st_iconst C dX10_rulesHoldByPairs_0 (by decide) ?_
  refine st_istore_n C 1 dX10_rulesHoldByPairs_1 rfl (by decide) rfl ?_
  show T x 2 [(0, vR 0), (1, vI 0)] [] _ _ _
  have loop_2 : ∀ (n_2 : Nat) (g1f : Int → Int) (i : Int) (h1 : HP), (0 ≤ i) → (i ≤ rc) → (h1 = hput h 16 (oI 64 g1f)) → (rc - i).toNat < n_2 → T x 2 [(0, vR 0), (1, vI i)] [] h1 0 0 := by
    intro n_2
    induction n_2 with
    | zero => intro g1f i h1 g1 g2 hh hm_2; exact absurd hm_2 (Nat.not_lt_zero _)
    | succ n_2 ih_2 =>
      intro g1f i h1 g1 g2 hh hm_2
      refine st_iload_n C 1 dX10_rulesHoldByPairs_2 rfl rfl ?_
      refine st_aload_n C 0 dX10_rulesHoldByPairs_3 rfl rfl ?_
      refine st_getf C dX10_rulesHoldByPairs_4 fl_X10_22 (by rw [hh]; exact hput_o (by omega) hs) rfl ?_
      refine st_icmp_ge (tgt := 50) C dX10_rulesHoldByPairs_7 (by decide) (fun c_7 => ?_) (fun c_7 => ?_)
      · refine st_iconst C dX10_rulesHoldByPairs_50 (by decide) ?_
        exact st_zreturn C F dX10_rulesHoldByPairs_51 rfl (by omega) ⟨g1f, rfl, hh, trivial⟩ (by omega) (by omega)
      · refine st_iload_n C 1 dX10_rulesHoldByPairs_10 rfl rfl ?_
        refine st_bipush C dX10_rulesHoldByPairs_11 (by decide) (by decide) ?_
        refine st_icmp_ge (tgt := 50) C dX10_rulesHoldByPairs_13 (by decide) (fun c_13 => by omega) (fun c_13 => ?_)
        refine st_aload_n C 0 dX10_rulesHoldByPairs_16 rfl rfl ?_
        refine st_getf C dX10_rulesHoldByPairs_17 fl_X10_18 (by rw [hh]; exact hput_o (by omega) hs) rfl ?_
        refine st_iload_n C 1 dX10_rulesHoldByPairs_20 rfl rfl ?_
        refine st_aald C dX10_rulesHoldByPairs_21 RX5 (fun _ => rfl) (by rw [hh]; exact hput_o (by omega) hrf) (by omega) (by omega) ?_
        obtain ⟨u1, u2, u3⟩ := hrr i (by omega) (by omega)
        rw [u1]
        show T x 22 [(0, vR 0), (1, vI i)] [vR (rn i)] _ _ _
        refine st_astore_n C 2 dX10_rulesHoldByPairs_22 rfl (by decide) rfl ?_
        show T x 23 [(0, vR 0), (1, vI i), (2, vR (rn i))] [] _ _ _
        refine st_aload_n C 2 dX10_rulesHoldByPairs_23 rfl rfl ?_
        refine st_ifnull_r C dX10_rulesHoldByPairs_24 ?_
        refine st_aload_n C 0 dX10_rulesHoldByPairs_27 rfl rfl ?_
        refine st_getf C dX10_rulesHoldByPairs_28 fl_X10_72 (by rw [hh]; exact hput_o (by omega) hs) rfl ?_
        refine st_aload_n C 2 dX10_rulesHoldByPairs_31 rfl rfl ?_
        refine st_aload_n C 0 dX10_rulesHoldByPairs_32 rfl rfl ?_
        refine st_getf C dX10_rulesHoldByPairs_33 fl_X10_9 (by rw [hh]; exact hput_o (by omega) hs) rfl ?_
        refine st_callV (st := []) C dX10_rulesHoldByPairs_36 [vR (rn i), vR 1] (k_pHolds (k9 := rk i) (a9 := ra i) (b9 := rb i) (rf := mf) (gf := g1f) (by rw [hh]; exact hput_o (by omega) hp10) (by rw [hh]; exact hput_s) (by omega) (by rw [hh]; exact hput_o (by omega) u3) (by rw [hh]; exact hput_o (by omega) hM) (by omega) (by omega) hv (hok i (by omega) (by omega)) (hall i (by omega) (by omega))) (by rw [hh]; exact hput_o (by omega) hp10) w_X10_315 rfl (by decide) (by decide) (by omega) (by omega) (Nat.le_of_ble_eq_true rfl) (ko_rg (fun gq _ => ?_))
        show T x 39 [(0, vR 0), (1, vI i), (2, vR (rn i))] [vI 1] _ _ _
        refine st_if_ne (tgt := 44) C dX10_rulesHoldByPairs_39 (by decide) (fun c_39 => ?_) (fun c_39 => by omega)
        refine st_iinc C dX10_rulesHoldByPairs_44 rfl (by decide) rfl ⟨(by omega), (by omega)⟩ ?_
        show T x 47 [(0, vR 0), (1, vI (i + 1)), (2, vR (rn i))] [] _ _ _
        refine st_goto (tgt := 2) C dX10_rulesHoldByPairs_47 (by decide) ?_
        refine st_sub [0, 1] rfl ?_
        exact ih_2 gq (i + 1) (hput h1 16 (oI 64 gq)) (by omega) (by omega) (by rw [hh, hput_hput]) (by omega)
  exact loop_2 _ ga 0 h (by omega) (by omega) ((hput_self hp16).symm) (Nat.lt_succ_self _)
set_option maxRecDepth 20000 in
set_option maxHeartbeats 4000000 in
theorem k_branchesSound {g : Gx} {h : HP} {rc dc : Int} {op : Int → Int} {bs ed co no : Int → Int → Int} (hs : cS h rc dc) (hB : cB h op bs ed co no) (hid : ∀ i, 0 ≤ i → i ≤ 3 → op i = 1 → ∀ j, 0 ≤ j → j < 304 → ed i j ≠ -1 → ed i j ≠ bs i j) : Ct g yX10_branchesAreSound (.code yX10_branchesAreSound cX10_branchesAreSound 3 (some .boolean)) 2 0 0 [vR 0] h (Rt (some (vI 1)) h) := by
  refine Ct.of (by decide) (Nat.le_of_ble_eq_true rfl) (fun x hg C F => ?_)
  subst hg
  obtain ⟨bf, hbf, hbr⟩ := id hB
  obtain ⟨hbn0, h0_0, h0_1, h0_2, h0_3, h0_4, hop0⟩ := hbr 0 (by omega) (by omega)
  obtain ⟨hbn1, h1_0, h1_1, h1_2, h1_3, h1_4, hop1⟩ := hbr 1 (by omega) (by omega)
  obtain ⟨hbn2, h2_0, h2_1, h2_2, h2_3, h2_4, hop2⟩ := hbr 2 (by omega) (by omega)
  obtain ⟨hbn3, h3_0, h3_1, h3_2, h3_3, h3_4, hop3⟩ := hbr 3 (by omega) (by omega)
  show T x 0 [(0, vR 0)] [] h 0 0
  refine st_iconst C dX10_branchesAreSound_0 (by decide) ?_
  refine st_istore_n C 1 dX10_branchesAreSound_1 rfl (by decide) rfl ?_
  show T x 2 [(0, vR 0), (1, vI 0)] [] _ _ _
  refine st_iload_n C 1 dX10_branchesAreSound_2 rfl rfl ?_
  refine st_iconst C dX10_branchesAreSound_3 (by decide) ?_
  refine st_icmp_ge (tgt := 40) C dX10_branchesAreSound_4 (by decide) (fun c_4 => by omega) (fun c_4 => ?_)
  refine st_aload_n C 0 dX10_branchesAreSound_7 rfl rfl ?_
  refine st_getf C dX10_branchesAreSound_8 fl_X10_28 hs rfl ?_
  refine st_iload_n C 1 dX10_branchesAreSound_11 rfl rfl ?_
  refine st_aald C dX10_branchesAreSound_12 RX0 (fun _ => rfl) hbf (by omega) (by omega) ?_
  rw [hbn0]
  show T x 13 [(0, vR 0), (1, vI 0)] [vR (brN 0)] _ _ _
  refine st_astore_n C 2 dX10_branchesAreSound_13 rfl (by decide) rfl ?_
  show T x 14 [(0, vR 0), (1, vI 0), (2, vR (brN 0))] [] _ _ _
  refine st_aload_n C 2 dX10_branchesAreSound_14 rfl rfl ?_
  refine st_ifnull_r C dX10_branchesAreSound_15 ?_
  refine st_aload_n C 2 dX10_branchesAreSound_18 rfl rfl ?_
  refine st_getf C dX10_branchesAreSound_19 fl_X10_98 h0_0 rfl ?_
  refine st_if_eq (tgt := 34) C dX10_branchesAreSound_22 (by decide) (fun c_22 => ?_) (fun c_22 => ?_)
  · refine st_iinc C dX10_branchesAreSound_34 rfl (by decide) rfl ⟨(by omega), (by omega)⟩ ?_
    show T x 37 [(0, vR 0), (1, vI 1), (2, vR (brN 0))] [] _ _ _
    refine st_goto (tgt := 2) C dX10_branchesAreSound_37 (by decide) ?_
    refine st_iload_n C 1 dX10_branchesAreSound_2 rfl rfl ?_
    refine st_iconst C dX10_branchesAreSound_3 (by decide) ?_
    refine st_icmp_ge (tgt := 40) C dX10_branchesAreSound_4 (by decide) (fun c_4 => by omega) (fun c_4 => ?_)
    refine st_aload_n C 0 dX10_branchesAreSound_7 rfl rfl ?_
    refine st_getf C dX10_branchesAreSound_8 fl_X10_28 hs rfl ?_
    refine st_iload_n C 1 dX10_branchesAreSound_11 rfl rfl ?_
    refine st_aald C dX10_branchesAreSound_12 RX0 (fun _ => rfl) hbf (by omega) (by omega) ?_
    rw [hbn1]
    show T x 13 [(0, vR 0), (1, vI 1), (2, vR (brN 0))] [vR (brN 1)] _ _ _
    refine st_astore_n C 2 dX10_branchesAreSound_13 rfl (by decide) rfl ?_
    show T x 14 [(0, vR 0), (1, vI 1), (2, vR (brN 1))] [] _ _ _
    refine st_aload_n C 2 dX10_branchesAreSound_14 rfl rfl ?_
    refine st_ifnull_r C dX10_branchesAreSound_15 ?_
    refine st_aload_n C 2 dX10_branchesAreSound_18 rfl rfl ?_
    refine st_getf C dX10_branchesAreSound_19 fl_X10_98 h1_0 rfl ?_
    refine st_if_eq (tgt := 34) C dX10_branchesAreSound_22 (by decide) (fun c_22 => ?_) (fun c_22 => ?_)
    · refine st_iinc C dX10_branchesAreSound_34 rfl (by decide) rfl ⟨(by omega), (by omega)⟩ ?_
      show T x 37 [(0, vR 0), (1, vI 2), (2, vR (brN 1))] [] _ _ _
      refine st_goto (tgt := 2) C dX10_branchesAreSound_37 (by decide) ?_
      refine st_iload_n C 1 dX10_branchesAreSound_2 rfl rfl ?_
      refine st_iconst C dX10_branchesAreSound_3 (by decide) ?_
      refine st_icmp_ge (tgt := 40) C dX10_branchesAreSound_4 (by decide) (fun c_4 => by omega) (fun c_4 => ?_)
      refine st_aload_n C 0 dX10_branchesAreSound_7 rfl rfl ?_
      refine st_getf C dX10_branchesAreSound_8 fl_X10_28 hs rfl ?_
      refine st_iload_n C 1 dX10_branchesAreSound_11 rfl rfl ?_
      refine st_aald C dX10_branchesAreSound_12 RX0 (fun _ => rfl) hbf (by omega) (by omega) ?_
      rw [hbn2]
      show T x 13 [(0, vR 0), (1, vI 2), (2, vR (brN 1))] [vR (brN 2)] _ _ _
      refine st_astore_n C 2 dX10_branchesAreSound_13 rfl (by decide) rfl ?_
      show T x 14 [(0, vR 0), (1, vI 2), (2, vR (brN 2))] [] _ _ _
      refine st_aload_n C 2 dX10_branchesAreSound_14 rfl rfl ?_
      refine st_ifnull_r C dX10_branchesAreSound_15 ?_
      refine st_aload_n C 2 dX10_branchesAreSound_18 rfl rfl ?_
      refine st_getf C dX10_branchesAreSound_19 fl_X10_98 h2_0 rfl ?_
      refine st_if_eq (tgt := 34) C dX10_branchesAreSound_22 (by decide) (fun c_22 => ?_) (fun c_22 => ?_)
      · refine st_iinc C dX10_branchesAreSound_34 rfl (by decide) rfl ⟨(by omega), (by omega)⟩ ?_
        show T x 37 [(0, vR 0), (1, vI 3), (2, vR (brN 2))] [] _ _ _
        refine st_goto (tgt := 2) C dX10_branchesAreSound_37 (by decide) ?_
        refine st_iload_n C 1 dX10_branchesAreSound_2 rfl rfl ?_
        refine st_iconst C dX10_branchesAreSound_3 (by decide) ?_
        refine st_icmp_ge (tgt := 40) C dX10_branchesAreSound_4 (by decide) (fun c_4 => by omega) (fun c_4 => ?_)
        refine st_aload_n C 0 dX10_branchesAreSound_7 rfl rfl ?_
        refine st_getf C dX10_branchesAreSound_8 fl_X10_28 hs rfl ?_
        refine st_iload_n C 1 dX10_branchesAreSound_11 rfl rfl ?_
        refine st_aald C dX10_branchesAreSound_12 RX0 (fun _ => rfl) hbf (by omega) (by omega) ?_
        rw [hbn3]
        show T x 13 [(0, vR 0), (1, vI 3), (2, vR (brN 2))] [vR (brN 3)] _ _ _
        refine st_astore_n C 2 dX10_branchesAreSound_13 rfl (by decide) rfl ?_
        show T x 14 [(0, vR 0), (1, vI 3), (2, vR (brN 3))] [] _ _ _
        refine st_aload_n C 2 dX10_branchesAreSound_14 rfl rfl ?_
        refine st_ifnull_r C dX10_branchesAreSound_15 ?_
        refine st_aload_n C 2 dX10_branchesAreSound_18 rfl rfl ?_
        refine st_getf C dX10_branchesAreSound_19 fl_X10_98 h3_0 rfl ?_
        refine st_if_eq (tgt := 34) C dX10_branchesAreSound_22 (by decide) (fun c_22 => ?_) (fun c_22 => ?_)
        · refine st_iinc C dX10_branchesAreSound_34 rfl (by decide) rfl ⟨(by omega), (by omega)⟩ ?_
          show T x 37 [(0, vR 0), (1, vI 4), (2, vR (brN 3))] [] _ _ _
          refine st_goto (tgt := 2) C dX10_branchesAreSound_37 (by decide) ?_
          refine st_iload_n C 1 dX10_branchesAreSound_2 rfl rfl ?_
          refine st_iconst C dX10_branchesAreSound_3 (by decide) ?_
          refine st_icmp_ge (tgt := 40) C dX10_branchesAreSound_4 (by decide) (fun c_4 => ?_) (fun c_4 => by omega)
          refine st_iconst C dX10_branchesAreSound_40 (by decide) ?_
          exact st_zreturn C F dX10_branchesAreSound_41 rfl (by omega) ⟨rfl, rfl⟩ (by omega) (by omega)
        · refine st_aload_n C 2 dX10_branchesAreSound_25 rfl rfl ?_
          refine st_callV (st := []) C dX10_branchesAreSound_26 [] (k_hasIdleEdit_f (b := (brN 3)) (op := (op 3)) (bs := (bs 3)) (ed := (ed 3)) (co := (co 3)) (no := (no 3)) h3_0 h3_1 h3_2 h3_3 h3_4 (hid 3 (by omega) (by omega) (by omega))) h3_0 w_X10_318 rfl (by decide) (by decide) (by omega) (by omega) (Nat.le_of_ble_eq_true rfl) (ko_rt ?_)
          show T x 29 [(0, vR 0), (1, vI 3), (2, vR (brN 3))] [vI 0] _ _ _
          refine st_if_eq (tgt := 34) C dX10_branchesAreSound_29 (by decide) (fun c_29 => ?_) (fun c_29 => by omega)
          refine st_iinc C dX10_branchesAreSound_34 rfl (by decide) rfl ⟨(by omega), (by omega)⟩ ?_
          show T x 37 [(0, vR 0), (1, vI 4), (2, vR (brN 3))] [] _ _ _
          refine st_goto (tgt := 2) C dX10_branchesAreSound_37 (by decide) ?_
          refine st_iload_n C 1 dX10_branchesAreSound_2 rfl rfl ?_
          refine st_iconst C dX10_branchesAreSound_3 (by decide) ?_
          refine st_icmp_ge (tgt := 40) C dX10_branchesAreSound_4 (by decide) (fun c_4 => ?_) (fun c_4 => by omega)
          refine st_iconst C dX10_branchesAreSound_40 (by decide) ?_
          exact st_zreturn C F dX10_branchesAreSound_41 rfl (by omega) ⟨rfl, rfl⟩ (by omega) (by omega)
      · refine st_aload_n C 2 dX10_branchesAreSound_25 rfl rfl ?_
        refine st_callV (st := []) C dX10_branchesAreSound_26 [] (k_hasIdleEdit_f (b := (brN 2)) (op := (op 2)) (bs := (bs 2)) (ed := (ed 2)) (co := (co 2)) (no := (no 2)) h2_0 h2_1 h2_2 h2_3 h2_4 (hid 2 (by omega) (by omega) (by omega))) h2_0 w_X10_318 rfl (by decide) (by decide) (by omega) (by omega) (Nat.le_of_ble_eq_true rfl) (ko_rt ?_)
        show T x 29 [(0, vR 0), (1, vI 2), (2, vR (brN 2))] [vI 0] _ _ _
        refine st_if_eq (tgt := 34) C dX10_branchesAreSound_29 (by decide) (fun c_29 => ?_) (fun c_29 => by omega)
        refine st_iinc C dX10_branchesAreSound_34 rfl (by decide) rfl ⟨(by omega), (by omega)⟩ ?_
        show T x 37 [(0, vR 0), (1, vI 3), (2, vR (brN 2))] [] _ _ _
        refine st_goto (tgt := 2) C dX10_branchesAreSound_37 (by decide) ?_
        refine st_iload_n C 1 dX10_branchesAreSound_2 rfl rfl ?_
        refine st_iconst C dX10_branchesAreSound_3 (by decide) ?_
        refine st_icmp_ge (tgt := 40) C dX10_branchesAreSound_4 (by decide) (fun c_4 => by omega) (fun c_4 => ?_)
        refine st_aload_n C 0 dX10_branchesAreSound_7 rfl rfl ?_
        refine st_getf C dX10_branchesAreSound_8 fl_X10_28 hs rfl ?_
        refine st_iload_n C 1 dX10_branchesAreSound_11 rfl rfl ?_
        refine st_aald C dX10_branchesAreSound_12 RX0 (fun _ => rfl) hbf (by omega) (by omega) ?_
        rw [hbn3]
        show T x 13 [(0, vR 0), (1, vI 3), (2, vR (brN 2))] [vR (brN 3)] _ _ _
        refine st_astore_n C 2 dX10_branchesAreSound_13 rfl (by decide) rfl ?_
        show T x 14 [(0, vR 0), (1, vI 3), (2, vR (brN 3))] [] _ _ _
        refine st_aload_n C 2 dX10_branchesAreSound_14 rfl rfl ?_
        refine st_ifnull_r C dX10_branchesAreSound_15 ?_
        refine st_aload_n C 2 dX10_branchesAreSound_18 rfl rfl ?_
        refine st_getf C dX10_branchesAreSound_19 fl_X10_98 h3_0 rfl ?_
        refine st_if_eq (tgt := 34) C dX10_branchesAreSound_22 (by decide) (fun c_22 => ?_) (fun c_22 => ?_)
        · refine st_iinc C dX10_branchesAreSound_34 rfl (by decide) rfl ⟨(by omega), (by omega)⟩ ?_
          show T x 37 [(0, vR 0), (1, vI 4), (2, vR (brN 3))] [] _ _ _
          refine st_goto (tgt := 2) C dX10_branchesAreSound_37 (by decide) ?_
          refine st_iload_n C 1 dX10_branchesAreSound_2 rfl rfl ?_
          refine st_iconst C dX10_branchesAreSound_3 (by decide) ?_
          refine st_icmp_ge (tgt := 40) C dX10_branchesAreSound_4 (by decide) (fun c_4 => ?_) (fun c_4 => by omega)
          refine st_iconst C dX10_branchesAreSound_40 (by decide) ?_
          exact st_zreturn C F dX10_branchesAreSound_41 rfl (by omega) ⟨rfl, rfl⟩ (by omega) (by omega)
        · refine st_aload_n C 2 dX10_branchesAreSound_25 rfl rfl ?_
          refine st_callV (st := []) C dX10_branchesAreSound_26 [] (k_hasIdleEdit_f (b := (brN 3)) (op := (op 3)) (bs := (bs 3)) (ed := (ed 3)) (co := (co 3)) (no := (no 3)) h3_0 h3_1 h3_2 h3_3 h3_4 (hid 3 (by omega) (by omega) (by omega))) h3_0 w_X10_318 rfl (by decide) (by decide) (by omega) (by omega) (Nat.le_of_ble_eq_true rfl) (ko_rt ?_)
          show T x 29 [(0, vR 0), (1, vI 3), (2, vR (brN 3))] [vI 0] _ _ _
          refine st_if_eq (tgt := 34) C dX10_branchesAreSound_29 (by decide) (fun c_29 => ?_) (fun c_29 => by omega)
          refine st_iinc C dX10_branchesAreSound_34 rfl (by decide) rfl ⟨(by omega), (by omega)⟩ ?_
          show T x 37 [(0, vR 0), (1, vI 4), (2, vR (brN 3))] [] _ _ _
          refine st_goto (tgt := 2) C dX10_branchesAreSound_37 (by decide) ?_
          refine st_iload_n C 1 dX10_branchesAreSound_2 rfl rfl ?_
          refine st_iconst C dX10_branchesAreSound_3 (by decide) ?_
          refine st_icmp_ge (tgt := 40) C dX10_branchesAreSound_4 (by decide) (fun c_4 => ?_) (fun c_4 => by omega)
          refine st_iconst C dX10_branchesAreSound_40 (by decide) ?_
          exact st_zreturn C F dX10_branchesAreSound_41 rfl (by omega) ⟨rfl, rfl⟩ (by omega) (by omega)
    · refine st_aload_n C 2 dX10_branchesAreSound_25 rfl rfl ?_
      refine st_callV (st := []) C dX10_branchesAreSound_26 [] (k_hasIdleEdit_f (b := (brN 1)) (op := (op 1)) (bs := (bs 1)) (ed := (ed 1)) (co := (co 1)) (no := (no 1)) h1_0 h1_1 h1_2 h1_3 h1_4 (hid 1 (by omega) (by omega) (by omega))) h1_0 w_X10_318 rfl (by decide) (by decide) (by omega) (by omega) (Nat.le_of_ble_eq_true rfl) (ko_rt ?_)
      show T x 29 [(0, vR 0), (1, vI 1), (2, vR (brN 1))] [vI 0] _ _ _
      refine st_if_eq (tgt := 34) C dX10_branchesAreSound_29 (by decide) (fun c_29 => ?_) (fun c_29 => by omega)
      refine st_iinc C dX10_branchesAreSound_34 rfl (by decide) rfl ⟨(by omega), (by omega)⟩ ?_
      show T x 37 [(0, vR 0), (1, vI 2), (2, vR (brN 1))] [] _ _ _
      refine st_goto (tgt := 2) C dX10_branchesAreSound_37 (by decide) ?_
      refine st_iload_n C 1 dX10_branchesAreSound_2 rfl rfl ?_
      refine st_iconst C dX10_branchesAreSound_3 (by decide) ?_
      refine st_icmp_ge (tgt := 40) C dX10_branchesAreSound_4 (by decide) (fun c_4 => by omega) (fun c_4 => ?_)
      refine st_aload_n C 0 dX10_branchesAreSound_7 rfl rfl ?_
      refine st_getf C dX10_branchesAreSound_8 fl_X10_28 hs rfl ?_
      refine st_iload_n C 1 dX10_branchesAreSound_11 rfl rfl ?_
      refine st_aald C dX10_branchesAreSound_12 RX0 (fun _ => rfl) hbf (by omega) (by omega) ?_
      rw [hbn2]
      show T x 13 [(0, vR 0), (1, vI 2), (2, vR (brN 1))] [vR (brN 2)] _ _ _
      refine st_astore_n C 2 dX10_branchesAreSound_13 rfl (by decide) rfl ?_
      show T x 14 [(0, vR 0), (1, vI 2), (2, vR (brN 2))] [] _ _ _
      refine st_aload_n C 2 dX10_branchesAreSound_14 rfl rfl ?_
      refine st_ifnull_r C dX10_branchesAreSound_15 ?_
      refine st_aload_n C 2 dX10_branchesAreSound_18 rfl rfl ?_
      refine st_getf C dX10_branchesAreSound_19 fl_X10_98 h2_0 rfl ?_
      refine st_if_eq (tgt := 34) C dX10_branchesAreSound_22 (by decide) (fun c_22 => ?_) (fun c_22 => ?_)
      · refine st_iinc C dX10_branchesAreSound_34 rfl (by decide) rfl ⟨(by omega), (by omega)⟩ ?_
        show T x 37 [(0, vR 0), (1, vI 3), (2, vR (brN 2))] [] _ _ _
        refine st_goto (tgt := 2) C dX10_branchesAreSound_37 (by decide) ?_
        refine st_iload_n C 1 dX10_branchesAreSound_2 rfl rfl ?_
        refine st_iconst C dX10_branchesAreSound_3 (by decide) ?_
        refine st_icmp_ge (tgt := 40) C dX10_branchesAreSound_4 (by decide) (fun c_4 => by omega) (fun c_4 => ?_)
        refine st_aload_n C 0 dX10_branchesAreSound_7 rfl rfl ?_
        refine st_getf C dX10_branchesAreSound_8 fl_X10_28 hs rfl ?_
        refine st_iload_n C 1 dX10_branchesAreSound_11 rfl rfl ?_
        refine st_aald C dX10_branchesAreSound_12 RX0 (fun _ => rfl) hbf (by omega) (by omega) ?_
        rw [hbn3]
        show T x 13 [(0, vR 0), (1, vI 3), (2, vR (brN 2))] [vR (brN 3)] _ _ _
        refine st_astore_n C 2 dX10_branchesAreSound_13 rfl (by decide) rfl ?_
        show T x 14 [(0, vR 0), (1, vI 3), (2, vR (brN 3))] [] _ _ _
        refine st_aload_n C 2 dX10_branchesAreSound_14 rfl rfl ?_
        refine st_ifnull_r C dX10_branchesAreSound_15 ?_
        refine st_aload_n C 2 dX10_branchesAreSound_18 rfl rfl ?_
        refine st_getf C dX10_branchesAreSound_19 fl_X10_98 h3_0 rfl ?_
        refine st_if_eq (tgt := 34) C dX10_branchesAreSound_22 (by decide) (fun c_22 => ?_) (fun c_22 => ?_)
        · refine st_iinc C dX10_branchesAreSound_34 rfl (by decide) rfl ⟨(by omega), (by omega)⟩ ?_
          show T x 37 [(0, vR 0), (1, vI 4), (2, vR (brN 3))] [] _ _ _
          refine st_goto (tgt := 2) C dX10_branchesAreSound_37 (by decide) ?_
          refine st_iload_n C 1 dX10_branchesAreSound_2 rfl rfl ?_
          refine st_iconst C dX10_branchesAreSound_3 (by decide) ?_
          refine st_icmp_ge (tgt := 40) C dX10_branchesAreSound_4 (by decide) (fun c_4 => ?_) (fun c_4 => by omega)
          refine st_iconst C dX10_branchesAreSound_40 (by decide) ?_
          exact st_zreturn C F dX10_branchesAreSound_41 rfl (by omega) ⟨rfl, rfl⟩ (by omega) (by omega)
        · refine st_aload_n C 2 dX10_branchesAreSound_25 rfl rfl ?_
          refine st_callV (st := []) C dX10_branchesAreSound_26 [] (k_hasIdleEdit_f (b := (brN 3)) (op := (op 3)) (bs := (bs 3)) (ed := (ed 3)) (co := (co 3)) (no := (no 3)) h3_0 h3_1 h3_2 h3_3 h3_4 (hid 3 (by omega) (by omega) (by omega))) h3_0 w_X10_318 rfl (by decide) (by decide) (by omega) (by omega) (Nat.le_of_ble_eq_true rfl) (ko_rt ?_)
          show T x 29 [(0, vR 0), (1, vI 3), (2, vR (brN 3))] [vI 0] _ _ _
          refine st_if_eq (tgt := 34) C dX10_branchesAreSound_29 (by decide) (fun c_29 => ?_) (fun c_29 => by omega)
          refine st_iinc C dX10_branchesAreSound_34 rfl (by decide) rfl ⟨(by omega), (by omega)⟩ ?_
          show T x 37 [(0, vR 0), (1, vI 4), (2, vR (brN 3))] [] _ _ _
          refine st_goto (tgt := 2) C dX10_branchesAreSound_37 (by decide) ?_
          refine st_iload_n C 1 dX10_branchesAreSound_2 rfl rfl ?_
          refine st_iconst C dX10_branchesAreSound_3 (by decide) ?_
          refine st_icmp_ge (tgt := 40) C dX10_branchesAreSound_4 (by decide) (fun c_4 => ?_) (fun c_4 => by omega)
          refine st_iconst C dX10_branchesAreSound_40 (by decide) ?_
          exact st_zreturn C F dX10_branchesAreSound_41 rfl (by omega) ⟨rfl, rfl⟩ (by omega) (by omega)
      · refine st_aload_n C 2 dX10_branchesAreSound_25 rfl rfl ?_
        refine st_callV (st := []) C dX10_branchesAreSound_26 [] (k_hasIdleEdit_f (b := (brN 2)) (op := (op 2)) (bs := (bs 2)) (ed := (ed 2)) (co := (co 2)) (no := (no 2)) h2_0 h2_1 h2_2 h2_3 h2_4 (hid 2 (by omega) (by omega) (by omega))) h2_0 w_X10_318 rfl (by decide) (by decide) (by omega) (by omega) (Nat.le_of_ble_eq_true rfl) (ko_rt ?_)
        show T x 29 [(0, vR 0), (1, vI 2), (2, vR (brN 2))] [vI 0] _ _ _
        refine st_if_eq (tgt := 34) C dX10_branchesAreSound_29 (by decide) (fun c_29 => ?_) (fun c_29 => by omega)
        refine st_iinc C dX10_branchesAreSound_34 rfl (by decide) rfl ⟨(by omega), (by omega)⟩ ?_
        show T x 37 [(0, vR 0), (1, vI 3), (2, vR (brN 2))] [] _ _ _
        refine st_goto (tgt := 2) C dX10_branchesAreSound_37 (by decide) ?_
        refine st_iload_n C 1 dX10_branchesAreSound_2 rfl rfl ?_
        refine st_iconst C dX10_branchesAreSound_3 (by decide) ?_
        refine st_icmp_ge (tgt := 40) C dX10_branchesAreSound_4 (by decide) (fun c_4 => by omega) (fun c_4 => ?_)
        refine st_aload_n C 0 dX10_branchesAreSound_7 rfl rfl ?_
        refine st_getf C dX10_branchesAreSound_8 fl_X10_28 hs rfl ?_
        refine st_iload_n C 1 dX10_branchesAreSound_11 rfl rfl ?_
        refine st_aald C dX10_branchesAreSound_12 RX0 (fun _ => rfl) hbf (by omega) (by omega) ?_
        rw [hbn3]
        show T x 13 [(0, vR 0), (1, vI 3), (2, vR (brN 2))] [vR (brN 3)] _ _ _
        refine st_astore_n C 2 dX10_branchesAreSound_13 rfl (by decide) rfl ?_
        show T x 14 [(0, vR 0), (1, vI 3), (2, vR (brN 3))] [] _ _ _
        refine st_aload_n C 2 dX10_branchesAreSound_14 rfl rfl ?_
        refine st_ifnull_r C dX10_branchesAreSound_15 ?_
        refine st_aload_n C 2 dX10_branchesAreSound_18 rfl rfl ?_
        refine st_getf C dX10_branchesAreSound_19 fl_X10_98 h3_0 rfl ?_
        refine st_if_eq (tgt := 34) C dX10_branchesAreSound_22 (by decide) (fun c_22 => ?_) (fun c_22 => ?_)
        · refine st_iinc C dX10_branchesAreSound_34 rfl (by decide) rfl ⟨(by omega), (by omega)⟩ ?_
          show T x 37 [(0, vR 0), (1, vI 4), (2, vR (brN 3))] [] _ _ _
          refine st_goto (tgt := 2) C dX10_branchesAreSound_37 (by decide) ?_
          refine st_iload_n C 1 dX10_branchesAreSound_2 rfl rfl ?_
          refine st_iconst C dX10_branchesAreSound_3 (by decide) ?_
          refine st_icmp_ge (tgt := 40) C dX10_branchesAreSound_4 (by decide) (fun c_4 => ?_) (fun c_4 => by omega)
          refine st_iconst C dX10_branchesAreSound_40 (by decide) ?_
          exact st_zreturn C F dX10_branchesAreSound_41 rfl (by omega) ⟨rfl, rfl⟩ (by omega) (by omega)
        · refine st_aload_n C 2 dX10_branchesAreSound_25 rfl rfl ?_
          refine st_callV (st := []) C dX10_branchesAreSound_26 [] (k_hasIdleEdit_f (b := (brN 3)) (op := (op 3)) (bs := (bs 3)) (ed := (ed 3)) (co := (co 3)) (no := (no 3)) h3_0 h3_1 h3_2 h3_3 h3_4 (hid 3 (by omega) (by omega) (by omega))) h3_0 w_X10_318 rfl (by decide) (by decide) (by omega) (by omega) (Nat.le_of_ble_eq_true rfl) (ko_rt ?_)
          show T x 29 [(0, vR 0), (1, vI 3), (2, vR (brN 3))] [vI 0] _ _ _
          refine st_if_eq (tgt := 34) C dX10_branchesAreSound_29 (by decide) (fun c_29 => ?_) (fun c_29 => by omega)
          refine st_iinc C dX10_branchesAreSound_34 rfl (by decide) rfl ⟨(by omega), (by omega)⟩ ?_
          show T x 37 [(0, vR 0), (1, vI 4), (2, vR (brN 3))] [] _ _ _
          refine st_goto (tgt := 2) C dX10_branchesAreSound_37 (by decide) ?_
          refine st_iload_n C 1 dX10_branchesAreSound_2 rfl rfl ?_
          refine st_iconst C dX10_branchesAreSound_3 (by decide) ?_
          refine st_icmp_ge (tgt := 40) C dX10_branchesAreSound_4 (by decide) (fun c_4 => ?_) (fun c_4 => by omega)
          refine st_iconst C dX10_branchesAreSound_40 (by decide) ?_
          exact st_zreturn C F dX10_branchesAreSound_41 rfl (by omega) ⟨rfl, rfl⟩ (by omega) (by omega)
  · refine st_aload_n C 2 dX10_branchesAreSound_25 rfl rfl ?_
    refine st_callV (st := []) C dX10_branchesAreSound_26 [] (k_hasIdleEdit_f (b := (brN 0)) (op := (op 0)) (bs := (bs 0)) (ed := (ed 0)) (co := (co 0)) (no := (no 0)) h0_0 h0_1 h0_2 h0_3 h0_4 (hid 0 (by omega) (by omega) (by omega))) h0_0 w_X10_318 rfl (by decide) (by decide) (by omega) (by omega) (Nat.le_of_ble_eq_true rfl) (ko_rt ?_)
    show T x 29 [(0, vR 0), (1, vI 0), (2, vR (brN 0))] [vI 0] _ _ _
    refine st_if_eq (tgt := 34) C dX10_branchesAreSound_29 (by decide) (fun c_29 => ?_) (fun c_29 => by omega)
    refine st_iinc C dX10_branchesAreSound_34 rfl (by decide) rfl ⟨(by omega), (by omega)⟩ ?_
    show T x 37 [(0, vR 0), (1, vI 1), (2, vR (brN 0))] [] _ _ _
    refine st_goto (tgt := 2) C dX10_branchesAreSound_37 (by decide) ?_
    refine st_iload_n C 1 dX10_branchesAreSound_2 rfl rfl ?_
    refine st_iconst C dX10_branchesAreSound_3 (by decide) ?_
    refine st_icmp_ge (tgt := 40) C dX10_branchesAreSound_4 (by decide) (fun c_4 => by omega) (fun c_4 => ?_)
    refine st_aload_n C 0 dX10_branchesAreSound_7 rfl rfl ?_
    refine st_getf C dX10_branchesAreSound_8 fl_X10_28 hs rfl ?_
    refine st_iload_n C 1 dX10_branchesAreSound_11 rfl rfl ?_
    refine st_aald C dX10_branchesAreSound_12 RX0 (fun _ => rfl) hbf (by omega) (by omega) ?_
    rw [hbn1]
    show T x 13 [(0, vR 0), (1, vI 1), (2, vR (brN 0))] [vR (brN 1)] _ _ _
    refine st_astore_n C 2 dX10_branchesAreSound_13 rfl (by decide) rfl ?_
    show T x 14 [(0, vR 0), (1, vI 1), (2, vR (brN 1))] [] _ _ _
    refine st_aload_n C 2 dX10_branchesAreSound_14 rfl rfl ?_
    refine st_ifnull_r C dX10_branchesAreSound_15 ?_
    refine st_aload_n C 2 dX10_branchesAreSound_18 rfl rfl ?_
    refine st_getf C dX10_branchesAreSound_19 fl_X10_98 h1_0 rfl ?_
    refine st_if_eq (tgt := 34) C dX10_branchesAreSound_22 (by decide) (fun c_22 => ?_) (fun c_22 => ?_)
    · refine st_iinc C dX10_branchesAreSound_34 rfl (by decide) rfl ⟨(by omega), (by omega)⟩ ?_
      show T x 37 [(0, vR 0), (1, vI 2), (2, vR (brN 1))] [] _ _ _
      refine st_goto (tgt := 2) C dX10_branchesAreSound_37 (by decide) ?_
      refine st_iload_n C 1 dX10_branchesAreSound_2 rfl rfl ?_
      refine st_iconst C dX10_branchesAreSound_3 (by decide) ?_
      refine st_icmp_ge (tgt := 40) C dX10_branchesAreSound_4 (by decide) (fun c_4 => by omega) (fun c_4 => ?_)
      refine st_aload_n C 0 dX10_branchesAreSound_7 rfl rfl ?_
      refine st_getf C dX10_branchesAreSound_8 fl_X10_28 hs rfl ?_
      refine st_iload_n C 1 dX10_branchesAreSound_11 rfl rfl ?_
      refine st_aald C dX10_branchesAreSound_12 RX0 (fun _ => rfl) hbf (by omega) (by omega) ?_
      rw [hbn2]
      show T x 13 [(0, vR 0), (1, vI 2), (2, vR (brN 1))] [vR (brN 2)] _ _ _
      refine st_astore_n C 2 dX10_branchesAreSound_13 rfl (by decide) rfl ?_
      show T x 14 [(0, vR 0), (1, vI 2), (2, vR (brN 2))] [] _ _ _
      refine st_aload_n C 2 dX10_branchesAreSound_14 rfl rfl ?_
      refine st_ifnull_r C dX10_branchesAreSound_15 ?_
      refine st_aload_n C 2 dX10_branchesAreSound_18 rfl rfl ?_
      refine st_getf C dX10_branchesAreSound_19 fl_X10_98 h2_0 rfl ?_
      refine st_if_eq (tgt := 34) C dX10_branchesAreSound_22 (by decide) (fun c_22 => ?_) (fun c_22 => ?_)
      · refine st_iinc C dX10_branchesAreSound_34 rfl (by decide) rfl ⟨(by omega), (by omega)⟩ ?_
        show T x 37 [(0, vR 0), (1, vI 3), (2, vR (brN 2))] [] _ _ _
        refine st_goto (tgt := 2) C dX10_branchesAreSound_37 (by decide) ?_
        refine st_iload_n C 1 dX10_branchesAreSound_2 rfl rfl ?_
        refine st_iconst C dX10_branchesAreSound_3 (by decide) ?_
        refine st_icmp_ge (tgt := 40) C dX10_branchesAreSound_4 (by decide) (fun c_4 => by omega) (fun c_4 => ?_)
        refine st_aload_n C 0 dX10_branchesAreSound_7 rfl rfl ?_
        refine st_getf C dX10_branchesAreSound_8 fl_X10_28 hs rfl ?_
        refine st_iload_n C 1 dX10_branchesAreSound_11 rfl rfl ?_
        refine st_aald C dX10_branchesAreSound_12 RX0 (fun _ => rfl) hbf (by omega) (by omega) ?_
        rw [hbn3]
        show T x 13 [(0, vR 0), (1, vI 3), (2, vR (brN 2))] [vR (brN 3)] _ _ _
        refine st_astore_n C 2 dX10_branchesAreSound_13 rfl (by decide) rfl ?_
        show T x 14 [(0, vR 0), (1, vI 3), (2, vR (brN 3))] [] _ _ _
        refine st_aload_n C 2 dX10_branchesAreSound_14 rfl rfl ?_
        refine st_ifnull_r C dX10_branchesAreSound_15 ?_
        refine st_aload_n C 2 dX10_branchesAreSound_18 rfl rfl ?_
        refine st_getf C dX10_branchesAreSound_19 fl_X10_98 h3_0 rfl ?_
        refine st_if_eq (tgt := 34) C dX10_branchesAreSound_22 (by decide) (fun c_22 => ?_) (fun c_22 => ?_)
        · refine st_iinc C dX10_branchesAreSound_34 rfl (by decide) rfl ⟨(by omega), (by omega)⟩ ?_
          show T x 37 [(0, vR 0), (1, vI 4), (2, vR (brN 3))] [] _ _ _
          refine st_goto (tgt := 2) C dX10_branchesAreSound_37 (by decide) ?_
          refine st_iload_n C 1 dX10_branchesAreSound_2 rfl rfl ?_
          refine st_iconst C dX10_branchesAreSound_3 (by decide) ?_
          refine st_icmp_ge (tgt := 40) C dX10_branchesAreSound_4 (by decide) (fun c_4 => ?_) (fun c_4 => by omega)
          refine st_iconst C dX10_branchesAreSound_40 (by decide) ?_
          exact st_zreturn C F dX10_branchesAreSound_41 rfl (by omega) ⟨rfl, rfl⟩ (by omega) (by omega)
        · refine st_aload_n C 2 dX10_branchesAreSound_25 rfl rfl ?_
          refine st_callV (st := []) C dX10_branchesAreSound_26 [] (k_hasIdleEdit_f (b := (brN 3)) (op := (op 3)) (bs := (bs 3)) (ed := (ed 3)) (co := (co 3)) (no := (no 3)) h3_0 h3_1 h3_2 h3_3 h3_4 (hid 3 (by omega) (by omega) (by omega))) h3_0 w_X10_318 rfl (by decide) (by decide) (by omega) (by omega) (Nat.le_of_ble_eq_true rfl) (ko_rt ?_)
          show T x 29 [(0, vR 0), (1, vI 3), (2, vR (brN 3))] [vI 0] _ _ _
          refine st_if_eq (tgt := 34) C dX10_branchesAreSound_29 (by decide) (fun c_29 => ?_) (fun c_29 => by omega)
          refine st_iinc C dX10_branchesAreSound_34 rfl (by decide) rfl ⟨(by omega), (by omega)⟩ ?_
          show T x 37 [(0, vR 0), (1, vI 4), (2, vR (brN 3))] [] _ _ _
          refine st_goto (tgt := 2) C dX10_branchesAreSound_37 (by decide) ?_
          refine st_iload_n C 1 dX10_branchesAreSound_2 rfl rfl ?_
          refine st_iconst C dX10_branchesAreSound_3 (by decide) ?_
          refine st_icmp_ge (tgt := 40) C dX10_branchesAreSound_4 (by decide) (fun c_4 => ?_) (fun c_4 => by omega)
          refine st_iconst C dX10_branchesAreSound_40 (by decide) ?_
          exact st_zreturn C F dX10_branchesAreSound_41 rfl (by omega) ⟨rfl, rfl⟩ (by omega) (by omega)
      · refine st_aload_n C 2 dX10_branchesAreSound_25 rfl rfl ?_
        refine st_callV (st := []) C dX10_branchesAreSound_26 [] (k_hasIdleEdit_f (b := (brN 2)) (op := (op 2)) (bs := (bs 2)) (ed := (ed 2)) (co := (co 2)) (no := (no 2)) h2_0 h2_1 h2_2 h2_3 h2_4 (hid 2 (by omega) (by omega) (by omega))) h2_0 w_X10_318 rfl (by decide) (by decide) (by omega) (by omega) (Nat.le_of_ble_eq_true rfl) (ko_rt ?_)
        show T x 29 [(0, vR 0), (1, vI 2), (2, vR (brN 2))] [vI 0] _ _ _
        refine st_if_eq (tgt := 34) C dX10_branchesAreSound_29 (by decide) (fun c_29 => ?_) (fun c_29 => by omega)
        refine st_iinc C dX10_branchesAreSound_34 rfl (by decide) rfl ⟨(by omega), (by omega)⟩ ?_
        show T x 37 [(0, vR 0), (1, vI 3), (2, vR (brN 2))] [] _ _ _
        refine st_goto (tgt := 2) C dX10_branchesAreSound_37 (by decide) ?_
        refine st_iload_n C 1 dX10_branchesAreSound_2 rfl rfl ?_
        refine st_iconst C dX10_branchesAreSound_3 (by decide) ?_
        refine st_icmp_ge (tgt := 40) C dX10_branchesAreSound_4 (by decide) (fun c_4 => by omega) (fun c_4 => ?_)
        refine st_aload_n C 0 dX10_branchesAreSound_7 rfl rfl ?_
        refine st_getf C dX10_branchesAreSound_8 fl_X10_28 hs rfl ?_
        refine st_iload_n C 1 dX10_branchesAreSound_11 rfl rfl ?_
        refine st_aald C dX10_branchesAreSound_12 RX0 (fun _ => rfl) hbf (by omega) (by omega) ?_
        rw [hbn3]
        show T x 13 [(0, vR 0), (1, vI 3), (2, vR (brN 2))] [vR (brN 3)] _ _ _
        refine st_astore_n C 2 dX10_branchesAreSound_13 rfl (by decide) rfl ?_
        show T x 14 [(0, vR 0), (1, vI 3), (2, vR (brN 3))] [] _ _ _
        refine st_aload_n C 2 dX10_branchesAreSound_14 rfl rfl ?_
        refine st_ifnull_r C dX10_branchesAreSound_15 ?_
        refine st_aload_n C 2 dX10_branchesAreSound_18 rfl rfl ?_
        refine st_getf C dX10_branchesAreSound_19 fl_X10_98 h3_0 rfl ?_
        refine st_if_eq (tgt := 34) C dX10_branchesAreSound_22 (by decide) (fun c_22 => ?_) (fun c_22 => ?_)
        · refine st_iinc C dX10_branchesAreSound_34 rfl (by decide) rfl ⟨(by omega), (by omega)⟩ ?_
          show T x 37 [(0, vR 0), (1, vI 4), (2, vR (brN 3))] [] _ _ _
          refine st_goto (tgt := 2) C dX10_branchesAreSound_37 (by decide) ?_
          refine st_iload_n C 1 dX10_branchesAreSound_2 rfl rfl ?_
          refine st_iconst C dX10_branchesAreSound_3 (by decide) ?_
          refine st_icmp_ge (tgt := 40) C dX10_branchesAreSound_4 (by decide) (fun c_4 => ?_) (fun c_4 => by omega)
          refine st_iconst C dX10_branchesAreSound_40 (by decide) ?_
          exact st_zreturn C F dX10_branchesAreSound_41 rfl (by omega) ⟨rfl, rfl⟩ (by omega) (by omega)
        · refine st_aload_n C 2 dX10_branchesAreSound_25 rfl rfl ?_
          refine st_callV (st := []) C dX10_branchesAreSound_26 [] (k_hasIdleEdit_f (b := (brN 3)) (op := (op 3)) (bs := (bs 3)) (ed := (ed 3)) (co := (co 3)) (no := (no 3)) h3_0 h3_1 h3_2 h3_3 h3_4 (hid 3 (by omega) (by omega) (by omega))) h3_0 w_X10_318 rfl (by decide) (by decide) (by omega) (by omega) (Nat.le_of_ble_eq_true rfl) (ko_rt ?_)
          show T x 29 [(0, vR 0), (1, vI 3), (2, vR (brN 3))] [vI 0] _ _ _
          refine st_if_eq (tgt := 34) C dX10_branchesAreSound_29 (by decide) (fun c_29 => ?_) (fun c_29 => by omega)
          refine st_iinc C dX10_branchesAreSound_34 rfl (by decide) rfl ⟨(by omega), (by omega)⟩ ?_
          show T x 37 [(0, vR 0), (1, vI 4), (2, vR (brN 3))] [] _ _ _
          refine st_goto (tgt := 2) C dX10_branchesAreSound_37 (by decide) ?_
          refine st_iload_n C 1 dX10_branchesAreSound_2 rfl rfl ?_
          refine st_iconst C dX10_branchesAreSound_3 (by decide) ?_
          refine st_icmp_ge (tgt := 40) C dX10_branchesAreSound_4 (by decide) (fun c_4 => ?_) (fun c_4 => by omega)
          refine st_iconst C dX10_branchesAreSound_40 (by decide) ?_
          exact st_zreturn C F dX10_branchesAreSound_41 rfl (by omega) ⟨rfl, rfl⟩ (by omega) (by omega)
    · refine st_aload_n C 2 dX10_branchesAreSound_25 rfl rfl ?_
      refine st_callV (st := []) C dX10_branchesAreSound_26 [] (k_hasIdleEdit_f (b := (brN 1)) (op := (op 1)) (bs := (bs 1)) (ed := (ed 1)) (co := (co 1)) (no := (no 1)) h1_0 h1_1 h1_2 h1_3 h1_4 (hid 1 (by omega) (by omega) (by omega))) h1_0 w_X10_318 rfl (by decide) (by decide) (by omega) (by omega) (Nat.le_of_ble_eq_true rfl) (ko_rt ?_)
      show T x 29 [(0, vR 0), (1, vI 1), (2, vR (brN 1))] [vI 0] _ _ _
      refine st_if_eq (tgt := 34) C dX10_branchesAreSound_29 (by decide) (fun c_29 => ?_) (fun c_29 => by omega)
      refine st_iinc C dX10_branchesAreSound_34 rfl (by decide) rfl ⟨(by omega), (by omega)⟩ ?_
      show T x 37 [(0, vR 0), (1, vI 2), (2, vR (brN 1))] [] _ _ _
      refine st_goto (tgt := 2) C dX10_branchesAreSound_37 (by decide) ?_
      refine st_iload_n C 1 dX10_branchesAreSound_2 rfl rfl ?_
      refine st_iconst C dX10_branchesAreSound_3 (by decide) ?_
      refine st_icmp_ge (tgt := 40) C dX10_branchesAreSound_4 (by decide) (fun c_4 => by omega) (fun c_4 => ?_)
      refine st_aload_n C 0 dX10_branchesAreSound_7 rfl rfl ?_
      refine st_getf C dX10_branchesAreSound_8 fl_X10_28 hs rfl ?_
      refine st_iload_n C 1 dX10_branchesAreSound_11 rfl rfl ?_
      refine st_aald C dX10_branchesAreSound_12 RX0 (fun _ => rfl) hbf (by omega) (by omega) ?_
      rw [hbn2]
      show T x 13 [(0, vR 0), (1, vI 2), (2, vR (brN 1))] [vR (brN 2)] _ _ _
      refine st_astore_n C 2 dX10_branchesAreSound_13 rfl (by decide) rfl ?_
      show T x 14 [(0, vR 0), (1, vI 2), (2, vR (brN 2))] [] _ _ _
      refine st_aload_n C 2 dX10_branchesAreSound_14 rfl rfl ?_
      refine st_ifnull_r C dX10_branchesAreSound_15 ?_
      refine st_aload_n C 2 dX10_branchesAreSound_18 rfl rfl ?_
      refine st_getf C dX10_branchesAreSound_19 fl_X10_98 h2_0 rfl ?_
      refine st_if_eq (tgt := 34) C dX10_branchesAreSound_22 (by decide) (fun c_22 => ?_) (fun c_22 => ?_)
      · refine st_iinc C dX10_branchesAreSound_34 rfl (by decide) rfl ⟨(by omega), (by omega)⟩ ?_
        show T x 37 [(0, vR 0), (1, vI 3), (2, vR (brN 2))] [] _ _ _
        refine st_goto (tgt := 2) C dX10_branchesAreSound_37 (by decide) ?_
        refine st_iload_n C 1 dX10_branchesAreSound_2 rfl rfl ?_
        refine st_iconst C dX10_branchesAreSound_3 (by decide) ?_
        refine st_icmp_ge (tgt := 40) C dX10_branchesAreSound_4 (by decide) (fun c_4 => by omega) (fun c_4 => ?_)
        refine st_aload_n C 0 dX10_branchesAreSound_7 rfl rfl ?_
        refine st_getf C dX10_branchesAreSound_8 fl_X10_28 hs rfl ?_
        refine st_iload_n C 1 dX10_branchesAreSound_11 rfl rfl ?_
        refine st_aald C dX10_branchesAreSound_12 RX0 (fun _ => rfl) hbf (by omega) (by omega) ?_
        rw [hbn3]
        show T x 13 [(0, vR 0), (1, vI 3), (2, vR (brN 2))] [vR (brN 3)] _ _ _
        refine st_astore_n C 2 dX10_branchesAreSound_13 rfl (by decide) rfl ?_
        show T x 14 [(0, vR 0), (1, vI 3), (2, vR (brN 3))] [] _ _ _
        refine st_aload_n C 2 dX10_branchesAreSound_14 rfl rfl ?_
        refine st_ifnull_r C dX10_branchesAreSound_15 ?_
        refine st_aload_n C 2 dX10_branchesAreSound_18 rfl rfl ?_
        refine st_getf C dX10_branchesAreSound_19 fl_X10_98 h3_0 rfl ?_
        refine st_if_eq (tgt := 34) C dX10_branchesAreSound_22 (by decide) (fun c_22 => ?_) (fun c_22 => ?_)
        · refine st_iinc C dX10_branchesAreSound_34 rfl (by decide) rfl ⟨(by omega), (by omega)⟩ ?_
          show T x 37 [(0, vR 0), (1, vI 4), (2, vR (brN 3))] [] _ _ _
          refine st_goto (tgt := 2) C dX10_branchesAreSound_37 (by decide) ?_
          refine st_iload_n C 1 dX10_branchesAreSound_2 rfl rfl ?_
          refine st_iconst C dX10_branchesAreSound_3 (by decide) ?_
          refine st_icmp_ge (tgt := 40) C dX10_branchesAreSound_4 (by decide) (fun c_4 => ?_) (fun c_4 => by omega)
          refine st_iconst C dX10_branchesAreSound_40 (by decide) ?_
          exact st_zreturn C F dX10_branchesAreSound_41 rfl (by omega) ⟨rfl, rfl⟩ (by omega) (by omega)
        · refine st_aload_n C 2 dX10_branchesAreSound_25 rfl rfl ?_
          refine st_callV (st := []) C dX10_branchesAreSound_26 [] (k_hasIdleEdit_f (b := (brN 3)) (op := (op 3)) (bs := (bs 3)) (ed := (ed 3)) (co := (co 3)) (no := (no 3)) h3_0 h3_1 h3_2 h3_3 h3_4 (hid 3 (by omega) (by omega) (by omega))) h3_0 w_X10_318 rfl (by decide) (by decide) (by omega) (by omega) (Nat.le_of_ble_eq_true rfl) (ko_rt ?_)
          show T x 29 [(0, vR 0), (1, vI 3), (2, vR (brN 3))] [vI 0] _ _ _
          refine st_if_eq (tgt := 34) C dX10_branchesAreSound_29 (by decide) (fun c_29 => ?_) (fun c_29 => by omega)
          refine st_iinc C dX10_branchesAreSound_34 rfl (by decide) rfl ⟨(by omega), (by omega)⟩ ?_
          show T x 37 [(0, vR 0), (1, vI 4), (2, vR (brN 3))] [] _ _ _
          refine st_goto (tgt := 2) C dX10_branchesAreSound_37 (by decide) ?_
          refine st_iload_n C 1 dX10_branchesAreSound_2 rfl rfl ?_
          refine st_iconst C dX10_branchesAreSound_3 (by decide) ?_
          refine st_icmp_ge (tgt := 40) C dX10_branchesAreSound_4 (by decide) (fun c_4 => ?_) (fun c_4 => by omega)
          refine st_iconst C dX10_branchesAreSound_40 (by decide) ?_
          exact st_zreturn C F dX10_branchesAreSound_41 rfl (by omega) ⟨rfl, rfl⟩ (by omega) (by omega)
      · refine st_aload_n C 2 dX10_branchesAreSound_25 rfl rfl ?_
        refine st_callV (st := []) C dX10_branchesAreSound_26 [] (k_hasIdleEdit_f (b := (brN 2)) (op := (op 2)) (bs := (bs 2)) (ed := (ed 2)) (co := (co 2)) (no := (no 2)) h2_0 h2_1 h2_2 h2_3 h2_4 (hid 2 (by omega) (by omega) (by omega))) h2_0 w_X10_318 rfl (by decide) (by decide) (by omega) (by omega) (Nat.le_of_ble_eq_true rfl) (ko_rt ?_)
        show T x 29 [(0, vR 0), (1, vI 2), (2, vR (brN 2))] [vI 0] _ _ _
        refine st_if_eq (tgt := 34) C dX10_branchesAreSound_29 (by decide) (fun c_29 => ?_) (fun c_29 => by omega)
        refine st_iinc C dX10_branchesAreSound_34 rfl (by decide) rfl ⟨(by omega), (by omega)⟩ ?_
        show T x 37 [(0, vR 0), (1, vI 3), (2, vR (brN 2))] [] _ _ _
        refine st_goto (tgt := 2) C dX10_branchesAreSound_37 (by decide) ?_
        refine st_iload_n C 1 dX10_branchesAreSound_2 rfl rfl ?_
        refine st_iconst C dX10_branchesAreSound_3 (by decide) ?_
        refine st_icmp_ge (tgt := 40) C dX10_branchesAreSound_4 (by decide) (fun c_4 => by omega) (fun c_4 => ?_)
        refine st_aload_n C 0 dX10_branchesAreSound_7 rfl rfl ?_
        refine st_getf C dX10_branchesAreSound_8 fl_X10_28 hs rfl ?_
        refine st_iload_n C 1 dX10_branchesAreSound_11 rfl rfl ?_
        refine st_aald C dX10_branchesAreSound_12 RX0 (fun _ => rfl) hbf (by omega) (by omega) ?_
        rw [hbn3]
        show T x 13 [(0, vR 0), (1, vI 3), (2, vR (brN 2))] [vR (brN 3)] _ _ _
        refine st_astore_n C 2 dX10_branchesAreSound_13 rfl (by decide) rfl ?_
        show T x 14 [(0, vR 0), (1, vI 3), (2, vR (brN 3))] [] _ _ _
        refine st_aload_n C 2 dX10_branchesAreSound_14 rfl rfl ?_
        refine st_ifnull_r C dX10_branchesAreSound_15 ?_
        refine st_aload_n C 2 dX10_branchesAreSound_18 rfl rfl ?_
        refine st_getf C dX10_branchesAreSound_19 fl_X10_98 h3_0 rfl ?_
        refine st_if_eq (tgt := 34) C dX10_branchesAreSound_22 (by decide) (fun c_22 => ?_) (fun c_22 => ?_)
        · refine st_iinc C dX10_branchesAreSound_34 rfl (by decide) rfl ⟨(by omega), (by omega)⟩ ?_
          show T x 37 [(0, vR 0), (1, vI 4), (2, vR (brN 3))] [] _ _ _
          refine st_goto (tgt := 2) C dX10_branchesAreSound_37 (by decide) ?_
          refine st_iload_n C 1 dX10_branchesAreSound_2 rfl rfl ?_
          refine st_iconst C dX10_branchesAreSound_3 (by decide) ?_
          refine st_icmp_ge (tgt := 40) C dX10_branchesAreSound_4 (by decide) (fun c_4 => ?_) (fun c_4 => by omega)
          refine st_iconst C dX10_branchesAreSound_40 (by decide) ?_
          exact st_zreturn C F dX10_branchesAreSound_41 rfl (by omega) ⟨rfl, rfl⟩ (by omega) (by omega)
        · refine st_aload_n C 2 dX10_branchesAreSound_25 rfl rfl ?_
          refine st_callV (st := []) C dX10_branchesAreSound_26 [] (k_hasIdleEdit_f (b := (brN 3)) (op := (op 3)) (bs := (bs 3)) (ed := (ed 3)) (co := (co 3)) (no := (no 3)) h3_0 h3_1 h3_2 h3_3 h3_4 (hid 3 (by omega) (by omega) (by omega))) h3_0 w_X10_318 rfl (by decide) (by decide) (by omega) (by omega) (Nat.le_of_ble_eq_true rfl) (ko_rt ?_)
          show T x 29 [(0, vR 0), (1, vI 3), (2, vR (brN 3))] [vI 0] _ _ _
          refine st_if_eq (tgt := 34) C dX10_branchesAreSound_29 (by decide) (fun c_29 => ?_) (fun c_29 => by omega)
          refine st_iinc C dX10_branchesAreSound_34 rfl (by decide) rfl ⟨(by omega), (by omega)⟩ ?_
          show T x 37 [(0, vR 0), (1, vI 4), (2, vR (brN 3))] [] _ _ _
          refine st_goto (tgt := 2) C dX10_branchesAreSound_37 (by decide) ?_
          refine st_iload_n C 1 dX10_branchesAreSound_2 rfl rfl ?_
          refine st_iconst C dX10_branchesAreSound_3 (by decide) ?_
          refine st_icmp_ge (tgt := 40) C dX10_branchesAreSound_4 (by decide) (fun c_4 => ?_) (fun c_4 => by omega)
          refine st_iconst C dX10_branchesAreSound_40 (by decide) ?_
          exact st_zreturn C F dX10_branchesAreSound_41 rfl (by omega) ⟨rfl, rfl⟩ (by omega) (by omega)
set_option maxRecDepth 20000 in
set_option maxHeartbeats 4000000 in
theorem s_isSound {g : Gx} {h : HP} {rc dc : Int} {op : Int → Int} {bs ed co no : Int → Int → Int} {mf : Int → Int} {rk ra rb : Int → Int} {rn : Int → Nat} {t2 : Int → Int} {mk : Int} {tl : Int → Int} {nw mcn : Int} {sv : Int → Int → Int} {gf : Int → Int} {stf : Int → Option Nat} (hs : cS h rc dc) (hB : cB h op bs ed co no) (hM : cM h mf) (hR : cR h rc rk ra rb rn) (hrc : 0 ≤ rc ∧ rc ≤ 6) (hok : ∀ i, 0 ≤ i → i < rc → RuleOk (rk i) (ra i) (rb i)) (hT : h 2 = some (oI 304 t2)) (hL : cL h mk tl) (hH : cHf h nw mcn sv gf stf) (hnw : 0 ≤ nw ∧ nw ≤ 40) (hP9 : cP h) (hv : ∀ s, 0 ≤ s → s < 192 → 0 ≤ mf s ∧ mf s ≤ 9) (hall : ∀ i, 0 ≤ i → i < rc → RuleHolds (rk i) (ra i) (rb i) mf) (hid : ∀ i, 0 ≤ i → i ≤ 3 → op i = 1 → ∀ j, 0 ≤ j → j < 304 → ed i j ≠ -1 → ed i j ≠ bs i j) (hTil : TilR tl mf) (hlead : ∀ s, 0 ≤ s → s ≤ 303 → vA sv s nw = mf s) : Ct g yX10_isSound (.code yX10_isSound cX10_isSound 1 (some .boolean)) 7 0 0 [vR 0] h ((fun r h' => r = .inl (some (vI 1)) ∧ ∃ gq : Int → Int, h' = hput (hput h 2 (oI 304 (fmix (fun s => vA sv s nw) t2 304))) 16 (oI 64 gq))) := by
  refine Ct.of (by decide) (Nat.le_of_ble_eq_true rfl) (fun x hg C F => ?_)
  subst hg
  obtain ⟨hp10, ga, hp16⟩ := id hP9
  obtain ⟨hHR, hH12, hHn⟩ := id hH
  have hH6 := hHR.1
  have hH11 := hHR.2.1
  have hge : 102 ≤ stN (nw + 1) := stN_ge (by omega)
  have hz : cnt (fun j => mf j ≠ (fmix (fun s => vA sv s nw) t2 304) j) 304 = 0 := cnt_none (fun i i1 i2 z => z (by rw [fmix_in i1 i2]; exact (hlead i i1 (by omega)).symm))
  show T x 0 [(0, vR 0)] [] h 0 0
  refine st_aload_n C 0 dX10_isSound_0 rfl rfl ?_
  refine st_getf C dX10_isSound_1 fl_X10_44 hs rfl ?_
  refine st_aload_n C 0 dX10_isSound_4 rfl rfl ?_
  refine st_getf C dX10_isSound_5 fl_X10_44 hs rfl ?_
  refine st_getf C dX10_isSound_8 fl_X10_213 hH6 rfl ?_
  refine st_aload_n C 0 dX10_isSound_11 rfl rfl ?_
  refine st_getf C dX10_isSound_12 fl_X10_13 hs rfl ?_
  refine st_callV (st := []) C dX10_isSound_15 [vI nw, vR 2] (k_writeAt (nw := nw) (mcn := mcn) (sf := stf) (sv := sv) (v9 := nw) (tf := t2) hH.1 hnw (by omega) hT (by omega) (by omega) (by omega)) hH6 w_X10_194 rfl (by decide) (by decide) (by omega) (by omega) (Nat.le_of_ble_eq_true rfl) (ko_rn ?_)
  show T x 18 [(0, vR 0)] [] (hput h 2 (oI 304 (fmix (fun s => vA sv s nw) t2 304))) _ _
  refine st_aload_n C 0 dX10_isSound_18 rfl rfl ?_
  refine st_callV (st := []) C dX10_isSound_19 [] (k_rulesHold (rc := rc) (dc := dc) (mf := mf) (rk := rk) (ra := ra) (rb := rb) (rn := rn) (hput_o (by omega) hs) (hput_o (by omega) hM) (cR.put hR (by omega) (by omega)) hrc hok ⟨(hput_o (by omega) hp10), _, (hput_o (by omega) hp16)⟩ hv hall) (hput_o (by omega) hs) w_X10_305 rfl (by decide) (by decide) (by omega) (by omega) (Nat.le_of_ble_eq_true rfl) (ko_rg (fun gq _ => ?_))
  show T x 22 [(0, vR 0)] [vI 1] _ _ _
  refine st_if_eq (tgt := 64) C dX10_isSound_22 (by decide) (fun c_22 => by omega) (fun c_22 => ?_)
  refine st_aload_n C 0 dX10_isSound_25 rfl rfl ?_
  refine st_getf C dX10_isSound_26 fl_X10_9 (hput_o (by omega) (hput_o (by omega) hs)) rfl ?_
  refine st_aload_n C 0 dX10_isSound_29 rfl rfl ?_
  refine st_getf C dX10_isSound_30 fl_X10_13 (hput_o (by omega) (hput_o (by omega) hs)) rfl ?_
  refine st_callS (st := []) C dX10_isSound_33 [vR 1, vR 2] (k_unlike (f := mf) (f2 := (fmix (fun s => vA sv s nw) t2 304)) (hput_o (by omega) (hput_o (by omega) hM)) (hput_o (by omega) hput_s)) w_X10_177 rfl (by decide) (by decide) (by omega) (by omega) (Nat.le_of_ble_eq_true rfl) (ko_rt ?_)
  show T x 36 [(0, vR 0)] [vI (cnt (fun j => mf j ≠ (fmix (fun s => vA sv s nw) t2 304) j) 304)] _ _ _
  refine st_if_ne (tgt := 64) C dX10_isSound_36 (by decide) (fun c_36 => ?_) (fun c_36 => ?_)
  · refine st_iconst C dX10_isSound_64 (by decide) ?_
    exact st_zreturn C F dX10_isSound_65 rfl (by omega) (by first | exact ⟨rfl, gq, rfl⟩ | (exfalso; omega)) (by omega) (by omega)
  · refine st_aload_n C 0 dX10_isSound_39 rfl rfl ?_
    refine st_getf C dX10_isSound_40 fl_X10_51 (hput_o (by omega) (hput_o (by omega) hs)) rfl ?_
    refine st_aload_n C 0 dX10_isSound_43 rfl rfl ?_
    refine st_getf C dX10_isSound_44 fl_X10_9 (hput_o (by omega) (hput_o (by omega) hs)) rfl ?_
    refine st_callV (st := []) C dX10_isSound_47 [vR 1] (k_areRight (hput_o (by omega) (hput_o (by omega) hL.1)) (hput_o (by omega) (hput_o (by omega) hL.2)) (hput_o (by omega) (hput_o (by omega) hM)) hTil) (hput_o (by omega) (hput_o (by omega) hL.1)) w_X10_308 rfl (by decide) (by decide) (by omega) (by omega) (Nat.le_of_ble_eq_true rfl) (ko_rt ?_)
    show T x 50 [(0, vR 0)] [vI 1] _ _ _
    refine st_if_eq (tgt := 64) C dX10_isSound_50 (by decide) (fun c_50 => by omega) (fun c_50 => ?_)
    refine st_aload_n C 0 dX10_isSound_53 rfl rfl ?_
    refine st_callV (st := []) C dX10_isSound_54 [] (k_branchesSound (rc := rc) (dc := dc) (op := op) (bs := bs) (ed := ed) (co := co) (no := no) (hput_o (by omega) (hput_o (by omega) hs)) (cB.put (cB.put hB (by omega) (by omega)) (by omega) (by omega)) hid) (hput_o (by omega) (hput_o (by omega) hs)) w_X10_312 rfl (by decide) (by decide) (by omega) (by omega) (Nat.le_of_ble_eq_true rfl) (ko_rt ?_)
    show T x 57 [(0, vR 0)] [vI 1] _ _ _
    refine st_if_eq (tgt := 64) C dX10_isSound_57 (by decide) (fun c_57 => by omega) (fun c_57 => ?_)
    refine st_iconst C dX10_isSound_60 (by decide) ?_
    refine st_goto (tgt := 65) C dX10_isSound_61 (by decide) ?_
    exact st_zreturn C F dX10_isSound_65 rfl (by omega) (by first | exact ⟨rfl, gq, rfl⟩ | (exfalso; omega)) (by omega) (by omega)
/-- the sum of a row, the first n spots -/
def ckS (f : Int → Int) : Nat → Int
  | 0 => 7
  | n + 1 => wJ (wJ (31 * ckS f n) + f (n : Int))
theorem ckS_s {f : Int → Int} {i c : Int} (h : 0 ≤ i) (hc : c = ckS f i.toNat) : wJ (wJ (31 * c) + f i) = ckS f (i + 1).toNat := by
  rw [toNat_s h]
  show _ = wJ (wJ (31 * ckS f i.toNat) + f ((i.toNat : Nat) : Int))
  rw [Int.toNat_of_nonneg h, hc]
set_option maxRecDepth 20000 in
set_option maxHeartbeats 4000000 in
theorem s_device_x1 {g : Gx} {h : HP} {rc dc : Int} (hs : cS h rc dc) (hQ : 3 ≤ dc) : Ct g yX10_device (.code yX10_device cX10_device 1 (some .int)) 6 1 6 [vR 0] h (Th "java/lang/IllegalStateException" h) := by
  refine Ct.of (by decide) (Nat.le_of_ble_eq_true rfl) (fun x hg C F => ?_)
  subst hg
  show T x 0 [(0, vR 0)] [] h 0 0
  refine st_aload_n C 0 dX10_device_0 rfl rfl ?_
  refine st_getf C dX10_device_1 fl_X10_38 hs rfl ?_
  refine st_if_lt (tgt := 15) C dX10_device_4 (by decide) (fun c_4 => by omega) (fun c_4 => ?_)
  refine st_aload_n C 0 dX10_device_7 rfl rfl ?_
  refine st_getf C dX10_device_8 fl_X10_38 hs rfl ?_
  refine st_iconst C dX10_device_11 (by decide) ?_
  refine st_icmp_lt (tgt := 23) C dX10_device_12 (by decide) (fun c_12 => by omega) (fun c_12 => ?_)
  exact st_throw C F dX10_device_15 dX10_device_18 dX10_device_19 dX10_device_22 xw_X10_95 (by decide) ⟨rfl, rfl⟩ (by omega) (by omega)
set_option maxRecDepth 20000 in
set_option maxHeartbeats 4000000 in
theorem s_device {g : Gx} {h : HP} {rc dc : Int} {df : Int → Option Nat} (hs : cS h rc dc) (hdf : h 5 = some (oA 6 3 df)) (hQ : 0 ≤ dc ∧ dc ≤ 2) (hf0 : h (dvN dc) = none) (hf1 : h (dvN dc + 1) = none) (hf2 : h (dvN dc + 2) = none) (hf3 : h (dvN dc + 3) = none) : Ct g yX10_device (.code yX10_device cX10_device 1 (some .int)) 6 5 80 [vR 0] h (Rt (some (vI dc)) ((hput (hput (hput (hput (hput (hput (hput (hput (hput (hput (hput h (dvN dc) (oO 1 [vI 0, vI 0, vN, vN, vN])) (dvN dc) (oO 1 [vI 0, vI 0, vN, vN, vN])) (dvN dc) (oO 1 [vI 0, vI 0, vN, vN, vN])) (dvN dc + 1) (oI 20 (fun _ => 0))) (dvN dc) (oO 1 [vI 0, vI 0, vR (dvN dc + 1), vN, vN])) (dvN dc + 2) (oI 20 (fun _ => 0))) (dvN dc) (oO 1 [vI 0, vI 0, vR (dvN dc + 1), vR (dvN dc + 2), vN])) (dvN dc + 3) (oI 20 (fun _ => 0))) (dvN dc) (oO 1 [vI 0, vI 0, vR (dvN dc + 1), vR (dvN dc + 2), vR (dvN dc + 3)])) 5 (oA 6 3 (fput df dc (some (dvN dc))))) 0 (oO 9 [vR 1, vR 2, vR 3, vI rc, vR 4, vR 5, vI (dc + 1), vR 6, vR 7, vR 8, vR 9, vR 10])))) := by
  refine Ct.of (by decide) (Nat.le_of_ble_eq_true rfl) (fun x hg C F => ?_)
  subst hg
  have hdi := dvN_in (i := dc) (by omega)
  show T x 0 [(0, vR 0)] [] h 0 0
  refine st_aload_n C 0 dX10_device_0 rfl rfl ?_
  refine st_getf C dX10_device_1 fl_X10_38 hs rfl ?_
  refine st_if_lt (tgt := 15) C dX10_device_4 (by decide) (fun c_4 => by omega) (fun c_4 => ?_)
  refine st_aload_n C 0 dX10_device_7 rfl rfl ?_
  refine st_getf C dX10_device_8 fl_X10_38 hs rfl ?_
  refine st_iconst C dX10_device_11 (by decide) ?_
  refine st_icmp_lt (tgt := 23) C dX10_device_12 (by decide) (fun c_12 => ?_) (fun c_12 => by omega)
  refine st_aload_n C 0 dX10_device_23 rfl rfl ?_
  refine st_getf C dX10_device_24 fl_X10_34 hs rfl ?_
  refine st_aload_n C 0 dX10_device_27 rfl rfl ?_
  refine st_getf C dX10_device_28 fl_X10_38 hs rfl ?_
  refine st_new C dX10_device_31 (dvN dc) nw_X10_32 hf0 (by omega) (by show _ + 5 ≤ _; omega) ?_
  show T x 34 [(0, vR 0)] [vR (dvN dc), vI dc, vR 5] (hput h (dvN dc) (oO 1 [vI 0, vI 0, vN, vN, vN])) (0 + 1) (0 + 5)
  refine st_dup C dX10_device_34 rfl ?_
  refine st_callN (st := [vR (dvN dc), vI dc, vR 5]) C dX10_device_35 [] (k_Device (d9 := dvN dc) hput_s (hput_o (by omega) hf1) (hput_o (by omega) hf2) (hput_o (by omega) hf3)) (fun _ _ q => by cases q.1) w_X10_278 rfl (by decide) (by decide) (by omega) (by omega) (Nat.le_of_ble_eq_true rfl) (ko_rn ?_)
  show T x 38 [(0, vR 0)] [vR (dvN dc), vI dc, vR 5] _ _ _
  refine st_aast (r := (RX1, TX1, 5)) C dX10_device_38 (fun _ => rfl) rfl (hput_o (by omega) (hput_o (by omega) (hput_o (by omega) (hput_o (by omega) (hput_o (by omega) (hput_o (by omega) (hput_o (by omega) (hput_o (by omega) (hput_o (by omega) hdf))))))))) hput_s (by omega) (by omega) ?_
  refine st_aload_n C 0 dX10_device_39 rfl rfl ?_
  refine st_dup C dX10_device_40 rfl ?_
  refine st_getf C dX10_device_41 fl_X10_38 (hput_o (by omega) (hput_o (by omega) (hput_o (by omega) (hput_o (by omega) (hput_o (by omega) (hput_o (by omega) (hput_o (by omega) (hput_o (by omega) (hput_o (by omega) (hput_o (by omega) hs)))))))))) rfl ?_
  refine st_iconst C dX10_device_44 (by decide) ?_
  refine st_iadd C dX10_device_45 ⟨(by omega), (by omega)⟩ ?_
  refine st_putf C dX10_device_46 fp_X10_38 (fun q => by cases q) (hput_o (by omega) (hput_o (by omega) (hput_o (by omega) (hput_o (by omega) (hput_o (by omega) (hput_o (by omega) (hput_o (by omega) (hput_o (by omega) (hput_o (by omega) (hput_o (by omega) hs)))))))))) (Nat.le_of_ble_eq_true rfl) fit_int ?_
  show T x 49 [(0, vR 0)] [] (hput (hput (hput (hput (hput (hput (hput (hput (hput (hput (hput h (dvN dc) (oO 1 [vI 0, vI 0, vN, vN, vN])) (dvN dc) (oO 1 [vI 0, vI 0, vN, vN, vN])) (dvN dc) (oO 1 [vI 0, vI 0, vN, vN, vN])) (dvN dc + 1) (oI 20 (fun _ => 0))) (dvN dc) (oO 1 [vI 0, vI 0, vR (dvN dc + 1), vN, vN])) (dvN dc + 2) (oI 20 (fun _ => 0))) (dvN dc) (oO 1 [vI 0, vI 0, vR (dvN dc + 1), vR (dvN dc + 2), vN])) (dvN dc + 3) (oI 20 (fun _ => 0))) (dvN dc) (oO 1 [vI 0, vI 0, vR (dvN dc + 1), vR (dvN dc + 2), vR (dvN dc + 3)])) 5 (oA 6 3 (fput df dc (some (dvN dc))))) 0 (oO 9 [vR 1, vR 2, vR 3, vI rc, vR 4, vR 5, vI (dc + 1), vR 6, vR 7, vR 8, vR 9, vR 10])) _ _
  refine st_aload_n C 0 dX10_device_49 rfl rfl ?_
  refine st_getf C dX10_device_50 fl_X10_38 hput_s rfl ?_
  refine st_iconst C dX10_device_53 (by decide) ?_
  refine st_isub C dX10_device_54 ⟨(by omega), (by omega)⟩ ?_
  exact st_ireturn C F dX10_device_55 rfl (rt_i (by omega) rfl) (by omega) (by omega)
set_option maxRecDepth 20000 in
set_option maxHeartbeats 4000000 in
theorem s_rule_x1 {g : Gx} {h : HP} {rc dc : Int} {mf : Int → Int} {k9 a9 b9 : Int} {ruf : Int → Option Nat} {n0 : Nat} (hs : cS h rc dc) (hM : cM h mf) (hX : cX h) (hrf : h 3 = some (oA 4 6 ruf)) (hrc : 0 ≤ rc ∧ rc ≤ 6) (hk9 : 0 ≤ k9 ∧ k9 ≤ 65535) (hn0 : h n0 = none) (hn1 : 1000 ≤ n0) (hQ : ¬ RuleOk k9 a9 b9) : Ct g yX10_rule (.code yX10_rule cX10_rule 5 (some .int)) 7 3 16 [vR 0, vI k9, vI a9, vI b9] h (Th "java/lang/IllegalArgumentException" h) := by
  refine Ct.of (by decide) (Nat.le_of_ble_eq_true rfl) (fun x hg C F => ?_)
  subst hg
  obtain ⟨hx9, ⟨qa, hx14⟩, sa, hx15⟩ := id hX
  show T x 0 [(0, vR 0), (1, vI k9), (2, vI a9), (3, vI b9)] [] h 0 0
  refine st_iload_n C 1 dX10_rule_0 rfl rfl ?_
  refine st_iload_n C 2 dX10_rule_1 rfl rfl ?_
  refine st_iload_n C 3 dX10_rule_2 rfl rfl ?_
  by_cases b_3 : RuleOk k9 a9 b9
  · refine st_callS (st := []) C dX10_rule_3 [vI k9, vI a9, vI b9] (k_isRule_t (k9 := k9) (a9 := a9) (b9 := b9)  b_3) w_X10_77 rfl (by decide) (by decide) (by omega) (by omega) (Nat.le_of_ble_eq_true rfl) (ko_rt ?_)
    show T x 6 [(0, vR 0), (1, vI k9), (2, vI a9), (3, vI b9)] [vI 1] _ _ _
    refine st_callS (st := []) C dX10_rule_6 [vI 1] k_need_t w_X10_81 rfl (by decide) (by decide) (by omega) (by omega) (Nat.le_of_ble_eq_true rfl) (ko_rn ?_)
    show T x 9 [(0, vR 0), (1, vI k9), (2, vI a9), (3, vI b9)] [] _ _ _
    refine st_new C dX10_rule_9 n0 nw_X10_16 hn0 (by omega) (by show _ + 3 ≤ _; omega) ?_
    show T x 12 [(0, vR 0), (1, vI k9), (2, vI a9), (3, vI b9)] [vR n0] (hput h n0 (oO 4 [vI 0, vI 0, vI 0])) (0 + 1) (0 + 3)
    refine st_dup C dX10_rule_12 rfl ?_
    refine st_iload_n C 1 dX10_rule_13 rfl rfl ?_
    refine st_iload_n C 2 dX10_rule_14 rfl rfl ?_
    refine st_iload_n C 3 dX10_rule_15 rfl rfl ?_
    refine st_callI (st := [vR n0]) C dX10_rule_16 [vI k9, vI a9, vI b9] (k_Rule (k9 := k9) (a9 := a9) (b9 := b9) hput_s hk9) (fun _ _ q => by cases q.1) w_X10_85 rfl (by decide) (by decide) (by omega) (by omega) (Nat.le_of_ble_eq_true rfl) (ko_rn ?_)
    show T x 19 [(0, vR 0), (1, vI k9), (2, vI a9), (3, vI b9)] [vR n0] (hput (hput h n0 (oO 4 [vI 0, vI 0, vI 0])) n0 (oO 4 [vI k9, vI a9, vI b9])) _ _
    refine st_astore C dX10_rule_19 (by decide) rfl ?_
    show T x 21 [(0, vR 0), (1, vI k9), (2, vI a9), (3, vI b9), (4, vR n0)] [] _ _ _
    refine st_aload C dX10_rule_21 rfl ?_
    refine st_aload_n C 0 dX10_rule_23 rfl rfl ?_
    refine st_getf C dX10_rule_24 fl_X10_9 (hput_o (by omega) (hput_o (by omega) hs)) rfl ?_
    refine st_aload_n C 0 dX10_rule_27 rfl rfl ?_
    refine st_getf C dX10_rule_28 fl_X10_65 (hput_o (by omega) (hput_o (by omega) hs)) rfl ?_
    by_cases b_31 : RuleHolds k9 a9 b9 mf
    · refine st_callV (st := []) C dX10_rule_31 [vR 1, vR 9] (k_holdsIn_t (k9 := k9) (a9 := a9) (b9 := b9) (rf := mf) hput_s (hput_o (by omega) (hput_o (by omega) hM)) (hput_o (by omega) (hput_o (by omega) hx9)) (hput_o (by omega) (hput_o (by omega) hx14)) (hput_o (by omega) (hput_o (by omega) hx15)) (by omega) (by omega) (by omega) (by omega) (by omega) (by omega) (by omega) (by first | exact hq | exact absurd (by assumption) hQ) b_31) hput_s w_X10_88 rfl (by decide) (by decide) (by omega) (by omega) (Nat.le_of_ble_eq_true rfl) (ko_rs (fun q2 s2 _ => ?_))
      show T x 34 [(0, vR 0), (1, vI k9), (2, vI a9), (3, vI b9), (4, vR n0)] [vI 1] _ _ _
      refine st_if_ne (tgt := 45) C dX10_rule_34 (by decide) (fun c_34 => ?_) (fun c_34 => by omega)
      refine st_aload_n C 0 dX10_rule_45 rfl rfl ?_
      refine st_getf C dX10_rule_46 fl_X10_22 (sc_o (by omega) (by omega) (hput_o (by omega) (hput_o (by omega) hs))) rfl ?_
      refine st_if_lt (tgt := 61) C dX10_rule_49 (by decide) (fun c_49 => by omega) (fun c_49 => ?_)
      refine st_aload_n C 0 dX10_rule_52 rfl rfl ?_
      refine st_getf C dX10_rule_53 fl_X10_22 (sc_o (by omega) (by omega) (hput_o (by omega) (hput_o (by omega) hs))) rfl ?_
      refine st_bipush C dX10_rule_56 (by decide) (by decide) ?_
      refine st_icmp_lt (tgt := 69) C dX10_rule_58 (by decide) (fun c_58 => ?_) (fun c_58 => ?_)
      · refine st_aload_n C 0 dX10_rule_69 rfl rfl ?_
        refine st_getf C dX10_rule_70 fl_X10_18 (sc_o (by omega) (by omega) (hput_o (by omega) (hput_o (by omega) hs))) rfl ?_
        refine st_aload_n C 0 dX10_rule_73 rfl rfl ?_
        refine st_getf C dX10_rule_74 fl_X10_22 (sc_o (by omega) (by omega) (hput_o (by omega) (hput_o (by omega) hs))) rfl ?_
        refine st_aload C dX10_rule_77 rfl ?_
        refine st_aast (r := (RX5, TX5, 3)) C dX10_rule_79 (fun _ => rfl) rfl (sc_o (by omega) (by omega) (hput_o (by omega) (hput_o (by omega) hrf))) (sc_o (by omega) (by omega) hput_s) (by omega) (by omega) ?_
        refine st_aload_n C 0 dX10_rule_80 rfl rfl ?_
        refine st_dup C dX10_rule_81 rfl ?_
        refine st_getf C dX10_rule_82 fl_X10_22 (hput_o (by omega) (sc_o (by omega) (by omega) (hput_o (by omega) (hput_o (by omega) hs)))) rfl ?_
        refine st_iconst C dX10_rule_85 (by decide) ?_
        refine st_iadd C dX10_rule_86 ⟨(by omega), (by omega)⟩ ?_
        refine st_putf C dX10_rule_87 fp_X10_22 (fun q => by cases q) (hput_o (by omega) (sc_o (by omega) (by omega) (hput_o (by omega) (hput_o (by omega) hs)))) (Nat.le_of_ble_eq_true rfl) fit_int ?_
        show T x 90 [(0, vR 0), (1, vI k9), (2, vI a9), (3, vI b9), (4, vR n0)] [] (hput (hput (sc (hput (hput h n0 (oO 4 [vI 0, vI 0, vI 0])) n0 (oO 4 [vI k9, vI a9, vI b9])) 14 15 q2 s2) 3 (oA 4 6 (fput ruf rc (some n0)))) 0 (oO 9 [vR 1, vR 2, vR 3, vI (rc + 1), vR 4, vR 5, vI dc, vR 6, vR 7, vR 8, vR 9, vR 10])) _ _
        refine st_aload_n C 0 dX10_rule_90 rfl rfl ?_
        refine st_getf C dX10_rule_91 fl_X10_22 hput_s rfl ?_
        refine st_iconst C dX10_rule_94 (by decide) ?_
        refine st_isub C dX10_rule_95 ⟨(by omega), (by omega)⟩ ?_
        exact st_ireturn C F dX10_rule_96 rfl (by first | exact ⟨rfl, rfl⟩ | exact absurd (by assumption) hQ | exact absurd hQ (by assumption) | exact absurd (by assumption) hq | exact absurd hq (by assumption) | (exfalso; omega)) (by omega) (by omega)
      · exact st_throw C F dX10_rule_61 dX10_rule_64 dX10_rule_65 dX10_rule_68 xw_X10_95 (by decide) (by first | exact ⟨rfl, rfl⟩ | exact absurd (by assumption) hQ | exact absurd hQ (by assumption) | exact absurd (by assumption) hq | exact absurd hq (by assumption) | (exfalso; omega)) (by omega) (by omega)
    · refine st_callV (st := []) C dX10_rule_31 [vR 1, vR 9] (k_holdsIn_f (k9 := k9) (a9 := a9) (b9 := b9) (rf := mf) hput_s (hput_o (by omega) (hput_o (by omega) hM)) (hput_o (by omega) (hput_o (by omega) hx9)) (hput_o (by omega) (hput_o (by omega) hx14)) (hput_o (by omega) (hput_o (by omega) hx15)) (by omega) (by omega) (by omega) (by omega) (by omega) (by omega) (by omega) (by first | exact hq | exact absurd (by assumption) hQ) b_31) hput_s w_X10_88 rfl (by decide) (by decide) (by omega) (by omega) (Nat.le_of_ble_eq_true rfl) (ko_rs (fun q2 s2 _ => ?_))
      show T x 34 [(0, vR 0), (1, vI k9), (2, vI a9), (3, vI b9), (4, vR n0)] [vI 0] _ _ _
      refine st_if_ne (tgt := 45) C dX10_rule_34 (by decide) (fun c_34 => by omega) (fun c_34 => ?_)
      exact st_throw C F dX10_rule_37 dX10_rule_40 dX10_rule_41 dX10_rule_44 xw_X10_92 (by decide) (by first | exact ⟨rfl, rfl⟩ | exact absurd (by assumption) hQ | exact absurd hQ (by assumption) | exact absurd (by assumption) hq | exact absurd hq (by assumption) | (exfalso; omega)) (by omega) (by omega)
  · refine st_callS (st := []) C dX10_rule_3 [vI k9, vI a9, vI b9] (k_isRule_f (k9 := k9) (a9 := a9) (b9 := b9)  b_3) w_X10_77 rfl (by decide) (by decide) (by omega) (by omega) (Nat.le_of_ble_eq_true rfl) (ko_rt ?_)
    show T x 6 [(0, vR 0), (1, vI k9), (2, vI a9), (3, vI b9)] [vI 0] _ _ _
    refine st_callS (st := []) C dX10_rule_6 [vI 0] k_need_f w_X10_81 rfl (by decide) (by decide) (by omega) (by omega) (Nat.le_of_ble_eq_true rfl) (ko_th ?_)
    exact st_out C F (by first | exact ⟨rfl, rfl⟩ | exact absurd (by assumption) hQ | exact absurd hQ (by assumption) | exact absurd (by assumption) hq | exact absurd hq (by assumption) | (exfalso; omega)) (by omega) (by omega)
set_option maxRecDepth 20000 in
set_option maxHeartbeats 4000000 in
theorem s_rule_x2 {g : Gx} {h : HP} {rc dc : Int} {mf : Int → Int} {k9 a9 b9 : Int} {ruf : Int → Option Nat} {n0 : Nat} (hs : cS h rc dc) (hM : cM h mf) (hX : cX h) (hrf : h 3 = some (oA 4 6 ruf)) (hrc : 0 ≤ rc ∧ rc ≤ 6) (hk9 : 0 ≤ k9 ∧ k9 ≤ 65535) (hn0 : h n0 = none) (hn1 : 1000 ≤ n0) (hq : RuleOk k9 a9 b9) (hQ : ¬ RuleHolds k9 a9 b9 mf) : Ct g yX10_rule (.code yX10_rule cX10_rule 5 (some .int)) 7 3 16 [vR 0, vI k9, vI a9, vI b9] h ((fun r h' => r = .inr "java/lang/UnsupportedOperationException" ∧ ∃ q s : Int → Int, h' = sc (hput h n0 (oO 4 [vI k9, vI a9, vI b9])) 14 15 q s)) := by
  refine Ct.of (by decide) (Nat.le_of_ble_eq_true rfl) (fun x hg C F => ?_)
  subst hg
  obtain ⟨hx9, ⟨qa, hx14⟩, sa, hx15⟩ := id hX
  show T x 0 [(0, vR 0), (1, vI k9), (2, vI a9), (3, vI b9)] [] h 0 0
  refine st_iload_n C 1 dX10_rule_0 rfl rfl ?_
  refine st_iload_n C 2 dX10_rule_1 rfl rfl ?_
  refine st_iload_n C 3 dX10_rule_2 rfl rfl ?_
  by_cases b_3 : RuleOk k9 a9 b9
  · refine st_callS (st := []) C dX10_rule_3 [vI k9, vI a9, vI b9] (k_isRule_t (k9 := k9) (a9 := a9) (b9 := b9)  b_3) w_X10_77 rfl (by decide) (by decide) (by omega) (by omega) (Nat.le_of_ble_eq_true rfl) (ko_rt ?_)
    show T x 6 [(0, vR 0), (1, vI k9), (2, vI a9), (3, vI b9)] [vI 1] _ _ _
    refine st_callS (st := []) C dX10_rule_6 [vI 1] k_need_t w_X10_81 rfl (by decide) (by decide) (by omega) (by omega) (Nat.le_of_ble_eq_true rfl) (ko_rn ?_)
    show T x 9 [(0, vR 0), (1, vI k9), (2, vI a9), (3, vI b9)] [] _ _ _
    refine st_new C dX10_rule_9 n0 nw_X10_16 hn0 (by omega) (by show _ + 3 ≤ _; omega) ?_
    show T x 12 [(0, vR 0), (1, vI k9), (2, vI a9), (3, vI b9)] [vR n0] (hput h n0 (oO 4 [vI 0, vI 0, vI 0])) (0 + 1) (0 + 3)
    refine st_dup C dX10_rule_12 rfl ?_
    refine st_iload_n C 1 dX10_rule_13 rfl rfl ?_
    refine st_iload_n C 2 dX10_rule_14 rfl rfl ?_
    refine st_iload_n C 3 dX10_rule_15 rfl rfl ?_
    refine st_callI (st := [vR n0]) C dX10_rule_16 [vI k9, vI a9, vI b9] (k_Rule (k9 := k9) (a9 := a9) (b9 := b9) hput_s hk9) (fun _ _ q => by cases q.1) w_X10_85 rfl (by decide) (by decide) (by omega) (by omega) (Nat.le_of_ble_eq_true rfl) (ko_rn ?_)
    show T x 19 [(0, vR 0), (1, vI k9), (2, vI a9), (3, vI b9)] [vR n0] (hput (hput h n0 (oO 4 [vI 0, vI 0, vI 0])) n0 (oO 4 [vI k9, vI a9, vI b9])) _ _
    refine st_astore C dX10_rule_19 (by decide) rfl ?_
    show T x 21 [(0, vR 0), (1, vI k9), (2, vI a9), (3, vI b9), (4, vR n0)] [] _ _ _
    refine st_aload C dX10_rule_21 rfl ?_
    refine st_aload_n C 0 dX10_rule_23 rfl rfl ?_
    refine st_getf C dX10_rule_24 fl_X10_9 (hput_o (by omega) (hput_o (by omega) hs)) rfl ?_
    refine st_aload_n C 0 dX10_rule_27 rfl rfl ?_
    refine st_getf C dX10_rule_28 fl_X10_65 (hput_o (by omega) (hput_o (by omega) hs)) rfl ?_
    by_cases b_31 : RuleHolds k9 a9 b9 mf
    · refine st_callV (st := []) C dX10_rule_31 [vR 1, vR 9] (k_holdsIn_t (k9 := k9) (a9 := a9) (b9 := b9) (rf := mf) hput_s (hput_o (by omega) (hput_o (by omega) hM)) (hput_o (by omega) (hput_o (by omega) hx9)) (hput_o (by omega) (hput_o (by omega) hx14)) (hput_o (by omega) (hput_o (by omega) hx15)) (by omega) (by omega) (by omega) (by omega) (by omega) (by omega) (by omega) (by first | exact hq | exact absurd (by assumption) hQ) b_31) hput_s w_X10_88 rfl (by decide) (by decide) (by omega) (by omega) (Nat.le_of_ble_eq_true rfl) (ko_rs (fun q2 s2 _ => ?_))
      show T x 34 [(0, vR 0), (1, vI k9), (2, vI a9), (3, vI b9), (4, vR n0)] [vI 1] _ _ _
      refine st_if_ne (tgt := 45) C dX10_rule_34 (by decide) (fun c_34 => ?_) (fun c_34 => by omega)
      refine st_aload_n C 0 dX10_rule_45 rfl rfl ?_
      refine st_getf C dX10_rule_46 fl_X10_22 (sc_o (by omega) (by omega) (hput_o (by omega) (hput_o (by omega) hs))) rfl ?_
      refine st_if_lt (tgt := 61) C dX10_rule_49 (by decide) (fun c_49 => by omega) (fun c_49 => ?_)
      refine st_aload_n C 0 dX10_rule_52 rfl rfl ?_
      refine st_getf C dX10_rule_53 fl_X10_22 (sc_o (by omega) (by omega) (hput_o (by omega) (hput_o (by omega) hs))) rfl ?_
      refine st_bipush C dX10_rule_56 (by decide) (by decide) ?_
      refine st_icmp_lt (tgt := 69) C dX10_rule_58 (by decide) (fun c_58 => ?_) (fun c_58 => ?_)
      · refine st_aload_n C 0 dX10_rule_69 rfl rfl ?_
        refine st_getf C dX10_rule_70 fl_X10_18 (sc_o (by omega) (by omega) (hput_o (by omega) (hput_o (by omega) hs))) rfl ?_
        refine st_aload_n C 0 dX10_rule_73 rfl rfl ?_
        refine st_getf C dX10_rule_74 fl_X10_22 (sc_o (by omega) (by omega) (hput_o (by omega) (hput_o (by omega) hs))) rfl ?_
        refine st_aload C dX10_rule_77 rfl ?_
        refine st_aast (r := (RX5, TX5, 3)) C dX10_rule_79 (fun _ => rfl) rfl (sc_o (by omega) (by omega) (hput_o (by omega) (hput_o (by omega) hrf))) (sc_o (by omega) (by omega) hput_s) (by omega) (by omega) ?_
        refine st_aload_n C 0 dX10_rule_80 rfl rfl ?_
        refine st_dup C dX10_rule_81 rfl ?_
        refine st_getf C dX10_rule_82 fl_X10_22 (hput_o (by omega) (sc_o (by omega) (by omega) (hput_o (by omega) (hput_o (by omega) hs)))) rfl ?_
        refine st_iconst C dX10_rule_85 (by decide) ?_
        refine st_iadd C dX10_rule_86 ⟨(by omega), (by omega)⟩ ?_
        refine st_putf C dX10_rule_87 fp_X10_22 (fun q => by cases q) (hput_o (by omega) (sc_o (by omega) (by omega) (hput_o (by omega) (hput_o (by omega) hs)))) (Nat.le_of_ble_eq_true rfl) fit_int ?_
        show T x 90 [(0, vR 0), (1, vI k9), (2, vI a9), (3, vI b9), (4, vR n0)] [] (hput (hput (sc (hput (hput h n0 (oO 4 [vI 0, vI 0, vI 0])) n0 (oO 4 [vI k9, vI a9, vI b9])) 14 15 q2 s2) 3 (oA 4 6 (fput ruf rc (some n0)))) 0 (oO 9 [vR 1, vR 2, vR 3, vI (rc + 1), vR 4, vR 5, vI dc, vR 6, vR 7, vR 8, vR 9, vR 10])) _ _
        refine st_aload_n C 0 dX10_rule_90 rfl rfl ?_
        refine st_getf C dX10_rule_91 fl_X10_22 hput_s rfl ?_
        refine st_iconst C dX10_rule_94 (by decide) ?_
        refine st_isub C dX10_rule_95 ⟨(by omega), (by omega)⟩ ?_
        exact st_ireturn C F dX10_rule_96 rfl (by first | exact ⟨rfl, q2, s2, by rw [hput_hput]⟩ | exact absurd (by assumption) hQ | exact absurd hQ (by assumption) | exact absurd (by assumption) hq | exact absurd hq (by assumption) | (exfalso; omega)) (by omega) (by omega)
      · exact st_throw C F dX10_rule_61 dX10_rule_64 dX10_rule_65 dX10_rule_68 xw_X10_95 (by decide) (by first | exact ⟨rfl, q2, s2, by rw [hput_hput]⟩ | exact absurd (by assumption) hQ | exact absurd hQ (by assumption) | exact absurd (by assumption) hq | exact absurd hq (by assumption) | (exfalso; omega)) (by omega) (by omega)
    · refine st_callV (st := []) C dX10_rule_31 [vR 1, vR 9] (k_holdsIn_f (k9 := k9) (a9 := a9) (b9 := b9) (rf := mf) hput_s (hput_o (by omega) (hput_o (by omega) hM)) (hput_o (by omega) (hput_o (by omega) hx9)) (hput_o (by omega) (hput_o (by omega) hx14)) (hput_o (by omega) (hput_o (by omega) hx15)) (by omega) (by omega) (by omega) (by omega) (by omega) (by omega) (by omega) (by first | exact hq | exact absurd (by assumption) hQ) b_31) hput_s w_X10_88 rfl (by decide) (by decide) (by omega) (by omega) (Nat.le_of_ble_eq_true rfl) (ko_rs (fun q2 s2 _ => ?_))
      show T x 34 [(0, vR 0), (1, vI k9), (2, vI a9), (3, vI b9), (4, vR n0)] [vI 0] _ _ _
      refine st_if_ne (tgt := 45) C dX10_rule_34 (by decide) (fun c_34 => by omega) (fun c_34 => ?_)
      exact st_throw C F dX10_rule_37 dX10_rule_40 dX10_rule_41 dX10_rule_44 xw_X10_92 (by decide) (by first | exact ⟨rfl, q2, s2, by rw [hput_hput]⟩ | exact absurd (by assumption) hQ | exact absurd hQ (by assumption) | exact absurd (by assumption) hq | exact absurd hq (by assumption) | (exfalso; omega)) (by omega) (by omega)
  · refine st_callS (st := []) C dX10_rule_3 [vI k9, vI a9, vI b9] (k_isRule_f (k9 := k9) (a9 := a9) (b9 := b9)  b_3) w_X10_77 rfl (by decide) (by decide) (by omega) (by omega) (Nat.le_of_ble_eq_true rfl) (ko_rt ?_)
    show T x 6 [(0, vR 0), (1, vI k9), (2, vI a9), (3, vI b9)] [vI 0] _ _ _
    refine st_callS (st := []) C dX10_rule_6 [vI 0] k_need_f w_X10_81 rfl (by decide) (by decide) (by omega) (by omega) (Nat.le_of_ble_eq_true rfl) (ko_th ?_)
    exact st_out C F (by first | exact ⟨rfl, q2, s2, by rw [hput_hput]⟩ | exact absurd (by assumption) hQ | exact absurd hQ (by assumption) | exact absurd (by assumption) hq | exact absurd hq (by assumption) | (exfalso; omega)) (by omega) (by omega)
set_option maxRecDepth 20000 in
set_option maxHeartbeats 4000000 in
theorem s_rule_x3 {g : Gx} {h : HP} {rc dc : Int} {mf : Int → Int} {k9 a9 b9 : Int} {ruf : Int → Option Nat} {n0 : Nat} (hs : cS h rc dc) (hM : cM h mf) (hX : cX h) (hrf : h 3 = some (oA 4 6 ruf)) (hrc : 0 ≤ rc ∧ rc ≤ 6) (hk9 : 0 ≤ k9 ∧ k9 ≤ 65535) (hn0 : h n0 = none) (hn1 : 1000 ≤ n0) (hq : RuleOk k9 a9 b9) (hQ : RuleHolds k9 a9 b9 mf) (hfull : 6 ≤ rc) : Ct g yX10_rule (.code yX10_rule cX10_rule 5 (some .int)) 7 3 16 [vR 0, vI k9, vI a9, vI b9] h ((fun r h' => r = .inr "java/lang/IllegalStateException" ∧ ∃ q s : Int → Int, h' = sc (hput h n0 (oO 4 [vI k9, vI a9, vI b9])) 14 15 q s)) := by
  refine Ct.of (by decide) (Nat.le_of_ble_eq_true rfl) (fun x hg C F => ?_)
  subst hg
  obtain ⟨hx9, ⟨qa, hx14⟩, sa, hx15⟩ := id hX
  show T x 0 [(0, vR 0), (1, vI k9), (2, vI a9), (3, vI b9)] [] h 0 0
  refine st_iload_n C 1 dX10_rule_0 rfl rfl ?_
  refine st_iload_n C 2 dX10_rule_1 rfl rfl ?_
  refine st_iload_n C 3 dX10_rule_2 rfl rfl ?_
  by_cases b_3 : RuleOk k9 a9 b9
  · refine st_callS (st := []) C dX10_rule_3 [vI k9, vI a9, vI b9] (k_isRule_t (k9 := k9) (a9 := a9) (b9 := b9)  b_3) w_X10_77 rfl (by decide) (by decide) (by omega) (by omega) (Nat.le_of_ble_eq_true rfl) (ko_rt ?_)
    show T x 6 [(0, vR 0), (1, vI k9), (2, vI a9), (3, vI b9)] [vI 1] _ _ _
    refine st_callS (st := []) C dX10_rule_6 [vI 1] k_need_t w_X10_81 rfl (by decide) (by decide) (by omega) (by omega) (Nat.le_of_ble_eq_true rfl) (ko_rn ?_)
    show T x 9 [(0, vR 0), (1, vI k9), (2, vI a9), (3, vI b9)] [] _ _ _
    refine st_new C dX10_rule_9 n0 nw_X10_16 hn0 (by omega) (by show _ + 3 ≤ _; omega) ?_
    show T x 12 [(0, vR 0), (1, vI k9), (2, vI a9), (3, vI b9)] [vR n0] (hput h n0 (oO 4 [vI 0, vI 0, vI 0])) (0 + 1) (0 + 3)
    refine st_dup C dX10_rule_12 rfl ?_
    refine st_iload_n C 1 dX10_rule_13 rfl rfl ?_
    refine st_iload_n C 2 dX10_rule_14 rfl rfl ?_
    refine st_iload_n C 3 dX10_rule_15 rfl rfl ?_
    refine st_callI (st := [vR n0]) C dX10_rule_16 [vI k9, vI a9, vI b9] (k_Rule (k9 := k9) (a9 := a9) (b9 := b9) hput_s hk9) (fun _ _ q => by cases q.1) w_X10_85 rfl (by decide) (by decide) (by omega) (by omega) (Nat.le_of_ble_eq_true rfl) (ko_rn ?_)
    show T x 19 [(0, vR 0), (1, vI k9), (2, vI a9), (3, vI b9)] [vR n0] (hput (hput h n0 (oO 4 [vI 0, vI 0, vI 0])) n0 (oO 4 [vI k9, vI a9, vI b9])) _ _
    refine st_astore C dX10_rule_19 (by decide) rfl ?_
    show T x 21 [(0, vR 0), (1, vI k9), (2, vI a9), (3, vI b9), (4, vR n0)] [] _ _ _
    refine st_aload C dX10_rule_21 rfl ?_
    refine st_aload_n C 0 dX10_rule_23 rfl rfl ?_
    refine st_getf C dX10_rule_24 fl_X10_9 (hput_o (by omega) (hput_o (by omega) hs)) rfl ?_
    refine st_aload_n C 0 dX10_rule_27 rfl rfl ?_
    refine st_getf C dX10_rule_28 fl_X10_65 (hput_o (by omega) (hput_o (by omega) hs)) rfl ?_
    by_cases b_31 : RuleHolds k9 a9 b9 mf
    · refine st_callV (st := []) C dX10_rule_31 [vR 1, vR 9] (k_holdsIn_t (k9 := k9) (a9 := a9) (b9 := b9) (rf := mf) hput_s (hput_o (by omega) (hput_o (by omega) hM)) (hput_o (by omega) (hput_o (by omega) hx9)) (hput_o (by omega) (hput_o (by omega) hx14)) (hput_o (by omega) (hput_o (by omega) hx15)) (by omega) (by omega) (by omega) (by omega) (by omega) (by omega) (by omega) (by first | exact hq | exact absurd (by assumption) hQ) b_31) hput_s w_X10_88 rfl (by decide) (by decide) (by omega) (by omega) (Nat.le_of_ble_eq_true rfl) (ko_rs (fun q2 s2 _ => ?_))
      show T x 34 [(0, vR 0), (1, vI k9), (2, vI a9), (3, vI b9), (4, vR n0)] [vI 1] _ _ _
      refine st_if_ne (tgt := 45) C dX10_rule_34 (by decide) (fun c_34 => ?_) (fun c_34 => by omega)
      refine st_aload_n C 0 dX10_rule_45 rfl rfl ?_
      refine st_getf C dX10_rule_46 fl_X10_22 (sc_o (by omega) (by omega) (hput_o (by omega) (hput_o (by omega) hs))) rfl ?_
      refine st_if_lt (tgt := 61) C dX10_rule_49 (by decide) (fun c_49 => by omega) (fun c_49 => ?_)
      refine st_aload_n C 0 dX10_rule_52 rfl rfl ?_
      refine st_getf C dX10_rule_53 fl_X10_22 (sc_o (by omega) (by omega) (hput_o (by omega) (hput_o (by omega) hs))) rfl ?_
      refine st_bipush C dX10_rule_56 (by decide) (by decide) ?_
      refine st_icmp_lt (tgt := 69) C dX10_rule_58 (by decide) (fun c_58 => by omega) (fun c_58 => ?_)
      exact st_throw C F dX10_rule_61 dX10_rule_64 dX10_rule_65 dX10_rule_68 xw_X10_95 (by decide) (by first | exact ⟨rfl, q2, s2, by rw [hput_hput]⟩ | exact absurd (by assumption) hQ | exact absurd hQ (by assumption) | exact absurd (by assumption) hq | exact absurd hq (by assumption) | (exfalso; omega)) (by omega) (by omega)
    · refine st_callV (st := []) C dX10_rule_31 [vR 1, vR 9] (k_holdsIn_f (k9 := k9) (a9 := a9) (b9 := b9) (rf := mf) hput_s (hput_o (by omega) (hput_o (by omega) hM)) (hput_o (by omega) (hput_o (by omega) hx9)) (hput_o (by omega) (hput_o (by omega) hx14)) (hput_o (by omega) (hput_o (by omega) hx15)) (by omega) (by omega) (by omega) (by omega) (by omega) (by omega) (by omega) (by first | exact hq | exact absurd (by assumption) hQ) b_31) hput_s w_X10_88 rfl (by decide) (by decide) (by omega) (by omega) (Nat.le_of_ble_eq_true rfl) (ko_rs (fun q2 s2 _ => ?_))
      show T x 34 [(0, vR 0), (1, vI k9), (2, vI a9), (3, vI b9), (4, vR n0)] [vI 0] _ _ _
      refine st_if_ne (tgt := 45) C dX10_rule_34 (by decide) (fun c_34 => by omega) (fun c_34 => ?_)
      exact st_throw C F dX10_rule_37 dX10_rule_40 dX10_rule_41 dX10_rule_44 xw_X10_92 (by decide) (by first | exact ⟨rfl, q2, s2, by rw [hput_hput]⟩ | exact absurd (by assumption) hQ | exact absurd hQ (by assumption) | exact absurd (by assumption) hq | exact absurd hq (by assumption) | (exfalso; omega)) (by omega) (by omega)
  · refine st_callS (st := []) C dX10_rule_3 [vI k9, vI a9, vI b9] (k_isRule_f (k9 := k9) (a9 := a9) (b9 := b9)  b_3) w_X10_77 rfl (by decide) (by decide) (by omega) (by omega) (Nat.le_of_ble_eq_true rfl) (ko_rt ?_)
    show T x 6 [(0, vR 0), (1, vI k9), (2, vI a9), (3, vI b9)] [vI 0] _ _ _
    refine st_callS (st := []) C dX10_rule_6 [vI 0] k_need_f w_X10_81 rfl (by decide) (by decide) (by omega) (by omega) (Nat.le_of_ble_eq_true rfl) (ko_th ?_)
    exact st_out C F (by first | exact ⟨rfl, q2, s2, by rw [hput_hput]⟩ | exact absurd (by assumption) hQ | exact absurd hQ (by assumption) | exact absurd (by assumption) hq | exact absurd hq (by assumption) | (exfalso; omega)) (by omega) (by omega)
set_option maxRecDepth 20000 in
set_option maxHeartbeats 4000000 in
theorem s_rule {g : Gx} {h : HP} {rc dc : Int} {mf : Int → Int} {k9 a9 b9 : Int} {ruf : Int → Option Nat} {n0 : Nat} (hs : cS h rc dc) (hM : cM h mf) (hX : cX h) (hrf : h 3 = some (oA 4 6 ruf)) (hrc : 0 ≤ rc ∧ rc ≤ 6) (hk9 : 0 ≤ k9 ∧ k9 ≤ 65535) (hn0 : h n0 = none) (hn1 : 1000 ≤ n0) (hq : RuleOk k9 a9 b9) (hQ : RuleHolds k9 a9 b9 mf) (hfull : rc ≤ 5) : Ct g yX10_rule (.code yX10_rule cX10_rule 5 (some .int)) 7 3 16 [vR 0, vI k9, vI a9, vI b9] h ((fun r h' => r = .inl (some (vI rc)) ∧ ∃ q s : Int → Int, h' = hput (hput (sc (hput h n0 (oO 4 [vI k9, vI a9, vI b9])) 14 15 q s) 3 (oA 4 6 (fput ruf rc (some n0)))) 0 (oO 9 [vR 1, vR 2, vR 3, vI (rc + 1), vR 4, vR 5, vI dc, vR 6, vR 7, vR 8, vR 9, vR 10]))) := by
  refine Ct.of (by decide) (Nat.le_of_ble_eq_true rfl) (fun x hg C F => ?_)
  subst hg
  obtain ⟨hx9, ⟨qa, hx14⟩, sa, hx15⟩ := id hX
  show T x 0 [(0, vR 0), (1, vI k9), (2, vI a9), (3, vI b9)] [] h 0 0
  refine st_iload_n C 1 dX10_rule_0 rfl rfl ?_
  refine st_iload_n C 2 dX10_rule_1 rfl rfl ?_
  refine st_iload_n C 3 dX10_rule_2 rfl rfl ?_
  by_cases b_3 : RuleOk k9 a9 b9
  · refine st_callS (st := []) C dX10_rule_3 [vI k9, vI a9, vI b9] (k_isRule_t (k9 := k9) (a9 := a9) (b9 := b9)  b_3) w_X10_77 rfl (by decide) (by decide) (by omega) (by omega) (Nat.le_of_ble_eq_true rfl) (ko_rt ?_)
    show T x 6 [(0, vR 0), (1, vI k9), (2, vI a9), (3, vI b9)] [vI 1] _ _ _
    refine st_callS (st := []) C dX10_rule_6 [vI 1] k_need_t w_X10_81 rfl (by decide) (by decide) (by omega) (by omega) (Nat.le_of_ble_eq_true rfl) (ko_rn ?_)
    show T x 9 [(0, vR 0), (1, vI k9), (2, vI a9), (3, vI b9)] [] _ _ _
    refine st_new C dX10_rule_9 n0 nw_X10_16 hn0 (by omega) (by show _ + 3 ≤ _; omega) ?_
    show T x 12 [(0, vR 0), (1, vI k9), (2, vI a9), (3, vI b9)] [vR n0] (hput h n0 (oO 4 [vI 0, vI 0, vI 0])) (0 + 1) (0 + 3)
    refine st_dup C dX10_rule_12 rfl ?_
    refine st_iload_n C 1 dX10_rule_13 rfl rfl ?_
    refine st_iload_n C 2 dX10_rule_14 rfl rfl ?_
    refine st_iload_n C 3 dX10_rule_15 rfl rfl ?_
    refine st_callI (st := [vR n0]) C dX10_rule_16 [vI k9, vI a9, vI b9] (k_Rule (k9 := k9) (a9 := a9) (b9 := b9) hput_s hk9) (fun _ _ q => by cases q.1) w_X10_85 rfl (by decide) (by decide) (by omega) (by omega) (Nat.le_of_ble_eq_true rfl) (ko_rn ?_)
    show T x 19 [(0, vR 0), (1, vI k9), (2, vI a9), (3, vI b9)] [vR n0] (hput (hput h n0 (oO 4 [vI 0, vI 0, vI 0])) n0 (oO 4 [vI k9, vI a9, vI b9])) _ _
    refine st_astore C dX10_rule_19 (by decide) rfl ?_
    show T x 21 [(0, vR 0), (1, vI k9), (2, vI a9), (3, vI b9), (4, vR n0)] [] _ _ _
    refine st_aload C dX10_rule_21 rfl ?_
    refine st_aload_n C 0 dX10_rule_23 rfl rfl ?_
    refine st_getf C dX10_rule_24 fl_X10_9 (hput_o (by omega) (hput_o (by omega) hs)) rfl ?_
    refine st_aload_n C 0 dX10_rule_27 rfl rfl ?_
    refine st_getf C dX10_rule_28 fl_X10_65 (hput_o (by omega) (hput_o (by omega) hs)) rfl ?_
    by_cases b_31 : RuleHolds k9 a9 b9 mf
    · refine st_callV (st := []) C dX10_rule_31 [vR 1, vR 9] (k_holdsIn_t (k9 := k9) (a9 := a9) (b9 := b9) (rf := mf) hput_s (hput_o (by omega) (hput_o (by omega) hM)) (hput_o (by omega) (hput_o (by omega) hx9)) (hput_o (by omega) (hput_o (by omega) hx14)) (hput_o (by omega) (hput_o (by omega) hx15)) (by omega) (by omega) (by omega) (by omega) (by omega) (by omega) (by omega) (by first | exact hq | exact absurd (by assumption) hQ) b_31) hput_s w_X10_88 rfl (by decide) (by decide) (by omega) (by omega) (Nat.le_of_ble_eq_true rfl) (ko_rs (fun q2 s2 _ => ?_))
      show T x 34 [(0, vR 0), (1, vI k9), (2, vI a9), (3, vI b9), (4, vR n0)] [vI 1] _ _ _
      refine st_if_ne (tgt := 45) C dX10_rule_34 (by decide) (fun c_34 => ?_) (fun c_34 => by omega)
      refine st_aload_n C 0 dX10_rule_45 rfl rfl ?_
      refine st_getf C dX10_rule_46 fl_X10_22 (sc_o (by omega) (by omega) (hput_o (by omega) (hput_o (by omega) hs))) rfl ?_
      refine st_if_lt (tgt := 61) C dX10_rule_49 (by decide) (fun c_49 => by omega) (fun c_49 => ?_)
      refine st_aload_n C 0 dX10_rule_52 rfl rfl ?_
      refine st_getf C dX10_rule_53 fl_X10_22 (sc_o (by omega) (by omega) (hput_o (by omega) (hput_o (by omega) hs))) rfl ?_
      refine st_bipush C dX10_rule_56 (by decide) (by decide) ?_
      refine st_icmp_lt (tgt := 69) C dX10_rule_58 (by decide) (fun c_58 => ?_) (fun c_58 => by omega)
      refine st_aload_n C 0 dX10_rule_69 rfl rfl ?_
      refine st_getf C dX10_rule_70 fl_X10_18 (sc_o (by omega) (by omega) (hput_o (by omega) (hput_o (by omega) hs))) rfl ?_
      refine st_aload_n C 0 dX10_rule_73 rfl rfl ?_
      refine st_getf C dX10_rule_74 fl_X10_22 (sc_o (by omega) (by omega) (hput_o (by omega) (hput_o (by omega) hs))) rfl ?_
      refine st_aload C dX10_rule_77 rfl ?_
      refine st_aast (r := (RX5, TX5, 3)) C dX10_rule_79 (fun _ => rfl) rfl (sc_o (by omega) (by omega) (hput_o (by omega) (hput_o (by omega) hrf))) (sc_o (by omega) (by omega) hput_s) (by omega) (by omega) ?_
      refine st_aload_n C 0 dX10_rule_80 rfl rfl ?_
      refine st_dup C dX10_rule_81 rfl ?_
      refine st_getf C dX10_rule_82 fl_X10_22 (hput_o (by omega) (sc_o (by omega) (by omega) (hput_o (by omega) (hput_o (by omega) hs)))) rfl ?_
      refine st_iconst C dX10_rule_85 (by decide) ?_
      refine st_iadd C dX10_rule_86 ⟨(by omega), (by omega)⟩ ?_
      refine st_putf C dX10_rule_87 fp_X10_22 (fun q => by cases q) (hput_o (by omega) (sc_o (by omega) (by omega) (hput_o (by omega) (hput_o (by omega) hs)))) (Nat.le_of_ble_eq_true rfl) fit_int ?_
      show T x 90 [(0, vR 0), (1, vI k9), (2, vI a9), (3, vI b9), (4, vR n0)] [] (hput (hput (sc (hput (hput h n0 (oO 4 [vI 0, vI 0, vI 0])) n0 (oO 4 [vI k9, vI a9, vI b9])) 14 15 q2 s2) 3 (oA 4 6 (fput ruf rc (some n0)))) 0 (oO 9 [vR 1, vR 2, vR 3, vI (rc + 1), vR 4, vR 5, vI dc, vR 6, vR 7, vR 8, vR 9, vR 10])) _ _
      refine st_aload_n C 0 dX10_rule_90 rfl rfl ?_
      refine st_getf C dX10_rule_91 fl_X10_22 hput_s rfl ?_
      refine st_iconst C dX10_rule_94 (by decide) ?_
      refine st_isub C dX10_rule_95 ⟨(by omega), (by omega)⟩ ?_
      exact st_ireturn C F dX10_rule_96 rfl (by first | exact ⟨by rw [show rc + 1 - 1 = rc by omega], q2, s2, by rw [hput_hput]⟩ | exact absurd (by assumption) hQ | exact absurd hQ (by assumption) | exact absurd (by assumption) hq | exact absurd hq (by assumption) | (exfalso; omega)) (by omega) (by omega)
    · refine st_callV (st := []) C dX10_rule_31 [vR 1, vR 9] (k_holdsIn_f (k9 := k9) (a9 := a9) (b9 := b9) (rf := mf) hput_s (hput_o (by omega) (hput_o (by omega) hM)) (hput_o (by omega) (hput_o (by omega) hx9)) (hput_o (by omega) (hput_o (by omega) hx14)) (hput_o (by omega) (hput_o (by omega) hx15)) (by omega) (by omega) (by omega) (by omega) (by omega) (by omega) (by omega) (by first | exact hq | exact absurd (by assumption) hQ) b_31) hput_s w_X10_88 rfl (by decide) (by decide) (by omega) (by omega) (Nat.le_of_ble_eq_true rfl) (ko_rs (fun q2 s2 _ => ?_))
      show T x 34 [(0, vR 0), (1, vI k9), (2, vI a9), (3, vI b9), (4, vR n0)] [vI 0] _ _ _
      refine st_if_ne (tgt := 45) C dX10_rule_34 (by decide) (fun c_34 => by omega) (fun c_34 => ?_)
      exact st_throw C F dX10_rule_37 dX10_rule_40 dX10_rule_41 dX10_rule_44 xw_X10_92 (by decide) (by first | exact ⟨by rw [show rc + 1 - 1 = rc by omega], q2, s2, by rw [hput_hput]⟩ | exact absurd (by assumption) hQ | exact absurd hQ (by assumption) | exact absurd (by assumption) hq | exact absurd hq (by assumption) | (exfalso; omega)) (by omega) (by omega)
  · refine st_callS (st := []) C dX10_rule_3 [vI k9, vI a9, vI b9] (k_isRule_f (k9 := k9) (a9 := a9) (b9 := b9)  b_3) w_X10_77 rfl (by decide) (by decide) (by omega) (by omega) (Nat.le_of_ble_eq_true rfl) (ko_rt ?_)
    show T x 6 [(0, vR 0), (1, vI k9), (2, vI a9), (3, vI b9)] [vI 0] _ _ _
    refine st_callS (st := []) C dX10_rule_6 [vI 0] k_need_f w_X10_81 rfl (by decide) (by decide) (by omega) (by omega) (Nat.le_of_ble_eq_true rfl) (ko_th ?_)
    exact st_out C F (by first | exact ⟨by rw [show rc + 1 - 1 = rc by omega], q2, s2, by rw [hput_hput]⟩ | exact absurd (by assumption) hQ | exact absurd hQ (by assumption) | exact absurd (by assumption) hq | exact absurd hq (by assumption) | (exfalso; omega)) (by omega) (by omega)
