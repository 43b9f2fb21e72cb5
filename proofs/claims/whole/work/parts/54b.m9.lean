set_option maxRecDepth 20000 in
set_option maxHeartbeats 4000000 in
theorem m_drop_x1 {g : Gx} {h : HP} {mv mrc mmc mmk mdv mwl mwa mwp mth : Int} {mop : Int → Int} {b9 : Int} (hm : mO h mv mrc mmc mmk mdv mwl mwa mwp mth) (h206 : h 206 = some (oZ 4 mop)) (hv : 0 ≤ mv ∧ mv ≤ 40) (hz : ∀ i, 0 ≤ i → i ≤ 3 → mop i = 0 ∨ mop i = 1) (hO : ¬ (0 ≤ b9 ∧ b9 ≤ 3 ∧ mop b9 = 1)) : Ct g yX11_drop (.code yX11_drop cX11_drop 2 (some .int)) 3 0 0 [vR 200, vI b9] h (Rt (some (vI 0)) (hput h 200 (oO 10 [vR 201, vR 202, vR 203, vR 204, vR 205, vR 206, vR 207, vR 208, vR 209, vR 210, vR 211, vR 212, vR 213, vR 214, vR 215, vR 216, vR 217, vR 218, vI mv, vI mrc, vI mmc, vI mmk, vI mdv, vI mwl, vI mwa, vI mwp, vI 1]))) := by
  refine Ct.of (by decide) (Nat.le_of_ble_eq_true rfl) (fun x hg C F => ?_)
  subst hg
  show T x 0 [(0, vR 200), (1, vI b9)] [] h 0 0
  refine st_aload_n C 0 dX11_drop_0 rfl rfl ?_
  refine st_aload_n C 0 dX11_drop_1 rfl rfl ?_
  refine st_iload_n C 1 dX11_drop_2 rfl rfl ?_
  refine st_callV (st := [vR 200]) C dX11_drop_3 [vI b9] (k_isBranch_f (b9 := b9) hm h206 hz hO) hm w_X11_126 rfl (by decide) (by decide) (by omega) (by omega) (Nat.le_of_ble_eq_true rfl) (ko_rt ?_)
  show T x 6 [(0, vR 200), (1, vI b9)] [vI 0, vR 200] _ _ _
  refine st_iconst C dX11_drop_6 (by decide) ?_
  refine st_callV (st := []) C dX11_drop_7 [vI 0, vI 1] (k_no_f (p9 := 1) hm) hm w_X11_112 rfl (by decide) (by decide) (by omega) (by omega) (Nat.le_of_ble_eq_true rfl) (ko_rt ?_)
  show T x 10 [(0, vR 200), (1, vI b9)] [vI 1] (hput h 200 (oO 10 [vR 201, vR 202, vR 203, vR 204, vR 205, vR 206, vR 207, vR 208, vR 209, vR 210, vR 211, vR 212, vR 213, vR 214, vR 215, vR 216, vR 217, vR 218, vI mv, vI mrc, vI mmc, vI mmk, vI mdv, vI mwl, vI mwa, vI mwp, vI 1])) _ _
  refine st_if_eq (tgt := 15) C dX11_drop_10 (by decide) (fun c_10 => by omega) (fun c_10 => ?_)
  refine st_iconst C dX11_drop_13 (by decide) ?_
  exact st_ireturn C F dX11_drop_14 rfl (by first | exact ⟨by with_reducible rfl, by with_reducible rfl⟩ | (exfalso; omega)) (by omega) (by omega)
set_option maxRecDepth 20000 in
set_option maxHeartbeats 4000000 in
theorem m_drop {g : Gx} {h : HP} {mv mrc mmc mmk mdv mwl mwa mwp mth : Int} {mop : Int → Int} {me : Int → Int} {b9 : Int} (hm : mO h mv mrc mmc mmk mdv mwl mwa mwp mth) (h206 : h 206 = some (oZ 4 mop)) (h208 : h 208 = some (oI 1216 me)) (hv : 0 ≤ mv ∧ mv ≤ 40) (hz : ∀ i, 0 ≤ i → i ≤ 3 → mop i = 0 ∨ mop i = 1) (hO : 0 ≤ b9 ∧ b9 ≤ 3 ∧ mop b9 = 1) : Ct g yX11_drop (.code yX11_drop cX11_drop 2 (some .int)) 3 0 0 [vR 200, vI b9] h (Rt (some (vI (cnt (fun j => 0 ≤ me (304 * b9 + j)) 304))) (hput (hput h 200 (oO 10 [vR 201, vR 202, vR 203, vR 204, vR 205, vR 206, vR 207, vR 208, vR 209, vR 210, vR 211, vR 212, vR 213, vR 214, vR 215, vR 216, vR 217, vR 218, vI mv, vI mrc, vI mmc, vI mmk, vI mdv, vI mwl, vI mwa, vI mwp, vI 0])) 206 (oZ 4 (fput mop b9 0)))) := by
  refine Ct.of (by decide) (Nat.le_of_ble_eq_true rfl) (fun x hg C F => ?_)
  subst hg
  have hb : 0 ≤ b9 ∧ b9 ≤ 3 := ⟨hO.1, hO.2.1⟩
  show T x 0 [(0, vR 200), (1, vI b9)] [] h 0 0
  refine st_aload_n C 0 dX11_drop_0 rfl rfl ?_
  refine st_aload_n C 0 dX11_drop_1 rfl rfl ?_
  refine st_iload_n C 1 dX11_drop_2 rfl rfl ?_
  refine st_callV (st := [vR 200]) C dX11_drop_3 [vI b9] (k_isBranch_t (b9 := b9) hm h206 hz hO) hm w_X11_126 rfl (by decide) (by decide) (by omega) (by omega) (Nat.le_of_ble_eq_true rfl) (ko_rt ?_)
  show T x 6 [(0, vR 200), (1, vI b9)] [vI 1, vR 200] _ _ _
  refine st_iconst C dX11_drop_6 (by decide) ?_
  refine st_callV (st := []) C dX11_drop_7 [vI 1, vI 1] (k_no_t (p9 := 1) hm) hm w_X11_112 rfl (by decide) (by decide) (by omega) (by omega) (Nat.le_of_ble_eq_true rfl) (ko_rt ?_)
  show T x 10 [(0, vR 200), (1, vI b9)] [vI 0] (hput h 200 (oO 10 [vR 201, vR 202, vR 203, vR 204, vR 205, vR 206, vR 207, vR 208, vR 209, vR 210, vR 211, vR 212, vR 213, vR 214, vR 215, vR 216, vR 217, vR 218, vI mv, vI mrc, vI mmc, vI mmk, vI mdv, vI mwl, vI mwa, vI mwp, vI 0])) _ _
  refine st_if_eq (tgt := 15) C dX11_drop_10 (by decide) (fun c_10 => ?_) (fun c_10 => by omega)
  refine st_aload_n C 0 dX11_drop_15 rfl rfl ?_
  refine st_getf C dX11_drop_16 fl_X11_25 hput_s rfl ?_
  refine st_iload_n C 1 dX11_drop_19 rfl rfl ?_
  refine st_iconst C dX11_drop_20 (by decide) ?_
  refine st_zast C dX11_drop_21 (by omega) (hput_o (by omega) h206) (by omega) (by omega) ?_
  refine st_aload_n C 0 dX11_drop_22 rfl rfl ?_
  refine st_iload_n C 1 dX11_drop_23 rfl rfl ?_
  refine st_callV (st := []) C dX11_drop_24 [vI b9] (k_editsOf (me := me) (b9 := b9) (hput_o (by omega) hput_s) (hput_o (by omega) (hput_o (by omega) h208)) (by omega)) (hput_o (by omega) hput_s) w_X11_129 rfl (by decide) (by decide) (by omega) (by omega) (Nat.le_of_ble_eq_true rfl) (ko_rt ?_)
  show T x 27 [(0, vR 200), (1, vI b9)] [vI (cnt (fun j => 0 ≤ me (304 * b9 + j)) 304)] _ _ _
  exact st_ireturn C F dX11_drop_27 rfl (by first | exact ⟨by with_reducible rfl, by with_reducible rfl⟩ | (exfalso; omega)) (by omega) (by omega)
set_option maxRecDepth 20000 in
set_option maxHeartbeats 4000000 in
theorem m_paint_x1 {g : Gx} {h : HP} {mv mrc mmc mmk mdv mwl mwa mwp mth : Int} {mop : Int → Int} {b9 : Int} {l9 x9 y9 v9 : Int} (hm : mO h mv mrc mmc mmk mdv mwl mwa mwp mth) (h206 : h 206 = some (oZ 4 mop)) (hv : 0 ≤ mv ∧ mv ≤ 40) (hz : ∀ i, 0 ≤ i → i ≤ 3 → mop i = 0 ∨ mop i = 1) (hO : ¬ (0 ≤ b9 ∧ b9 ≤ 3 ∧ mop b9 = 1)) : Ct g yX11_paint (.code yX11_paint cX11_paint 6 (some .int)) 4 0 0 [vR 200, vI b9, vI l9, vI x9, vI y9, vI v9] h (Rt (some (vI 0)) (hput h 200 (oO 10 [vR 201, vR 202, vR 203, vR 204, vR 205, vR 206, vR 207, vR 208, vR 209, vR 210, vR 211, vR 212, vR 213, vR 214, vR 215, vR 216, vR 217, vR 218, vI mv, vI mrc, vI mmc, vI mmk, vI mdv, vI mwl, vI mwa, vI mwp, vI 1]))) := by
  refine Ct.of (by decide) (Nat.le_of_ble_eq_true rfl) (fun x hg C F => ?_)
  subst hg
  show T x 0 [(0, vR 200), (1, vI b9), (2, vI l9), (3, vI x9), (4, vI y9), (5, vI v9)] [] h 0 0
  refine st_aload_n C 0 dX11_paint_0 rfl rfl ?_
  refine st_aload_n C 0 dX11_paint_1 rfl rfl ?_
  refine st_iload_n C 1 dX11_paint_2 rfl rfl ?_
  refine st_callV (st := [vR 200]) C dX11_paint_3 [vI b9] (k_isBranch_f (b9 := b9) hm h206 hz hO) hm w_X11_126 rfl (by decide) (by decide) (by omega) (by omega) (Nat.le_of_ble_eq_true rfl) (ko_rt ?_)
  show T x 6 [(0, vR 200), (1, vI b9), (2, vI l9), (3, vI x9), (4, vI y9), (5, vI v9)] [vI 0, vR 200] _ _ _
  refine st_iconst C dX11_paint_6 (by decide) ?_
  refine st_callV (st := []) C dX11_paint_7 [vI 0, vI 1] (k_no_f (p9 := 1) hm) hm w_X11_112 rfl (by decide) (by decide) (by omega) (by omega) (Nat.le_of_ble_eq_true rfl) (ko_rt ?_)
  show T x 10 [(0, vR 200), (1, vI b9), (2, vI l9), (3, vI x9), (4, vI y9), (5, vI v9)] [vI 1] (hput h 200 (oO 10 [vR 201, vR 202, vR 203, vR 204, vR 205, vR 206, vR 207, vR 208, vR 209, vR 210, vR 211, vR 212, vR 213, vR 214, vR 215, vR 216, vR 217, vR 218, vI mv, vI mrc, vI mmc, vI mmk, vI mdv, vI mwl, vI mwa, vI mwp, vI 1])) _ _
  refine st_if_ne (tgt := 47) C dX11_paint_10 (by decide) (fun c_10 => ?_) (fun c_10 => by omega)
  refine st_iconst C dX11_paint_47 (by decide) ?_
  exact st_ireturn C F dX11_paint_48 rfl (by first | exact ⟨by with_reducible rfl, by with_reducible rfl⟩ | (exfalso; omega)) (by omega) (by omega)
set_option maxRecDepth 20000 in
set_option maxHeartbeats 4000000 in
theorem m_paint_x2 {g : Gx} {h : HP} {mv mrc mmc mmk mdv mwl mwa mwp mth : Int} {mop : Int → Int} {b9 : Int} {l9 x9 y9 v9 : Int} (hm : mO h mv mrc mmc mmk mdv mwl mwa mwp mth) (h206 : h 206 = some (oZ 4 mop)) (hv : 0 ≤ mv ∧ mv ≤ 40) (hz : ∀ i, 0 ≤ i → i ≤ 3 → mop i = 0 ∨ mop i = 1) (hO : 0 ≤ b9 ∧ b9 ≤ 3 ∧ mop b9 = 1) (hQ : ¬ ((0 ≤ l9 ∧ l9 ≤ 2 ∧ 0 ≤ x9 ∧ x9 ≤ 7 ∧ 0 ≤ y9 ∧ y9 ≤ 7) ∧ 0 ≤ v9 ∧ v9 ≤ 9)) : Ct g yX11_paint (.code yX11_paint cX11_paint 6 (some .int)) 4 0 0 [vR 200, vI b9, vI l9, vI x9, vI y9, vI v9] h (Rt (some (vI 0)) (hput (hput h 200 (oO 10 [vR 201, vR 202, vR 203, vR 204, vR 205, vR 206, vR 207, vR 208, vR 209, vR 210, vR 211, vR 212, vR 213, vR 214, vR 215, vR 216, vR 217, vR 218, vI mv, vI mrc, vI mmc, vI mmk, vI mdv, vI mwl, vI mwa, vI mwp, vI 0])) 200 (oO 10 [vR 201, vR 202, vR 203, vR 204, vR 205, vR 206, vR 207, vR 208, vR 209, vR 210, vR 211, vR 212, vR 213, vR 214, vR 215, vR 216, vR 217, vR 218, vI mv, vI mrc, vI mmc, vI mmk, vI mdv, vI mwl, vI mwa, vI mwp, vI 2]))) := by
  refine Ct.of (by decide) (Nat.le_of_ble_eq_true rfl) (fun x hg C F => ?_)
  subst hg
  have hb : 0 ≤ b9 ∧ b9 ≤ 3 := ⟨hO.1, hO.2.1⟩
  show T x 0 [(0, vR 200), (1, vI b9), (2, vI l9), (3, vI x9), (4, vI y9), (5, vI v9)] [] h 0 0
  refine st_aload_n C 0 dX11_paint_0 rfl rfl ?_
  refine st_aload_n C 0 dX11_paint_1 rfl rfl ?_
  refine st_iload_n C 1 dX11_paint_2 rfl rfl ?_
  refine st_callV (st := [vR 200]) C dX11_paint_3 [vI b9] (k_isBranch_t (b9 := b9) hm h206 hz hO) hm w_X11_126 rfl (by decide) (by decide) (by omega) (by omega) (Nat.le_of_ble_eq_true rfl) (ko_rt ?_)
  show T x 6 [(0, vR 200), (1, vI b9), (2, vI l9), (3, vI x9), (4, vI y9), (5, vI v9)] [vI 1, vR 200] _ _ _
  refine st_iconst C dX11_paint_6 (by decide) ?_
  refine st_callV (st := []) C dX11_paint_7 [vI 1, vI 1] (k_no_t (p9 := 1) hm) hm w_X11_112 rfl (by decide) (by decide) (by omega) (by omega) (Nat.le_of_ble_eq_true rfl) (ko_rt ?_)
  show T x 10 [(0, vR 200), (1, vI b9), (2, vI l9), (3, vI x9), (4, vI y9), (5, vI v9)] [vI 0] (hput h 200 (oO 10 [vR 201, vR 202, vR 203, vR 204, vR 205, vR 206, vR 207, vR 208, vR 209, vR 210, vR 211, vR 212, vR 213, vR 214, vR 215, vR 216, vR 217, vR 218, vI mv, vI mrc, vI mmc, vI mmk, vI mdv, vI mwl, vI mwa, vI mwp, vI 0])) _ _
  refine st_if_ne (tgt := 47) C dX11_paint_10 (by decide) (fun c_10 => by omega) (fun c_10 => ?_)
  refine st_aload_n C 0 dX11_paint_13 rfl rfl ?_
  refine st_iload_n C 2 dX11_paint_14 rfl rfl ?_
  refine st_iload_n C 3 dX11_paint_15 rfl rfl ?_
  refine st_iload C dX11_paint_16 rfl ?_
  by_cases b_18 : 0 ≤ l9 ∧ l9 ≤ 2 ∧ 0 ≤ x9 ∧ x9 ≤ 7 ∧ 0 ≤ y9 ∧ y9 ≤ 7
  · refine st_callS (st := [vR 200]) C dX11_paint_18 [vI l9, vI x9, vI y9] (k_mPlace_t (v9 := l9) (x9 := x9) (y9 := y9)  b_18) w_X11_132 rfl (by decide) (by decide) (by omega) (by omega) (Nat.le_of_ble_eq_true rfl) (ko_rt ?_)
    show T x 21 [(0, vR 200), (1, vI b9), (2, vI l9), (3, vI x9), (4, vI y9), (5, vI v9)] [vI 1, vR 200] _ _ _
    refine st_if_eq (tgt := 39) C dX11_paint_21 (by decide) (fun c_21 => by omega) (fun c_21 => ?_)
    refine st_iload C dX11_paint_24 rfl ?_
    refine st_iconst C dX11_paint_26 (by decide) ?_
    refine st_bipush C dX11_paint_27 (by decide) (by decide) ?_
    by_cases b_29 : 0 ≤ v9 ∧ v9 ≤ 9
    · refine st_callS (st := [vR 200]) C dX11_paint_29 [vI v9, vI 0, vI 9] (k_isIn_t (v9 := v9) (l9 := 0) (u9 := 9)  b_29) w_X11_75 rfl (by decide) (by decide) (by omega) (by omega) (Nat.le_of_ble_eq_true rfl) (ko_rt ?_)
      show T x 32 [(0, vR 200), (1, vI b9), (2, vI l9), (3, vI x9), (4, vI y9), (5, vI v9)] [vI 1, vR 200] _ _ _
      refine st_if_eq (tgt := 39) C dX11_paint_32 (by decide) (fun c_32 => by omega) (fun c_32 => ?_)
      refine st_iconst C dX11_paint_35 (by decide) ?_
      refine st_goto (tgt := 40) C dX11_paint_36 (by decide) ?_
      refine st_iconst C dX11_paint_40 (by decide) ?_
      exfalso; omega
    · refine st_callS (st := [vR 200]) C dX11_paint_29 [vI v9, vI 0, vI 9] (k_isIn_f (v9 := v9) (l9 := 0) (u9 := 9)  b_29) w_X11_75 rfl (by decide) (by decide) (by omega) (by omega) (Nat.le_of_ble_eq_true rfl) (ko_rt ?_)
      show T x 32 [(0, vR 200), (1, vI b9), (2, vI l9), (3, vI x9), (4, vI y9), (5, vI v9)] [vI 0, vR 200] _ _ _
      refine st_if_eq (tgt := 39) C dX11_paint_32 (by decide) (fun c_32 => ?_) (fun c_32 => by omega)
      refine st_iconst C dX11_paint_39 (by decide) ?_
      refine st_iconst C dX11_paint_40 (by decide) ?_
      refine st_callV (st := []) C dX11_paint_41 [vI 0, vI 2] (k_no_f (p9 := 2) hput_s) hput_s w_X11_112 rfl (by decide) (by decide) (by omega) (by omega) (Nat.le_of_ble_eq_true rfl) (ko_rt ?_)
      show T x 44 [(0, vR 200), (1, vI b9), (2, vI l9), (3, vI x9), (4, vI y9), (5, vI v9)] [vI 1] (hput (hput h 200 (oO 10 [vR 201, vR 202, vR 203, vR 204, vR 205, vR 206, vR 207, vR 208, vR 209, vR 210, vR 211, vR 212, vR 213, vR 214, vR 215, vR 216, vR 217, vR 218, vI mv, vI mrc, vI mmc, vI mmk, vI mdv, vI mwl, vI mwa, vI mwp, vI 0])) 200 (oO 10 [vR 201, vR 202, vR 203, vR 204, vR 205, vR 206, vR 207, vR 208, vR 209, vR 210, vR 211, vR 212, vR 213, vR 214, vR 215, vR 216, vR 217, vR 218, vI mv, vI mrc, vI mmc, vI mmk, vI mdv, vI mwl, vI mwa, vI mwp, vI 2])) _ _
      refine st_if_eq (tgt := 49) C dX11_paint_44 (by decide) (fun c_44 => by omega) (fun c_44 => ?_)
      refine st_iconst C dX11_paint_47 (by decide) ?_
      exact st_ireturn C F dX11_paint_48 rfl (by first | (exfalso; omega) | exact ⟨by with_reducible rfl, by with_reducible rfl⟩) (by omega) (by omega)
  · refine st_callS (st := [vR 200]) C dX11_paint_18 [vI l9, vI x9, vI y9] (k_mPlace_f (v9 := l9) (x9 := x9) (y9 := y9)  b_18) w_X11_132 rfl (by decide) (by decide) (by omega) (by omega) (Nat.le_of_ble_eq_true rfl) (ko_rt ?_)
    show T x 21 [(0, vR 200), (1, vI b9), (2, vI l9), (3, vI x9), (4, vI y9), (5, vI v9)] [vI 0, vR 200] _ _ _
    refine st_if_eq (tgt := 39) C dX11_paint_21 (by decide) (fun c_21 => ?_) (fun c_21 => by omega)
    refine st_iconst C dX11_paint_39 (by decide) ?_
    refine st_iconst C dX11_paint_40 (by decide) ?_
    refine st_callV (st := []) C dX11_paint_41 [vI 0, vI 2] (k_no_f (p9 := 2) hput_s) hput_s w_X11_112 rfl (by decide) (by decide) (by omega) (by omega) (Nat.le_of_ble_eq_true rfl) (ko_rt ?_)
    show T x 44 [(0, vR 200), (1, vI b9), (2, vI l9), (3, vI x9), (4, vI y9), (5, vI v9)] [vI 1] (hput (hput h 200 (oO 10 [vR 201, vR 202, vR 203, vR 204, vR 205, vR 206, vR 207, vR 208, vR 209, vR 210, vR 211, vR 212, vR 213, vR 214, vR 215, vR 216, vR 217, vR 218, vI mv, vI mrc, vI mmc, vI mmk, vI mdv, vI mwl, vI mwa, vI mwp, vI 0])) 200 (oO 10 [vR 201, vR 202, vR 203, vR 204, vR 205, vR 206, vR 207, vR 208, vR 209, vR 210, vR 211, vR 212, vR 213, vR 214, vR 215, vR 216, vR 217, vR 218, vI mv, vI mrc, vI mmc, vI mmk, vI mdv, vI mwl, vI mwa, vI mwp, vI 2])) _ _
    refine st_if_eq (tgt := 49) C dX11_paint_44 (by decide) (fun c_44 => by omega) (fun c_44 => ?_)
    refine st_iconst C dX11_paint_47 (by decide) ?_
    exact st_ireturn C F dX11_paint_48 rfl (by first | (exfalso; omega) | exact ⟨by with_reducible rfl, by with_reducible rfl⟩) (by omega) (by omega)
set_option maxRecDepth 20000 in
set_option maxHeartbeats 4000000 in
theorem m_paint {g : Gx} {h : HP} {mv mrc mmc mmk mdv mwl mwa mwp mth : Int} {mop : Int → Int} {mb : Int → Int} {me : Int → Int} {mt : Int → Int} {b9 : Int} {l9 x9 y9 v9 : Int} (hm : mO h mv mrc mmc mmk mdv mwl mwa mwp mth) (h206 : h 206 = some (oZ 4 mop)) (h207 : h 207 = some (oI 1216 mb)) (h208 : h 208 = some (oI 1216 me)) (h209 : h 209 = some (oI 1216 mt)) (hv : 0 ≤ mv ∧ mv ≤ 40) (hz : ∀ i, 0 ≤ i → i ≤ 3 → mop i = 0 ∨ mop i = 1) (hO : 0 ≤ b9 ∧ b9 ≤ 3 ∧ mop b9 = 1) (hQ : (0 ≤ l9 ∧ l9 ≤ 2 ∧ 0 ≤ x9 ∧ x9 ≤ 7 ∧ 0 ≤ y9 ∧ y9 ≤ 7) ∧ 0 ≤ v9 ∧ v9 ≤ 9) : Ct g yX11_paint (.code yX11_paint cX11_paint 6 (some .int)) 4 0 0 [vR 200, vI b9, vI l9, vI x9, vI y9, vI v9] h (Rt (some (vI (cnt (fun j => 0 ≤ (medF me mb (304 * b9 + (64 * l9 + 8 * y9 + x9)) v9) (304 * b9 + j)) 304))) (hput (hput (hput (hput h 200 (oO 10 [vR 201, vR 202, vR 203, vR 204, vR 205, vR 206, vR 207, vR 208, vR 209, vR 210, vR 211, vR 212, vR 213, vR 214, vR 215, vR 216, vR 217, vR 218, vI mv, vI mrc, vI mmc, vI mmk, vI mdv, vI mwl, vI mwa, vI mwp, vI 0])) 200 (oO 10 [vR 201, vR 202, vR 203, vR 204, vR 205, vR 206, vR 207, vR 208, vR 209, vR 210, vR 211, vR 212, vR 213, vR 214, vR 215, vR 216, vR 217, vR 218, vI mv, vI mrc, vI mmc, vI mmk, vI mdv, vI mwl, vI mwa, vI mwp, vI 0])) 208 (oI 1216 (medF me mb (304 * b9 + (64 * l9 + 8 * y9 + x9)) v9))) 209 (oI 1216 (mtoF mt mb (304 * b9 + (64 * l9 + 8 * y9 + x9)) v9)))) := by
  refine Ct.of (by decide) (Nat.le_of_ble_eq_true rfl) (fun x hg C F => ?_)
  subst hg
  have hb : 0 ≤ b9 ∧ b9 ≤ 3 := ⟨hO.1, hO.2.1⟩
  show T x 0 [(0, vR 200), (1, vI b9), (2, vI l9), (3, vI x9), (4, vI y9), (5, vI v9)] [] h 0 0
  refine st_aload_n C 0 dX11_paint_0 rfl rfl ?_
  refine st_aload_n C 0 dX11_paint_1 rfl rfl ?_
  refine st_iload_n C 1 dX11_paint_2 rfl rfl ?_
  refine st_callV (st := [vR 200]) C dX11_paint_3 [vI b9] (k_isBranch_t (b9 := b9) hm h206 hz hO) hm w_X11_126 rfl (by decide) (by decide) (by omega) (by omega) (Nat.le_of_ble_eq_true rfl) (ko_rt ?_)
  show T x 6 [(0, vR 200), (1, vI b9), (2, vI l9), (3, vI x9), (4, vI y9), (5, vI v9)] [vI 1, vR 200] _ _ _
  refine st_iconst C dX11_paint_6 (by decide) ?_
  refine st_callV (st := []) C dX11_paint_7 [vI 1, vI 1] (k_no_t (p9 := 1) hm) hm w_X11_112 rfl (by decide) (by decide) (by omega) (by omega) (Nat.le_of_ble_eq_true rfl) (ko_rt ?_)
  show T x 10 [(0, vR 200), (1, vI b9), (2, vI l9), (3, vI x9), (4, vI y9), (5, vI v9)] [vI 0] (hput h 200 (oO 10 [vR 201, vR 202, vR 203, vR 204, vR 205, vR 206, vR 207, vR 208, vR 209, vR 210, vR 211, vR 212, vR 213, vR 214, vR 215, vR 216, vR 217, vR 218, vI mv, vI mrc, vI mmc, vI mmk, vI mdv, vI mwl, vI mwa, vI mwp, vI 0])) _ _
  refine st_if_ne (tgt := 47) C dX11_paint_10 (by decide) (fun c_10 => by omega) (fun c_10 => ?_)
  refine st_aload_n C 0 dX11_paint_13 rfl rfl ?_
  refine st_iload_n C 2 dX11_paint_14 rfl rfl ?_
  refine st_iload_n C 3 dX11_paint_15 rfl rfl ?_
  refine st_iload C dX11_paint_16 rfl ?_
  have b_18 : 0 ≤ l9 ∧ l9 ≤ 2 ∧ 0 ≤ x9 ∧ x9 ≤ 7 ∧ 0 ≤ y9 ∧ y9 ≤ 7 := by omega
  refine st_callS (st := [vR 200]) C dX11_paint_18 [vI l9, vI x9, vI y9] (k_mPlace_t (v9 := l9) (x9 := x9) (y9 := y9)  b_18) w_X11_132 rfl (by decide) (by decide) (by omega) (by omega) (Nat.le_of_ble_eq_true rfl) (ko_rt ?_)
  show T x 21 [(0, vR 200), (1, vI b9), (2, vI l9), (3, vI x9), (4, vI y9), (5, vI v9)] [vI 1, vR 200] _ _ _
  refine st_if_eq (tgt := 39) C dX11_paint_21 (by decide) (fun c_21 => by omega) (fun c_21 => ?_)
  refine st_iload C dX11_paint_24 rfl ?_
  refine st_iconst C dX11_paint_26 (by decide) ?_
  refine st_bipush C dX11_paint_27 (by decide) (by decide) ?_
  have b_29 : 0 ≤ v9 ∧ v9 ≤ 9 := by omega
  refine st_callS (st := [vR 200]) C dX11_paint_29 [vI v9, vI 0, vI 9] (k_isIn_t (v9 := v9) (l9 := 0) (u9 := 9)  b_29) w_X11_75 rfl (by decide) (by decide) (by omega) (by omega) (Nat.le_of_ble_eq_true rfl) (ko_rt ?_)
  show T x 32 [(0, vR 200), (1, vI b9), (2, vI l9), (3, vI x9), (4, vI y9), (5, vI v9)] [vI 1, vR 200] _ _ _
  refine st_if_eq (tgt := 39) C dX11_paint_32 (by decide) (fun c_32 => by omega) (fun c_32 => ?_)
  refine st_iconst C dX11_paint_35 (by decide) ?_
  refine st_goto (tgt := 40) C dX11_paint_36 (by decide) ?_
  refine st_iconst C dX11_paint_40 (by decide) ?_
  refine st_callV (st := []) C dX11_paint_41 [vI 1, vI 2] (k_no_t (p9 := 2) hput_s) hput_s w_X11_112 rfl (by decide) (by decide) (by omega) (by omega) (Nat.le_of_ble_eq_true rfl) (ko_rt ?_)
  show T x 44 [(0, vR 200), (1, vI b9), (2, vI l9), (3, vI x9), (4, vI y9), (5, vI v9)] [vI 0] (hput (hput h 200 (oO 10 [vR 201, vR 202, vR 203, vR 204, vR 205, vR 206, vR 207, vR 208, vR 209, vR 210, vR 211, vR 212, vR 213, vR 214, vR 215, vR 216, vR 217, vR 218, vI mv, vI mrc, vI mmc, vI mmk, vI mdv, vI mwl, vI mwa, vI mwp, vI 0])) 200 (oO 10 [vR 201, vR 202, vR 203, vR 204, vR 205, vR 206, vR 207, vR 208, vR 209, vR 210, vR 211, vR 212, vR 213, vR 214, vR 215, vR 216, vR 217, vR 218, vI mv, vI mrc, vI mmc, vI mmk, vI mdv, vI mwl, vI mwa, vI mwp, vI 0])) _ _
  refine st_if_eq (tgt := 49) C dX11_paint_44 (by decide) (fun c_44 => ?_) (fun c_44 => by omega)
  refine st_aload_n C 0 dX11_paint_49 rfl rfl ?_
  refine st_iload_n C 1 dX11_paint_50 rfl rfl ?_
  refine st_bipush C dX11_paint_51 (by decide) (by decide) ?_
  refine st_iload_n C 2 dX11_paint_53 rfl rfl ?_
  refine st_imul C dX11_paint_54 ⟨(by omega), (by omega)⟩ ?_
  refine st_bipush C dX11_paint_55 (by decide) (by decide) ?_
  refine st_iload C dX11_paint_57 rfl ?_
  refine st_imul C dX11_paint_59 ⟨(by omega), (by omega)⟩ ?_
  refine st_iadd C dX11_paint_60 ⟨(by omega), (by omega)⟩ ?_
  refine st_iload_n C 3 dX11_paint_61 rfl rfl ?_
  refine st_iadd C dX11_paint_62 ⟨(by omega), (by omega)⟩ ?_
  refine st_iload C dX11_paint_63 rfl ?_
  refine st_callV (st := []) C dX11_paint_65 [vI b9, vI (64 * l9 + (8 * y9) + x9), vI v9] (k_medit (b9 := b9) (s9 := (64 * l9 + (8 * y9) + x9)) (v9 := v9) hput_s (hput_o (by omega) (hput_o (by omega) h207)) (hput_o (by omega) (hput_o (by omega) h208)) (hput_o (by omega) (hput_o (by omega) h209)) (by omega) (by omega)) hput_s w_X11_135 rfl (by decide) (by decide) (by omega) (by omega) (Nat.le_of_ble_eq_true rfl) (ko_rn ?_)
  show T x 68 [(0, vR 200), (1, vI b9), (2, vI l9), (3, vI x9), (4, vI y9), (5, vI v9)] [] (hput (hput (hput (hput h 200 (oO 10 [vR 201, vR 202, vR 203, vR 204, vR 205, vR 206, vR 207, vR 208, vR 209, vR 210, vR 211, vR 212, vR 213, vR 214, vR 215, vR 216, vR 217, vR 218, vI mv, vI mrc, vI mmc, vI mmk, vI mdv, vI mwl, vI mwa, vI mwp, vI 0])) 200 (oO 10 [vR 201, vR 202, vR 203, vR 204, vR 205, vR 206, vR 207, vR 208, vR 209, vR 210, vR 211, vR 212, vR 213, vR 214, vR 215, vR 216, vR 217, vR 218, vI mv, vI mrc, vI mmc, vI mmk, vI mdv, vI mwl, vI mwa, vI mwp, vI 0])) 208 (oI 1216 (medF me mb (304 * b9 + (64 * l9 + (8 * y9) + x9)) v9))) 209 (oI 1216 (mtoF mt mb (304 * b9 + (64 * l9 + (8 * y9) + x9)) v9))) _ _
  refine st_aload_n C 0 dX11_paint_68 rfl rfl ?_
  refine st_iload_n C 1 dX11_paint_69 rfl rfl ?_
  refine st_callV (st := []) C dX11_paint_70 [vI b9] (k_editsOf (me := (medF me mb (304 * b9 + (64 * l9 + (8 * y9) + x9)) v9)) (b9 := b9) (hput_o (by omega) (hput_o (by omega) hput_s)) (hput_o (by omega) hput_s) (by omega)) (hput_o (by omega) (hput_o (by omega) hput_s)) w_X11_129 rfl (by decide) (by decide) (by omega) (by omega) (Nat.le_of_ble_eq_true rfl) (ko_rt ?_)
  show T x 73 [(0, vR 200), (1, vI b9), (2, vI l9), (3, vI x9), (4, vI y9), (5, vI v9)] [vI (cnt (fun j => 0 ≤ (medF me mb (304 * b9 + (64 * l9 + (8 * y9) + x9)) v9) (304 * b9 + j)) 304)] _ _ _
  exact st_ireturn C F dX11_paint_73 rfl (by first | exact ⟨by with_reducible rfl, by with_reducible rfl⟩ | (exfalso; omega)) (by omega) (by omega)
set_option maxRecDepth 20000 in
set_option maxHeartbeats 4000000 in
theorem m_road_x1 {g : Gx} {h : HP} {mv mrc mmc mmk mdv mwl mwa mwp mth : Int} {mop : Int → Int} {b9 : Int} {x9 y9 d9 i9 : Int} (hm : mO h mv mrc mmc mmk mdv mwl mwa mwp mth) (h206 : h 206 = some (oZ 4 mop)) (hv : 0 ≤ mv ∧ mv ≤ 40) (hz : ∀ i, 0 ≤ i → i ≤ 3 → mop i = 0 ∨ mop i = 1) (hO : ¬ (0 ≤ b9 ∧ b9 ≤ 3 ∧ mop b9 = 1)) : Ct g yX11_road (.code yX11_road cX11_road 6 (some .int)) 3 0 0 [vR 200, vI b9, vI x9, vI y9, vI d9, vI i9] h (Rt (some (vI 0)) (hput h 200 (oO 10 [vR 201, vR 202, vR 203, vR 204, vR 205, vR 206, vR 207, vR 208, vR 209, vR 210, vR 211, vR 212, vR 213, vR 214, vR 215, vR 216, vR 217, vR 218, vI mv, vI mrc, vI mmc, vI mmk, vI mdv, vI mwl, vI mwa, vI mwp, vI 1]))) := by
  refine Ct.of (by decide) (Nat.le_of_ble_eq_true rfl) (fun x hg C F => ?_)
  subst hg
  show T x 0 [(0, vR 200), (1, vI b9), (2, vI x9), (3, vI y9), (4, vI d9), (5, vI i9)] [] h 0 0
  refine st_aload_n C 0 dX11_road_0 rfl rfl ?_
  refine st_aload_n C 0 dX11_road_1 rfl rfl ?_
  refine st_iload_n C 1 dX11_road_2 rfl rfl ?_
  refine st_callV (st := [vR 200]) C dX11_road_3 [vI b9] (k_isBranch_f (b9 := b9) hm h206 hz hO) hm w_X11_126 rfl (by decide) (by decide) (by omega) (by omega) (Nat.le_of_ble_eq_true rfl) (ko_rt ?_)
  show T x 6 [(0, vR 200), (1, vI b9), (2, vI x9), (3, vI y9), (4, vI d9), (5, vI i9)] [vI 0, vR 200] _ _ _
  refine st_iconst C dX11_road_6 (by decide) ?_
  refine st_callV (st := []) C dX11_road_7 [vI 0, vI 1] (k_no_f (p9 := 1) hm) hm w_X11_112 rfl (by decide) (by decide) (by omega) (by omega) (Nat.le_of_ble_eq_true rfl) (ko_rt ?_)
  show T x 10 [(0, vR 200), (1, vI b9), (2, vI x9), (3, vI y9), (4, vI d9), (5, vI i9)] [vI 1] (hput h 200 (oO 10 [vR 201, vR 202, vR 203, vR 204, vR 205, vR 206, vR 207, vR 208, vR 209, vR 210, vR 211, vR 212, vR 213, vR 214, vR 215, vR 216, vR 217, vR 218, vI mv, vI mrc, vI mmc, vI mmk, vI mdv, vI mwl, vI mwa, vI mwp, vI 1])) _ _
  refine st_if_ne (tgt := 66) C dX11_road_10 (by decide) (fun c_10 => ?_) (fun c_10 => by omega)
  refine st_iconst C dX11_road_66 (by decide) ?_
  exact st_ireturn C F dX11_road_67 rfl (by first | exact ⟨by with_reducible rfl, by with_reducible rfl⟩ | (exfalso; omega)) (by omega) (by omega)
set_option maxRecDepth 20000 in
set_option maxHeartbeats 4000000 in
theorem m_road_x2 {g : Gx} {h : HP} {mv mrc mmc mmk mdv mwl mwa mwp mth : Int} {mop : Int → Int} {b9 : Int} {x9 y9 d9 i9 : Int} (hm : mO h mv mrc mmc mmk mdv mwl mwa mwp mth) (h206 : h 206 = some (oZ 4 mop)) (hv : 0 ≤ mv ∧ mv ≤ 40) (hz : ∀ i, 0 ≤ i → i ≤ 3 → mop i = 0 ∨ mop i = 1) (hO : 0 ≤ b9 ∧ b9 ≤ 3 ∧ mop b9 = 1) (hd : d9 = 0 ∨ d9 = 1) (hQ : ¬ ((d9 = 0 ∧ 0 ≤ x9 ∧ x9 ≤ 6 ∧ 0 ≤ y9 ∧ y9 ≤ 7) ∨ (d9 = 1 ∧ 0 ≤ x9 ∧ x9 ≤ 7 ∧ 0 ≤ y9 ∧ y9 ≤ 6))) : Ct g yX11_road (.code yX11_road cX11_road 6 (some .int)) 3 0 0 [vR 200, vI b9, vI x9, vI y9, vI d9, vI i9] h (Rt (some (vI 0)) (hput (hput h 200 (oO 10 [vR 201, vR 202, vR 203, vR 204, vR 205, vR 206, vR 207, vR 208, vR 209, vR 210, vR 211, vR 212, vR 213, vR 214, vR 215, vR 216, vR 217, vR 218, vI mv, vI mrc, vI mmc, vI mmk, vI mdv, vI mwl, vI mwa, vI mwp, vI 0])) 200 (oO 10 [vR 201, vR 202, vR 203, vR 204, vR 205, vR 206, vR 207, vR 208, vR 209, vR 210, vR 211, vR 212, vR 213, vR 214, vR 215, vR 216, vR 217, vR 218, vI mv, vI mrc, vI mmc, vI mmk, vI mdv, vI mwl, vI mwa, vI mwp, vI 2]))) := by
  refine Ct.of (by decide) (Nat.le_of_ble_eq_true rfl) (fun x hg C F => ?_)
  subst hg
  have hb : 0 ≤ b9 ∧ b9 ≤ 3 := ⟨hO.1, hO.2.1⟩
  show T x 0 [(0, vR 200), (1, vI b9), (2, vI x9), (3, vI y9), (4, vI d9), (5, vI i9)] [] h 0 0
  refine st_aload_n C 0 dX11_road_0 rfl rfl ?_
  refine st_aload_n C 0 dX11_road_1 rfl rfl ?_
  refine st_iload_n C 1 dX11_road_2 rfl rfl ?_
  refine st_callV (st := [vR 200]) C dX11_road_3 [vI b9] (k_isBranch_t (b9 := b9) hm h206 hz hO) hm w_X11_126 rfl (by decide) (by decide) (by omega) (by omega) (Nat.le_of_ble_eq_true rfl) (ko_rt ?_)
  show T x 6 [(0, vR 200), (1, vI b9), (2, vI x9), (3, vI y9), (4, vI d9), (5, vI i9)] [vI 1, vR 200] _ _ _
  refine st_iconst C dX11_road_6 (by decide) ?_
  refine st_callV (st := []) C dX11_road_7 [vI 1, vI 1] (k_no_t (p9 := 1) hm) hm w_X11_112 rfl (by decide) (by decide) (by omega) (by omega) (Nat.le_of_ble_eq_true rfl) (ko_rt ?_)
  show T x 10 [(0, vR 200), (1, vI b9), (2, vI x9), (3, vI y9), (4, vI d9), (5, vI i9)] [vI 0] (hput h 200 (oO 10 [vR 201, vR 202, vR 203, vR 204, vR 205, vR 206, vR 207, vR 208, vR 209, vR 210, vR 211, vR 212, vR 213, vR 214, vR 215, vR 216, vR 217, vR 218, vI mv, vI mrc, vI mmc, vI mmk, vI mdv, vI mwl, vI mwa, vI mwp, vI 0])) _ _
  refine st_if_ne (tgt := 66) C dX11_road_10 (by decide) (fun c_10 => by omega) (fun c_10 => ?_)
  refine st_aload_n C 0 dX11_road_13 rfl rfl ?_
  refine st_iload_n C 2 dX11_road_14 rfl rfl ?_
  refine st_iconst C dX11_road_15 (by decide) ?_
  refine st_iload C dX11_road_16 rfl ?_
  refine st_if_eq (tgt := 26) C dX11_road_18 (by decide) (fun c_18 => ?_) (fun c_18 => ?_)
  · refine st_bipush C dX11_road_26 (by decide) (by decide) ?_
    by_cases b_28 : 0 ≤ x9 ∧ x9 ≤ 6
    · refine st_callS (st := [vR 200]) C dX11_road_28 [vI x9, vI 0, vI 6] (k_isIn_t (v9 := x9) (l9 := 0) (u9 := 6)  b_28) w_X11_75 rfl (by decide) (by decide) (by omega) (by omega) (Nat.le_of_ble_eq_true rfl) (ko_rt ?_)
      show T x 31 [(0, vR 200), (1, vI b9), (2, vI x9), (3, vI y9), (4, vI d9), (5, vI i9)] [vI 1, vR 200] _ _ _
      refine st_if_eq (tgt := 58) C dX11_road_31 (by decide) (fun c_31 => by omega) (fun c_31 => ?_)
      refine st_iload_n C 3 dX11_road_34 rfl rfl ?_
      refine st_iconst C dX11_road_35 (by decide) ?_
      refine st_iload C dX11_road_36 rfl ?_
      refine st_if_eq (tgt := 46) C dX11_road_38 (by decide) (fun c_38 => ?_) (fun c_38 => by omega)
      refine st_bipush C dX11_road_46 (by decide) (by decide) ?_
      by_cases b_48 : 0 ≤ y9 ∧ y9 ≤ 7
      · refine st_callS (st := [vR 200]) C dX11_road_48 [vI y9, vI 0, vI 7] (k_isIn_t (v9 := y9) (l9 := 0) (u9 := 7)  b_48) w_X11_75 rfl (by decide) (by decide) (by omega) (by omega) (Nat.le_of_ble_eq_true rfl) (ko_rt ?_)
        show T x 51 [(0, vR 200), (1, vI b9), (2, vI x9), (3, vI y9), (4, vI d9), (5, vI i9)] [vI 1, vR 200] _ _ _
        refine st_if_eq (tgt := 58) C dX11_road_51 (by decide) (fun c_51 => by omega) (fun c_51 => ?_)
        refine st_iconst C dX11_road_54 (by decide) ?_
        refine st_goto (tgt := 59) C dX11_road_55 (by decide) ?_
        refine st_iconst C dX11_road_59 (by decide) ?_
        exfalso; omega
      · refine st_callS (st := [vR 200]) C dX11_road_48 [vI y9, vI 0, vI 7] (k_isIn_f (v9 := y9) (l9 := 0) (u9 := 7)  b_48) w_X11_75 rfl (by decide) (by decide) (by omega) (by omega) (Nat.le_of_ble_eq_true rfl) (ko_rt ?_)
        show T x 51 [(0, vR 200), (1, vI b9), (2, vI x9), (3, vI y9), (4, vI d9), (5, vI i9)] [vI 0, vR 200] _ _ _
        refine st_if_eq (tgt := 58) C dX11_road_51 (by decide) (fun c_51 => ?_) (fun c_51 => by omega)
        refine st_iconst C dX11_road_58 (by decide) ?_
        refine st_iconst C dX11_road_59 (by decide) ?_
        refine st_callV (st := []) C dX11_road_60 [vI 0, vI 2] (k_no_f (p9 := 2) hput_s) hput_s w_X11_112 rfl (by decide) (by decide) (by omega) (by omega) (Nat.le_of_ble_eq_true rfl) (ko_rt ?_)
        show T x 63 [(0, vR 200), (1, vI b9), (2, vI x9), (3, vI y9), (4, vI d9), (5, vI i9)] [vI 1] (hput (hput h 200 (oO 10 [vR 201, vR 202, vR 203, vR 204, vR 205, vR 206, vR 207, vR 208, vR 209, vR 210, vR 211, vR 212, vR 213, vR 214, vR 215, vR 216, vR 217, vR 218, vI mv, vI mrc, vI mmc, vI mmk, vI mdv, vI mwl, vI mwa, vI mwp, vI 0])) 200 (oO 10 [vR 201, vR 202, vR 203, vR 204, vR 205, vR 206, vR 207, vR 208, vR 209, vR 210, vR 211, vR 212, vR 213, vR 214, vR 215, vR 216, vR 217, vR 218, vI mv, vI mrc, vI mmc, vI mmk, vI mdv, vI mwl, vI mwa, vI mwp, vI 2])) _ _
        refine st_if_eq (tgt := 68) C dX11_road_63 (by decide) (fun c_63 => by omega) (fun c_63 => ?_)
        refine st_iconst C dX11_road_66 (by decide) ?_
        exact st_ireturn C F dX11_road_67 rfl (by first | (exfalso; omega) | exact ⟨by with_reducible rfl, by with_reducible rfl⟩) (by omega) (by omega)
    · refine st_callS (st := [vR 200]) C dX11_road_28 [vI x9, vI 0, vI 6] (k_isIn_f (v9 := x9) (l9 := 0) (u9 := 6)  b_28) w_X11_75 rfl (by decide) (by decide) (by omega) (by omega) (Nat.le_of_ble_eq_true rfl) (ko_rt ?_)
      show T x 31 [(0, vR 200), (1, vI b9), (2, vI x9), (3, vI y9), (4, vI d9), (5, vI i9)] [vI 0, vR 200] _ _ _
      refine st_if_eq (tgt := 58) C dX11_road_31 (by decide) (fun c_31 => ?_) (fun c_31 => by omega)
      refine st_iconst C dX11_road_58 (by decide) ?_
      refine st_iconst C dX11_road_59 (by decide) ?_
      refine st_callV (st := []) C dX11_road_60 [vI 0, vI 2] (k_no_f (p9 := 2) hput_s) hput_s w_X11_112 rfl (by decide) (by decide) (by omega) (by omega) (Nat.le_of_ble_eq_true rfl) (ko_rt ?_)
      show T x 63 [(0, vR 200), (1, vI b9), (2, vI x9), (3, vI y9), (4, vI d9), (5, vI i9)] [vI 1] (hput (hput h 200 (oO 10 [vR 201, vR 202, vR 203, vR 204, vR 205, vR 206, vR 207, vR 208, vR 209, vR 210, vR 211, vR 212, vR 213, vR 214, vR 215, vR 216, vR 217, vR 218, vI mv, vI mrc, vI mmc, vI mmk, vI mdv, vI mwl, vI mwa, vI mwp, vI 0])) 200 (oO 10 [vR 201, vR 202, vR 203, vR 204, vR 205, vR 206, vR 207, vR 208, vR 209, vR 210, vR 211, vR 212, vR 213, vR 214, vR 215, vR 216, vR 217, vR 218, vI mv, vI mrc, vI mmc, vI mmk, vI mdv, vI mwl, vI mwa, vI mwp, vI 2])) _ _
      refine st_if_eq (tgt := 68) C dX11_road_63 (by decide) (fun c_63 => by omega) (fun c_63 => ?_)
      refine st_iconst C dX11_road_66 (by decide) ?_
      exact st_ireturn C F dX11_road_67 rfl (by first | (exfalso; omega) | exact ⟨by with_reducible rfl, by with_reducible rfl⟩) (by omega) (by omega)
  · refine st_bipush C dX11_road_21 (by decide) (by decide) ?_
    refine st_goto (tgt := 28) C dX11_road_23 (by decide) ?_
    by_cases b_28 : 0 ≤ x9 ∧ x9 ≤ 7
    · refine st_callS (st := [vR 200]) C dX11_road_28 [vI x9, vI 0, vI 7] (k_isIn_t (v9 := x9) (l9 := 0) (u9 := 7)  b_28) w_X11_75 rfl (by decide) (by decide) (by omega) (by omega) (Nat.le_of_ble_eq_true rfl) (ko_rt ?_)
      show T x 31 [(0, vR 200), (1, vI b9), (2, vI x9), (3, vI y9), (4, vI d9), (5, vI i9)] [vI 1, vR 200] _ _ _
      refine st_if_eq (tgt := 58) C dX11_road_31 (by decide) (fun c_31 => by omega) (fun c_31 => ?_)
      refine st_iload_n C 3 dX11_road_34 rfl rfl ?_
      refine st_iconst C dX11_road_35 (by decide) ?_
      refine st_iload C dX11_road_36 rfl ?_
      refine st_if_eq (tgt := 46) C dX11_road_38 (by decide) (fun c_38 => ?_) (fun c_38 => ?_)
      · refine st_bipush C dX11_road_46 (by decide) (by decide) ?_
        by_cases b_48 : 0 ≤ y9 ∧ y9 ≤ 7
        · refine st_callS (st := [vR 200]) C dX11_road_48 [vI y9, vI 0, vI 7] (k_isIn_t (v9 := y9) (l9 := 0) (u9 := 7)  b_48) w_X11_75 rfl (by decide) (by decide) (by omega) (by omega) (Nat.le_of_ble_eq_true rfl) (ko_rt ?_)
          show T x 51 [(0, vR 200), (1, vI b9), (2, vI x9), (3, vI y9), (4, vI d9), (5, vI i9)] [vI 1, vR 200] _ _ _
          refine st_if_eq (tgt := 58) C dX11_road_51 (by decide) (fun c_51 => by omega) (fun c_51 => ?_)
          refine st_iconst C dX11_road_54 (by decide) ?_
          refine st_goto (tgt := 59) C dX11_road_55 (by decide) ?_
          refine st_iconst C dX11_road_59 (by decide) ?_
          exfalso; omega
        · refine st_callS (st := [vR 200]) C dX11_road_48 [vI y9, vI 0, vI 7] (k_isIn_f (v9 := y9) (l9 := 0) (u9 := 7)  b_48) w_X11_75 rfl (by decide) (by decide) (by omega) (by omega) (Nat.le_of_ble_eq_true rfl) (ko_rt ?_)
          show T x 51 [(0, vR 200), (1, vI b9), (2, vI x9), (3, vI y9), (4, vI d9), (5, vI i9)] [vI 0, vR 200] _ _ _
          refine st_if_eq (tgt := 58) C dX11_road_51 (by decide) (fun c_51 => ?_) (fun c_51 => by omega)
          refine st_iconst C dX11_road_58 (by decide) ?_
          refine st_iconst C dX11_road_59 (by decide) ?_
          refine st_callV (st := []) C dX11_road_60 [vI 0, vI 2] (k_no_f (p9 := 2) hput_s) hput_s w_X11_112 rfl (by decide) (by decide) (by omega) (by omega) (Nat.le_of_ble_eq_true rfl) (ko_rt ?_)
          show T x 63 [(0, vR 200), (1, vI b9), (2, vI x9), (3, vI y9), (4, vI d9), (5, vI i9)] [vI 1] (hput (hput h 200 (oO 10 [vR 201, vR 202, vR 203, vR 204, vR 205, vR 206, vR 207, vR 208, vR 209, vR 210, vR 211, vR 212, vR 213, vR 214, vR 215, vR 216, vR 217, vR 218, vI mv, vI mrc, vI mmc, vI mmk, vI mdv, vI mwl, vI mwa, vI mwp, vI 0])) 200 (oO 10 [vR 201, vR 202, vR 203, vR 204, vR 205, vR 206, vR 207, vR 208, vR 209, vR 210, vR 211, vR 212, vR 213, vR 214, vR 215, vR 216, vR 217, vR 218, vI mv, vI mrc, vI mmc, vI mmk, vI mdv, vI mwl, vI mwa, vI mwp, vI 2])) _ _
          refine st_if_eq (tgt := 68) C dX11_road_63 (by decide) (fun c_63 => by omega) (fun c_63 => ?_)
          refine st_iconst C dX11_road_66 (by decide) ?_
          exact st_ireturn C F dX11_road_67 rfl (by first | (exfalso; omega) | exact ⟨by with_reducible rfl, by with_reducible rfl⟩) (by omega) (by omega)
      · refine st_bipush C dX11_road_41 (by decide) (by decide) ?_
        refine st_goto (tgt := 48) C dX11_road_43 (by decide) ?_
        by_cases b_48 : 0 ≤ y9 ∧ y9 ≤ 6
        · refine st_callS (st := [vR 200]) C dX11_road_48 [vI y9, vI 0, vI 6] (k_isIn_t (v9 := y9) (l9 := 0) (u9 := 6)  b_48) w_X11_75 rfl (by decide) (by decide) (by omega) (by omega) (Nat.le_of_ble_eq_true rfl) (ko_rt ?_)
          show T x 51 [(0, vR 200), (1, vI b9), (2, vI x9), (3, vI y9), (4, vI d9), (5, vI i9)] [vI 1, vR 200] _ _ _
          refine st_if_eq (tgt := 58) C dX11_road_51 (by decide) (fun c_51 => by omega) (fun c_51 => ?_)
          refine st_iconst C dX11_road_54 (by decide) ?_
          refine st_goto (tgt := 59) C dX11_road_55 (by decide) ?_
          refine st_iconst C dX11_road_59 (by decide) ?_
          exfalso; omega
        · refine st_callS (st := [vR 200]) C dX11_road_48 [vI y9, vI 0, vI 6] (k_isIn_f (v9 := y9) (l9 := 0) (u9 := 6)  b_48) w_X11_75 rfl (by decide) (by decide) (by omega) (by omega) (Nat.le_of_ble_eq_true rfl) (ko_rt ?_)
          show T x 51 [(0, vR 200), (1, vI b9), (2, vI x9), (3, vI y9), (4, vI d9), (5, vI i9)] [vI 0, vR 200] _ _ _
          refine st_if_eq (tgt := 58) C dX11_road_51 (by decide) (fun c_51 => ?_) (fun c_51 => by omega)
          refine st_iconst C dX11_road_58 (by decide) ?_
          refine st_iconst C dX11_road_59 (by decide) ?_
          refine st_callV (st := []) C dX11_road_60 [vI 0, vI 2] (k_no_f (p9 := 2) hput_s) hput_s w_X11_112 rfl (by decide) (by decide) (by omega) (by omega) (Nat.le_of_ble_eq_true rfl) (ko_rt ?_)
          show T x 63 [(0, vR 200), (1, vI b9), (2, vI x9), (3, vI y9), (4, vI d9), (5, vI i9)] [vI 1] (hput (hput h 200 (oO 10 [vR 201, vR 202, vR 203, vR 204, vR 205, vR 206, vR 207, vR 208, vR 209, vR 210, vR 211, vR 212, vR 213, vR 214, vR 215, vR 216, vR 217, vR 218, vI mv, vI mrc, vI mmc, vI mmk, vI mdv, vI mwl, vI mwa, vI mwp, vI 0])) 200 (oO 10 [vR 201, vR 202, vR 203, vR 204, vR 205, vR 206, vR 207, vR 208, vR 209, vR 210, vR 211, vR 212, vR 213, vR 214, vR 215, vR 216, vR 217, vR 218, vI mv, vI mrc, vI mmc, vI mmk, vI mdv, vI mwl, vI mwa, vI mwp, vI 2])) _ _
          refine st_if_eq (tgt := 68) C dX11_road_63 (by decide) (fun c_63 => by omega) (fun c_63 => ?_)
          refine st_iconst C dX11_road_66 (by decide) ?_
          exact st_ireturn C F dX11_road_67 rfl (by first | (exfalso; omega) | exact ⟨by with_reducible rfl, by with_reducible rfl⟩) (by omega) (by omega)
    · refine st_callS (st := [vR 200]) C dX11_road_28 [vI x9, vI 0, vI 7] (k_isIn_f (v9 := x9) (l9 := 0) (u9 := 7)  b_28) w_X11_75 rfl (by decide) (by decide) (by omega) (by omega) (Nat.le_of_ble_eq_true rfl) (ko_rt ?_)
      show T x 31 [(0, vR 200), (1, vI b9), (2, vI x9), (3, vI y9), (4, vI d9), (5, vI i9)] [vI 0, vR 200] _ _ _
      refine st_if_eq (tgt := 58) C dX11_road_31 (by decide) (fun c_31 => ?_) (fun c_31 => by omega)
      refine st_iconst C dX11_road_58 (by decide) ?_
      refine st_iconst C dX11_road_59 (by decide) ?_
      refine st_callV (st := []) C dX11_road_60 [vI 0, vI 2] (k_no_f (p9 := 2) hput_s) hput_s w_X11_112 rfl (by decide) (by decide) (by omega) (by omega) (Nat.le_of_ble_eq_true rfl) (ko_rt ?_)
      show T x 63 [(0, vR 200), (1, vI b9), (2, vI x9), (3, vI y9), (4, vI d9), (5, vI i9)] [vI 1] (hput (hput h 200 (oO 10 [vR 201, vR 202, vR 203, vR 204, vR 205, vR 206, vR 207, vR 208, vR 209, vR 210, vR 211, vR 212, vR 213, vR 214, vR 215, vR 216, vR 217, vR 218, vI mv, vI mrc, vI mmc, vI mmk, vI mdv, vI mwl, vI mwa, vI mwp, vI 0])) 200 (oO 10 [vR 201, vR 202, vR 203, vR 204, vR 205, vR 206, vR 207, vR 208, vR 209, vR 210, vR 211, vR 212, vR 213, vR 214, vR 215, vR 216, vR 217, vR 218, vI mv, vI mrc, vI mmc, vI mmk, vI mdv, vI mwl, vI mwa, vI mwp, vI 2])) _ _
      refine st_if_eq (tgt := 68) C dX11_road_63 (by decide) (fun c_63 => by omega) (fun c_63 => ?_)
      refine st_iconst C dX11_road_66 (by decide) ?_
      exact st_ireturn C F dX11_road_67 rfl (by first | (exfalso; omega) | exact ⟨by with_reducible rfl, by with_reducible rfl⟩) (by omega) (by omega)
set_option maxRecDepth 20000 in
set_option maxHeartbeats 4000000 in
theorem m_road00 {g : Gx} {h : HP} {mv mrc mmc mmk mdv mwl mwa mwp mth : Int} {mop : Int → Int} {mb : Int → Int} {me : Int → Int} {mt : Int → Int} {b9 : Int} {x9 y9 i9 : Int} (hm : mO h mv mrc mmc mmk mdv mwl mwa mwp mth) (h206 : h 206 = some (oZ 4 mop)) (h207 : h 207 = some (oI 1216 mb)) (h208 : h 208 = some (oI 1216 me)) (h209 : h 209 = some (oI 1216 mt)) (hv : 0 ≤ mv ∧ mv ≤ 40) (hz : ∀ i, 0 ≤ i → i ≤ 3 → mop i = 0 ∨ mop i = 1) (hO : 0 ≤ b9 ∧ b9 ≤ 3 ∧ mop b9 = 1) (hi : i9 = 0) (hQ : 0 ≤ x9 ∧ x9 ≤ 6 ∧ 0 ≤ y9 ∧ y9 ≤ 7) : Ct g yX11_road (.code yX11_road cX11_road 6 (some .int)) 3 0 0 [vR 200, vI b9, vI x9, vI y9, vI 0, vI i9] h (Rt (some (vI (cnt (fun j => 0 ≤ (medF me mb (304 * b9 + (192 + 7 * y9 + x9)) 0) (304 * b9 + j)) 304))) (hput (hput (hput (hput h 200 (oO 10 [vR 201, vR 202, vR 203, vR 204, vR 205, vR 206, vR 207, vR 208, vR 209, vR 210, vR 211, vR 212, vR 213, vR 214, vR 215, vR 216, vR 217, vR 218, vI mv, vI mrc, vI mmc, vI mmk, vI mdv, vI mwl, vI mwa, vI mwp, vI 0])) 200 (oO 10 [vR 201, vR 202, vR 203, vR 204, vR 205, vR 206, vR 207, vR 208, vR 209, vR 210, vR 211, vR 212, vR 213, vR 214, vR 215, vR 216, vR 217, vR 218, vI mv, vI mrc, vI mmc, vI mmk, vI mdv, vI mwl, vI mwa, vI mwp, vI 0])) 208 (oI 1216 (medF me mb (304 * b9 + (192 + 7 * y9 + x9)) 0))) 209 (oI 1216 (mtoF mt mb (304 * b9 + (192 + 7 * y9 + x9)) 0)))) := by
  refine Ct.of (by decide) (Nat.le_of_ble_eq_true rfl) (fun x hg C F => ?_)
  subst hg
  have hb : 0 ≤ b9 ∧ b9 ≤ 3 := ⟨hO.1, hO.2.1⟩
  show T x 0 [(0, vR 200), (1, vI b9), (2, vI x9), (3, vI y9), (4, vI 0), (5, vI i9)] [] h 0 0
  refine st_aload_n C 0 dX11_road_0 rfl rfl ?_
  refine st_aload_n C 0 dX11_road_1 rfl rfl ?_
  refine st_iload_n C 1 dX11_road_2 rfl rfl ?_
  refine st_callV (st := [vR 200]) C dX11_road_3 [vI b9] (k_isBranch_t (b9 := b9) hm h206 hz hO) hm w_X11_126 rfl (by decide) (by decide) (by omega) (by omega) (Nat.le_of_ble_eq_true rfl) (ko_rt ?_)
  show T x 6 [(0, vR 200), (1, vI b9), (2, vI x9), (3, vI y9), (4, vI 0), (5, vI i9)] [vI 1, vR 200] _ _ _
  refine st_iconst C dX11_road_6 (by decide) ?_
  refine st_callV (st := []) C dX11_road_7 [vI 1, vI 1] (k_no_t (p9 := 1) hm) hm w_X11_112 rfl (by decide) (by decide) (by omega) (by omega) (Nat.le_of_ble_eq_true rfl) (ko_rt ?_)
  show T x 10 [(0, vR 200), (1, vI b9), (2, vI x9), (3, vI y9), (4, vI 0), (5, vI i9)] [vI 0] (hput h 200 (oO 10 [vR 201, vR 202, vR 203, vR 204, vR 205, vR 206, vR 207, vR 208, vR 209, vR 210, vR 211, vR 212, vR 213, vR 214, vR 215, vR 216, vR 217, vR 218, vI mv, vI mrc, vI mmc, vI mmk, vI mdv, vI mwl, vI mwa, vI mwp, vI 0])) _ _
  refine st_if_ne (tgt := 66) C dX11_road_10 (by decide) (fun c_10 => by omega) (fun c_10 => ?_)
  refine st_aload_n C 0 dX11_road_13 rfl rfl ?_
  refine st_iload_n C 2 dX11_road_14 rfl rfl ?_
  refine st_iconst C dX11_road_15 (by decide) ?_
  refine st_iload C dX11_road_16 rfl ?_
  refine st_if_eq (tgt := 26) C dX11_road_18 (by decide) (fun c_18 => ?_) (fun c_18 => by omega)
  refine st_bipush C dX11_road_26 (by decide) (by decide) ?_
  have b_28 : 0 ≤ x9 ∧ x9 ≤ 6 := by omega
  refine st_callS (st := [vR 200]) C dX11_road_28 [vI x9, vI 0, vI 6] (k_isIn_t (v9 := x9) (l9 := 0) (u9 := 6)  b_28) w_X11_75 rfl (by decide) (by decide) (by omega) (by omega) (Nat.le_of_ble_eq_true rfl) (ko_rt ?_)
  show T x 31 [(0, vR 200), (1, vI b9), (2, vI x9), (3, vI y9), (4, vI 0), (5, vI i9)] [vI 1, vR 200] _ _ _
  refine st_if_eq (tgt := 58) C dX11_road_31 (by decide) (fun c_31 => by omega) (fun c_31 => ?_)
  refine st_iload_n C 3 dX11_road_34 rfl rfl ?_
  refine st_iconst C dX11_road_35 (by decide) ?_
  refine st_iload C dX11_road_36 rfl ?_
  refine st_if_eq (tgt := 46) C dX11_road_38 (by decide) (fun c_38 => ?_) (fun c_38 => by omega)
  refine st_bipush C dX11_road_46 (by decide) (by decide) ?_
  have b_48 : 0 ≤ y9 ∧ y9 ≤ 7 := by omega
  refine st_callS (st := [vR 200]) C dX11_road_48 [vI y9, vI 0, vI 7] (k_isIn_t (v9 := y9) (l9 := 0) (u9 := 7)  b_48) w_X11_75 rfl (by decide) (by decide) (by omega) (by omega) (Nat.le_of_ble_eq_true rfl) (ko_rt ?_)
  show T x 51 [(0, vR 200), (1, vI b9), (2, vI x9), (3, vI y9), (4, vI 0), (5, vI i9)] [vI 1, vR 200] _ _ _
  refine st_if_eq (tgt := 58) C dX11_road_51 (by decide) (fun c_51 => by omega) (fun c_51 => ?_)
  refine st_iconst C dX11_road_54 (by decide) ?_
  refine st_goto (tgt := 59) C dX11_road_55 (by decide) ?_
  refine st_iconst C dX11_road_59 (by decide) ?_
  refine st_callV (st := []) C dX11_road_60 [vI 1, vI 2] (k_no_t (p9 := 2) hput_s) hput_s w_X11_112 rfl (by decide) (by decide) (by omega) (by omega) (Nat.le_of_ble_eq_true rfl) (ko_rt ?_)
  show T x 63 [(0, vR 200), (1, vI b9), (2, vI x9), (3, vI y9), (4, vI 0), (5, vI i9)] [vI 0] (hput (hput h 200 (oO 10 [vR 201, vR 202, vR 203, vR 204, vR 205, vR 206, vR 207, vR 208, vR 209, vR 210, vR 211, vR 212, vR 213, vR 214, vR 215, vR 216, vR 217, vR 218, vI mv, vI mrc, vI mmc, vI mmk, vI mdv, vI mwl, vI mwa, vI mwp, vI 0])) 200 (oO 10 [vR 201, vR 202, vR 203, vR 204, vR 205, vR 206, vR 207, vR 208, vR 209, vR 210, vR 211, vR 212, vR 213, vR 214, vR 215, vR 216, vR 217, vR 218, vI mv, vI mrc, vI mmc, vI mmk, vI mdv, vI mwl, vI mwa, vI mwp, vI 0])) _ _
  refine st_if_eq (tgt := 68) C dX11_road_63 (by decide) (fun c_63 => ?_) (fun c_63 => by omega)
  refine st_aload_n C 0 dX11_road_68 rfl rfl ?_
  refine st_iload_n C 1 dX11_road_69 rfl rfl ?_
  refine st_iload C dX11_road_70 rfl ?_
  refine st_if_eq (tgt := 88) C dX11_road_72 (by decide) (fun c_72 => ?_) (fun c_72 => by omega)
  refine st_sipush C dX11_road_88 (by decide) (by decide) ?_
  refine st_bipush C dX11_road_91 (by decide) (by decide) ?_
  refine st_iload_n C 3 dX11_road_93 rfl rfl ?_
  refine st_imul C dX11_road_94 ⟨(by omega), (by omega)⟩ ?_
  refine st_iadd C dX11_road_95 ⟨(by omega), (by omega)⟩ ?_
  refine st_iload_n C 2 dX11_road_96 rfl rfl ?_
  refine st_iadd C dX11_road_97 ⟨(by omega), (by omega)⟩ ?_
  refine st_iload C dX11_road_98 rfl ?_
  refine st_if_eq (tgt := 107) C dX11_road_100 (by decide) (fun c_100 => ?_) (fun c_100 => ?_)
  · refine st_iconst C dX11_road_107 (by decide) ?_
    refine st_callV (st := []) C dX11_road_108 [vI b9, vI (192 + (7 * y9) + x9), vI 0] (k_medit (b9 := b9) (s9 := (192 + (7 * y9) + x9)) (v9 := 0) hput_s (hput_o (by omega) (hput_o (by omega) h207)) (hput_o (by omega) (hput_o (by omega) h208)) (hput_o (by omega) (hput_o (by omega) h209)) (by omega) (by omega)) hput_s w_X11_135 rfl (by decide) (by decide) (by omega) (by omega) (Nat.le_of_ble_eq_true rfl) (ko_rn ?_)
    show T x 111 [(0, vR 200), (1, vI b9), (2, vI x9), (3, vI y9), (4, vI 0), (5, vI i9)] [] (hput (hput (hput (hput h 200 (oO 10 [vR 201, vR 202, vR 203, vR 204, vR 205, vR 206, vR 207, vR 208, vR 209, vR 210, vR 211, vR 212, vR 213, vR 214, vR 215, vR 216, vR 217, vR 218, vI mv, vI mrc, vI mmc, vI mmk, vI mdv, vI mwl, vI mwa, vI mwp, vI 0])) 200 (oO 10 [vR 201, vR 202, vR 203, vR 204, vR 205, vR 206, vR 207, vR 208, vR 209, vR 210, vR 211, vR 212, vR 213, vR 214, vR 215, vR 216, vR 217, vR 218, vI mv, vI mrc, vI mmc, vI mmk, vI mdv, vI mwl, vI mwa, vI mwp, vI 0])) 208 (oI 1216 (medF me mb (304 * b9 + (192 + (7 * y9) + x9)) 0))) 209 (oI 1216 (mtoF mt mb (304 * b9 + (192 + (7 * y9) + x9)) 0))) _ _
    refine st_aload_n C 0 dX11_road_111 rfl rfl ?_
    refine st_iload_n C 1 dX11_road_112 rfl rfl ?_
    refine st_callV (st := []) C dX11_road_113 [vI b9] (k_editsOf (me := (medF me mb (304 * b9 + (192 + (7 * y9) + x9)) 0)) (b9 := b9) (hput_o (by omega) (hput_o (by omega) hput_s)) (hput_o (by omega) hput_s) (by omega)) (hput_o (by omega) (hput_o (by omega) hput_s)) w_X11_129 rfl (by decide) (by decide) (by omega) (by omega) (Nat.le_of_ble_eq_true rfl) (ko_rt ?_)
    show T x 116 [(0, vR 200), (1, vI b9), (2, vI x9), (3, vI y9), (4, vI 0), (5, vI i9)] [vI (cnt (fun j => 0 ≤ (medF me mb (304 * b9 + (192 + (7 * y9) + x9)) 0) (304 * b9 + j)) 304)] _ _ _
    exact st_ireturn C F dX11_road_116 rfl (by first | exact ⟨by with_reducible rfl, by with_reducible rfl⟩ | (exfalso; omega)) (by omega) (by omega)
  · refine st_iconst C dX11_road_103 (by decide) ?_
    refine st_goto (tgt := 108) C dX11_road_104 (by decide) ?_
    refine st_callV (st := []) C dX11_road_108 [vI b9, vI (192 + (7 * y9) + x9), vI 1] (k_medit (b9 := b9) (s9 := (192 + (7 * y9) + x9)) (v9 := 1) hput_s (hput_o (by omega) (hput_o (by omega) h207)) (hput_o (by omega) (hput_o (by omega) h208)) (hput_o (by omega) (hput_o (by omega) h209)) (by omega) (by omega)) hput_s w_X11_135 rfl (by decide) (by decide) (by omega) (by omega) (Nat.le_of_ble_eq_true rfl) (ko_rn ?_)
    show T x 111 [(0, vR 200), (1, vI b9), (2, vI x9), (3, vI y9), (4, vI 0), (5, vI i9)] [] (hput (hput (hput (hput h 200 (oO 10 [vR 201, vR 202, vR 203, vR 204, vR 205, vR 206, vR 207, vR 208, vR 209, vR 210, vR 211, vR 212, vR 213, vR 214, vR 215, vR 216, vR 217, vR 218, vI mv, vI mrc, vI mmc, vI mmk, vI mdv, vI mwl, vI mwa, vI mwp, vI 0])) 200 (oO 10 [vR 201, vR 202, vR 203, vR 204, vR 205, vR 206, vR 207, vR 208, vR 209, vR 210, vR 211, vR 212, vR 213, vR 214, vR 215, vR 216, vR 217, vR 218, vI mv, vI mrc, vI mmc, vI mmk, vI mdv, vI mwl, vI mwa, vI mwp, vI 0])) 208 (oI 1216 (medF me mb (304 * b9 + (192 + (7 * y9) + x9)) 1))) 209 (oI 1216 (mtoF mt mb (304 * b9 + (192 + (7 * y9) + x9)) 1))) _ _
    refine st_aload_n C 0 dX11_road_111 rfl rfl ?_
    refine st_iload_n C 1 dX11_road_112 rfl rfl ?_
    refine st_callV (st := []) C dX11_road_113 [vI b9] (k_editsOf (me := (medF me mb (304 * b9 + (192 + (7 * y9) + x9)) 1)) (b9 := b9) (hput_o (by omega) (hput_o (by omega) hput_s)) (hput_o (by omega) hput_s) (by omega)) (hput_o (by omega) (hput_o (by omega) hput_s)) w_X11_129 rfl (by decide) (by decide) (by omega) (by omega) (Nat.le_of_ble_eq_true rfl) (ko_rt ?_)
    show T x 116 [(0, vR 200), (1, vI b9), (2, vI x9), (3, vI y9), (4, vI 0), (5, vI i9)] [vI (cnt (fun j => 0 ≤ (medF me mb (304 * b9 + (192 + (7 * y9) + x9)) 1) (304 * b9 + j)) 304)] _ _ _
    exact st_ireturn C F dX11_road_116 rfl (by first | exact ⟨by with_reducible rfl, by with_reducible rfl⟩ | (exfalso; omega)) (by omega) (by omega)
set_option maxRecDepth 20000 in
set_option maxHeartbeats 4000000 in
theorem m_road01 {g : Gx} {h : HP} {mv mrc mmc mmk mdv mwl mwa mwp mth : Int} {mop : Int → Int} {mb : Int → Int} {me : Int → Int} {mt : Int → Int} {b9 : Int} {x9 y9 i9 : Int} (hm : mO h mv mrc mmc mmk mdv mwl mwa mwp mth) (h206 : h 206 = some (oZ 4 mop)) (h207 : h 207 = some (oI 1216 mb)) (h208 : h 208 = some (oI 1216 me)) (h209 : h 209 = some (oI 1216 mt)) (hv : 0 ≤ mv ∧ mv ≤ 40) (hz : ∀ i, 0 ≤ i → i ≤ 3 → mop i = 0 ∨ mop i = 1) (hO : 0 ≤ b9 ∧ b9 ≤ 3 ∧ mop b9 = 1) (hi : i9 ≠ 0) (hQ : 0 ≤ x9 ∧ x9 ≤ 6 ∧ 0 ≤ y9 ∧ y9 ≤ 7) : Ct g yX11_road (.code yX11_road cX11_road 6 (some .int)) 3 0 0 [vR 200, vI b9, vI x9, vI y9, vI 0, vI i9] h (Rt (some (vI (cnt (fun j => 0 ≤ (medF me mb (304 * b9 + (192 + 7 * y9 + x9)) 1) (304 * b9 + j)) 304))) (hput (hput (hput (hput h 200 (oO 10 [vR 201, vR 202, vR 203, vR 204, vR 205, vR 206, vR 207, vR 208, vR 209, vR 210, vR 211, vR 212, vR 213, vR 214, vR 215, vR 216, vR 217, vR 218, vI mv, vI mrc, vI mmc, vI mmk, vI mdv, vI mwl, vI mwa, vI mwp, vI 0])) 200 (oO 10 [vR 201, vR 202, vR 203, vR 204, vR 205, vR 206, vR 207, vR 208, vR 209, vR 210, vR 211, vR 212, vR 213, vR 214, vR 215, vR 216, vR 217, vR 218, vI mv, vI mrc, vI mmc, vI mmk, vI mdv, vI mwl, vI mwa, vI mwp, vI 0])) 208 (oI 1216 (medF me mb (304 * b9 + (192 + 7 * y9 + x9)) 1))) 209 (oI 1216 (mtoF mt mb (304 * b9 + (192 + 7 * y9 + x9)) 1)))) := by
  refine Ct.of (by decide) (Nat.le_of_ble_eq_true rfl) (fun x hg C F => ?_)
  subst hg
  have hb : 0 ≤ b9 ∧ b9 ≤ 3 := ⟨hO.1, hO.2.1⟩
  show T x 0 [(0, vR 200), (1, vI b9), (2, vI x9), (3, vI y9), (4, vI 0), (5, vI i9)] [] h 0 0
  refine st_aload_n C 0 dX11_road_0 rfl rfl ?_
  refine st_aload_n C 0 dX11_road_1 rfl rfl ?_
  refine st_iload_n C 1 dX11_road_2 rfl rfl ?_
  refine st_callV (st := [vR 200]) C dX11_road_3 [vI b9] (k_isBranch_t (b9 := b9) hm h206 hz hO) hm w_X11_126 rfl (by decide) (by decide) (by omega) (by omega) (Nat.le_of_ble_eq_true rfl) (ko_rt ?_)
  show T x 6 [(0, vR 200), (1, vI b9), (2, vI x9), (3, vI y9), (4, vI 0), (5, vI i9)] [vI 1, vR 200] _ _ _
  refine st_iconst C dX11_road_6 (by decide) ?_
  refine st_callV (st := []) C dX11_road_7 [vI 1, vI 1] (k_no_t (p9 := 1) hm) hm w_X11_112 rfl (by decide) (by decide) (by omega) (by omega) (Nat.le_of_ble_eq_true rfl) (ko_rt ?_)
  show T x 10 [(0, vR 200), (1, vI b9), (2, vI x9), (3, vI y9), (4, vI 0), (5, vI i9)] [vI 0] (hput h 200 (oO 10 [vR 201, vR 202, vR 203, vR 204, vR 205, vR 206, vR 207, vR 208, vR 209, vR 210, vR 211, vR 212, vR 213, vR 214, vR 215, vR 216, vR 217, vR 218, vI mv, vI mrc, vI mmc, vI mmk, vI mdv, vI mwl, vI mwa, vI mwp, vI 0])) _ _
  refine st_if_ne (tgt := 66) C dX11_road_10 (by decide) (fun c_10 => by omega) (fun c_10 => ?_)
  refine st_aload_n C 0 dX11_road_13 rfl rfl ?_
  refine st_iload_n C 2 dX11_road_14 rfl rfl ?_
  refine st_iconst C dX11_road_15 (by decide) ?_
  refine st_iload C dX11_road_16 rfl ?_
  refine st_if_eq (tgt := 26) C dX11_road_18 (by decide) (fun c_18 => ?_) (fun c_18 => by omega)
  refine st_bipush C dX11_road_26 (by decide) (by decide) ?_
  have b_28 : 0 ≤ x9 ∧ x9 ≤ 6 := by omega
  refine st_callS (st := [vR 200]) C dX11_road_28 [vI x9, vI 0, vI 6] (k_isIn_t (v9 := x9) (l9 := 0) (u9 := 6)  b_28) w_X11_75 rfl (by decide) (by decide) (by omega) (by omega) (Nat.le_of_ble_eq_true rfl) (ko_rt ?_)
  show T x 31 [(0, vR 200), (1, vI b9), (2, vI x9), (3, vI y9), (4, vI 0), (5, vI i9)] [vI 1, vR 200] _ _ _
  refine st_if_eq (tgt := 58) C dX11_road_31 (by decide) (fun c_31 => by omega) (fun c_31 => ?_)
  refine st_iload_n C 3 dX11_road_34 rfl rfl ?_
  refine st_iconst C dX11_road_35 (by decide) ?_
  refine st_iload C dX11_road_36 rfl ?_
  refine st_if_eq (tgt := 46) C dX11_road_38 (by decide) (fun c_38 => ?_) (fun c_38 => by omega)
  refine st_bipush C dX11_road_46 (by decide) (by decide) ?_
  have b_48 : 0 ≤ y9 ∧ y9 ≤ 7 := by omega
  refine st_callS (st := [vR 200]) C dX11_road_48 [vI y9, vI 0, vI 7] (k_isIn_t (v9 := y9) (l9 := 0) (u9 := 7)  b_48) w_X11_75 rfl (by decide) (by decide) (by omega) (by omega) (Nat.le_of_ble_eq_true rfl) (ko_rt ?_)
  show T x 51 [(0, vR 200), (1, vI b9), (2, vI x9), (3, vI y9), (4, vI 0), (5, vI i9)] [vI 1, vR 200] _ _ _
  refine st_if_eq (tgt := 58) C dX11_road_51 (by decide) (fun c_51 => by omega) (fun c_51 => ?_)
  refine st_iconst C dX11_road_54 (by decide) ?_
  refine st_goto (tgt := 59) C dX11_road_55 (by decide) ?_
  refine st_iconst C dX11_road_59 (by decide) ?_
  refine st_callV (st := []) C dX11_road_60 [vI 1, vI 2] (k_no_t (p9 := 2) hput_s) hput_s w_X11_112 rfl (by decide) (by decide) (by omega) (by omega) (Nat.le_of_ble_eq_true rfl) (ko_rt ?_)
  show T x 63 [(0, vR 200), (1, vI b9), (2, vI x9), (3, vI y9), (4, vI 0), (5, vI i9)] [vI 0] (hput (hput h 200 (oO 10 [vR 201, vR 202, vR 203, vR 204, vR 205, vR 206, vR 207, vR 208, vR 209, vR 210, vR 211, vR 212, vR 213, vR 214, vR 215, vR 216, vR 217, vR 218, vI mv, vI mrc, vI mmc, vI mmk, vI mdv, vI mwl, vI mwa, vI mwp, vI 0])) 200 (oO 10 [vR 201, vR 202, vR 203, vR 204, vR 205, vR 206, vR 207, vR 208, vR 209, vR 210, vR 211, vR 212, vR 213, vR 214, vR 215, vR 216, vR 217, vR 218, vI mv, vI mrc, vI mmc, vI mmk, vI mdv, vI mwl, vI mwa, vI mwp, vI 0])) _ _
  refine st_if_eq (tgt := 68) C dX11_road_63 (by decide) (fun c_63 => ?_) (fun c_63 => by omega)
  refine st_aload_n C 0 dX11_road_68 rfl rfl ?_
  refine st_iload_n C 1 dX11_road_69 rfl rfl ?_
  refine st_iload C dX11_road_70 rfl ?_
  refine st_if_eq (tgt := 88) C dX11_road_72 (by decide) (fun c_72 => ?_) (fun c_72 => by omega)
  refine st_sipush C dX11_road_88 (by decide) (by decide) ?_
  refine st_bipush C dX11_road_91 (by decide) (by decide) ?_
  refine st_iload_n C 3 dX11_road_93 rfl rfl ?_
  refine st_imul C dX11_road_94 ⟨(by omega), (by omega)⟩ ?_
  refine st_iadd C dX11_road_95 ⟨(by omega), (by omega)⟩ ?_
  refine st_iload_n C 2 dX11_road_96 rfl rfl ?_
  refine st_iadd C dX11_road_97 ⟨(by omega), (by omega)⟩ ?_
  refine st_iload C dX11_road_98 rfl ?_
  refine st_if_eq (tgt := 107) C dX11_road_100 (by decide) (fun c_100 => ?_) (fun c_100 => ?_)
  · refine st_iconst C dX11_road_107 (by decide) ?_
    refine st_callV (st := []) C dX11_road_108 [vI b9, vI (192 + (7 * y9) + x9), vI 0] (k_medit (b9 := b9) (s9 := (192 + (7 * y9) + x9)) (v9 := 0) hput_s (hput_o (by omega) (hput_o (by omega) h207)) (hput_o (by omega) (hput_o (by omega) h208)) (hput_o (by omega) (hput_o (by omega) h209)) (by omega) (by omega)) hput_s w_X11_135 rfl (by decide) (by decide) (by omega) (by omega) (Nat.le_of_ble_eq_true rfl) (ko_rn ?_)
    show T x 111 [(0, vR 200), (1, vI b9), (2, vI x9), (3, vI y9), (4, vI 0), (5, vI i9)] [] (hput (hput (hput (hput h 200 (oO 10 [vR 201, vR 202, vR 203, vR 204, vR 205, vR 206, vR 207, vR 208, vR 209, vR 210, vR 211, vR 212, vR 213, vR 214, vR 215, vR 216, vR 217, vR 218, vI mv, vI mrc, vI mmc, vI mmk, vI mdv, vI mwl, vI mwa, vI mwp, vI 0])) 200 (oO 10 [vR 201, vR 202, vR 203, vR 204, vR 205, vR 206, vR 207, vR 208, vR 209, vR 210, vR 211, vR 212, vR 213, vR 214, vR 215, vR 216, vR 217, vR 218, vI mv, vI mrc, vI mmc, vI mmk, vI mdv, vI mwl, vI mwa, vI mwp, vI 0])) 208 (oI 1216 (medF me mb (304 * b9 + (192 + (7 * y9) + x9)) 0))) 209 (oI 1216 (mtoF mt mb (304 * b9 + (192 + (7 * y9) + x9)) 0))) _ _
    refine st_aload_n C 0 dX11_road_111 rfl rfl ?_
    refine st_iload_n C 1 dX11_road_112 rfl rfl ?_
    refine st_callV (st := []) C dX11_road_113 [vI b9] (k_editsOf (me := (medF me mb (304 * b9 + (192 + (7 * y9) + x9)) 0)) (b9 := b9) (hput_o (by omega) (hput_o (by omega) hput_s)) (hput_o (by omega) hput_s) (by omega)) (hput_o (by omega) (hput_o (by omega) hput_s)) w_X11_129 rfl (by decide) (by decide) (by omega) (by omega) (Nat.le_of_ble_eq_true rfl) (ko_rt ?_)
    show T x 116 [(0, vR 200), (1, vI b9), (2, vI x9), (3, vI y9), (4, vI 0), (5, vI i9)] [vI (cnt (fun j => 0 ≤ (medF me mb (304 * b9 + (192 + (7 * y9) + x9)) 0) (304 * b9 + j)) 304)] _ _ _
    exact st_ireturn C F dX11_road_116 rfl (by first | exact ⟨by with_reducible rfl, by with_reducible rfl⟩ | (exfalso; omega)) (by omega) (by omega)
  · refine st_iconst C dX11_road_103 (by decide) ?_
    refine st_goto (tgt := 108) C dX11_road_104 (by decide) ?_
    refine st_callV (st := []) C dX11_road_108 [vI b9, vI (192 + (7 * y9) + x9), vI 1] (k_medit (b9 := b9) (s9 := (192 + (7 * y9) + x9)) (v9 := 1) hput_s (hput_o (by omega) (hput_o (by omega) h207)) (hput_o (by omega) (hput_o (by omega) h208)) (hput_o (by omega) (hput_o (by omega) h209)) (by omega) (by omega)) hput_s w_X11_135 rfl (by decide) (by decide) (by omega) (by omega) (Nat.le_of_ble_eq_true rfl) (ko_rn ?_)
    show T x 111 [(0, vR 200), (1, vI b9), (2, vI x9), (3, vI y9), (4, vI 0), (5, vI i9)] [] (hput (hput (hput (hput h 200 (oO 10 [vR 201, vR 202, vR 203, vR 204, vR 205, vR 206, vR 207, vR 208, vR 209, vR 210, vR 211, vR 212, vR 213, vR 214, vR 215, vR 216, vR 217, vR 218, vI mv, vI mrc, vI mmc, vI mmk, vI mdv, vI mwl, vI mwa, vI mwp, vI 0])) 200 (oO 10 [vR 201, vR 202, vR 203, vR 204, vR 205, vR 206, vR 207, vR 208, vR 209, vR 210, vR 211, vR 212, vR 213, vR 214, vR 215, vR 216, vR 217, vR 218, vI mv, vI mrc, vI mmc, vI mmk, vI mdv, vI mwl, vI mwa, vI mwp, vI 0])) 208 (oI 1216 (medF me mb (304 * b9 + (192 + (7 * y9) + x9)) 1))) 209 (oI 1216 (mtoF mt mb (304 * b9 + (192 + (7 * y9) + x9)) 1))) _ _
    refine st_aload_n C 0 dX11_road_111 rfl rfl ?_
    refine st_iload_n C 1 dX11_road_112 rfl rfl ?_
    refine st_callV (st := []) C dX11_road_113 [vI b9] (k_editsOf (me := (medF me mb (304 * b9 + (192 + (7 * y9) + x9)) 1)) (b9 := b9) (hput_o (by omega) (hput_o (by omega) hput_s)) (hput_o (by omega) hput_s) (by omega)) (hput_o (by omega) (hput_o (by omega) hput_s)) w_X11_129 rfl (by decide) (by decide) (by omega) (by omega) (Nat.le_of_ble_eq_true rfl) (ko_rt ?_)
    show T x 116 [(0, vR 200), (1, vI b9), (2, vI x9), (3, vI y9), (4, vI 0), (5, vI i9)] [vI (cnt (fun j => 0 ≤ (medF me mb (304 * b9 + (192 + (7 * y9) + x9)) 1) (304 * b9 + j)) 304)] _ _ _
    exact st_ireturn C F dX11_road_116 rfl (by first | exact ⟨by with_reducible rfl, by with_reducible rfl⟩ | (exfalso; omega)) (by omega) (by omega)
set_option maxRecDepth 20000 in
set_option maxHeartbeats 4000000 in
theorem m_road10 {g : Gx} {h : HP} {mv mrc mmc mmk mdv mwl mwa mwp mth : Int} {mop : Int → Int} {mb : Int → Int} {me : Int → Int} {mt : Int → Int} {b9 : Int} {x9 y9 i9 : Int} (hm : mO h mv mrc mmc mmk mdv mwl mwa mwp mth) (h206 : h 206 = some (oZ 4 mop)) (h207 : h 207 = some (oI 1216 mb)) (h208 : h 208 = some (oI 1216 me)) (h209 : h 209 = some (oI 1216 mt)) (hv : 0 ≤ mv ∧ mv ≤ 40) (hz : ∀ i, 0 ≤ i → i ≤ 3 → mop i = 0 ∨ mop i = 1) (hO : 0 ≤ b9 ∧ b9 ≤ 3 ∧ mop b9 = 1) (hi : i9 = 0) (hQ : 0 ≤ x9 ∧ x9 ≤ 7 ∧ 0 ≤ y9 ∧ y9 ≤ 6) : Ct g yX11_road (.code yX11_road cX11_road 6 (some .int)) 3 0 0 [vR 200, vI b9, vI x9, vI y9, vI 1, vI i9] h (Rt (some (vI (cnt (fun j => 0 ≤ (medF me mb (304 * b9 + (248 + 8 * y9 + x9)) 0) (304 * b9 + j)) 304))) (hput (hput (hput (hput h 200 (oO 10 [vR 201, vR 202, vR 203, vR 204, vR 205, vR 206, vR 207, vR 208, vR 209, vR 210, vR 211, vR 212, vR 213, vR 214, vR 215, vR 216, vR 217, vR 218, vI mv, vI mrc, vI mmc, vI mmk, vI mdv, vI mwl, vI mwa, vI mwp, vI 0])) 200 (oO 10 [vR 201, vR 202, vR 203, vR 204, vR 205, vR 206, vR 207, vR 208, vR 209, vR 210, vR 211, vR 212, vR 213, vR 214, vR 215, vR 216, vR 217, vR 218, vI mv, vI mrc, vI mmc, vI mmk, vI mdv, vI mwl, vI mwa, vI mwp, vI 0])) 208 (oI 1216 (medF me mb (304 * b9 + (248 + 8 * y9 + x9)) 0))) 209 (oI 1216 (mtoF mt mb (304 * b9 + (248 + 8 * y9 + x9)) 0)))) := by
  refine Ct.of (by decide) (Nat.le_of_ble_eq_true rfl) (fun x hg C F => ?_)
  subst hg
  have hb : 0 ≤ b9 ∧ b9 ≤ 3 := ⟨hO.1, hO.2.1⟩
  show T x 0 [(0, vR 200), (1, vI b9), (2, vI x9), (3, vI y9), (4, vI 1), (5, vI i9)] [] h 0 0
  refine st_aload_n C 0 dX11_road_0 rfl rfl ?_
  refine st_aload_n C 0 dX11_road_1 rfl rfl ?_
  refine st_iload_n C 1 dX11_road_2 rfl rfl ?_
  refine st_callV (st := [vR 200]) C dX11_road_3 [vI b9] (k_isBranch_t (b9 := b9) hm h206 hz hO) hm w_X11_126 rfl (by decide) (by decide) (by omega) (by omega) (Nat.le_of_ble_eq_true rfl) (ko_rt ?_)
  show T x 6 [(0, vR 200), (1, vI b9), (2, vI x9), (3, vI y9), (4, vI 1), (5, vI i9)] [vI 1, vR 200] _ _ _
  refine st_iconst C dX11_road_6 (by decide) ?_
  refine st_callV (st := []) C dX11_road_7 [vI 1, vI 1] (k_no_t (p9 := 1) hm) hm w_X11_112 rfl (by decide) (by decide) (by omega) (by omega) (Nat.le_of_ble_eq_true rfl) (ko_rt ?_)
  show T x 10 [(0, vR 200), (1, vI b9), (2, vI x9), (3, vI y9), (4, vI 1), (5, vI i9)] [vI 0] (hput h 200 (oO 10 [vR 201, vR 202, vR 203, vR 204, vR 205, vR 206, vR 207, vR 208, vR 209, vR 210, vR 211, vR 212, vR 213, vR 214, vR 215, vR 216, vR 217, vR 218, vI mv, vI mrc, vI mmc, vI mmk, vI mdv, vI mwl, vI mwa, vI mwp, vI 0])) _ _
  refine st_if_ne (tgt := 66) C dX11_road_10 (by decide) (fun c_10 => by omega) (fun c_10 => ?_)
  refine st_aload_n C 0 dX11_road_13 rfl rfl ?_
  refine st_iload_n C 2 dX11_road_14 rfl rfl ?_
  refine st_iconst C dX11_road_15 (by decide) ?_
  refine st_iload C dX11_road_16 rfl ?_
  refine st_if_eq (tgt := 26) C dX11_road_18 (by decide) (fun c_18 => by omega) (fun c_18 => ?_)
  refine st_bipush C dX11_road_21 (by decide) (by decide) ?_
  refine st_goto (tgt := 28) C dX11_road_23 (by decide) ?_
  have b_28 : 0 ≤ x9 ∧ x9 ≤ 7 := by omega
  refine st_callS (st := [vR 200]) C dX11_road_28 [vI x9, vI 0, vI 7] (k_isIn_t (v9 := x9) (l9 := 0) (u9 := 7)  b_28) w_X11_75 rfl (by decide) (by decide) (by omega) (by omega) (Nat.le_of_ble_eq_true rfl) (ko_rt ?_)
  show T x 31 [(0, vR 200), (1, vI b9), (2, vI x9), (3, vI y9), (4, vI 1), (5, vI i9)] [vI 1, vR 200] _ _ _
  refine st_if_eq (tgt := 58) C dX11_road_31 (by decide) (fun c_31 => by omega) (fun c_31 => ?_)
  refine st_iload_n C 3 dX11_road_34 rfl rfl ?_
  refine st_iconst C dX11_road_35 (by decide) ?_
  refine st_iload C dX11_road_36 rfl ?_
  refine st_if_eq (tgt := 46) C dX11_road_38 (by decide) (fun c_38 => by omega) (fun c_38 => ?_)
  refine st_bipush C dX11_road_41 (by decide) (by decide) ?_
  refine st_goto (tgt := 48) C dX11_road_43 (by decide) ?_
  have b_48 : 0 ≤ y9 ∧ y9 ≤ 6 := by omega
  refine st_callS (st := [vR 200]) C dX11_road_48 [vI y9, vI 0, vI 6] (k_isIn_t (v9 := y9) (l9 := 0) (u9 := 6)  b_48) w_X11_75 rfl (by decide) (by decide) (by omega) (by omega) (Nat.le_of_ble_eq_true rfl) (ko_rt ?_)
  show T x 51 [(0, vR 200), (1, vI b9), (2, vI x9), (3, vI y9), (4, vI 1), (5, vI i9)] [vI 1, vR 200] _ _ _
  refine st_if_eq (tgt := 58) C dX11_road_51 (by decide) (fun c_51 => by omega) (fun c_51 => ?_)
  refine st_iconst C dX11_road_54 (by decide) ?_
  refine st_goto (tgt := 59) C dX11_road_55 (by decide) ?_
  refine st_iconst C dX11_road_59 (by decide) ?_
  refine st_callV (st := []) C dX11_road_60 [vI 1, vI 2] (k_no_t (p9 := 2) hput_s) hput_s w_X11_112 rfl (by decide) (by decide) (by omega) (by omega) (Nat.le_of_ble_eq_true rfl) (ko_rt ?_)
  show T x 63 [(0, vR 200), (1, vI b9), (2, vI x9), (3, vI y9), (4, vI 1), (5, vI i9)] [vI 0] (hput (hput h 200 (oO 10 [vR 201, vR 202, vR 203, vR 204, vR 205, vR 206, vR 207, vR 208, vR 209, vR 210, vR 211, vR 212, vR 213, vR 214, vR 215, vR 216, vR 217, vR 218, vI mv, vI mrc, vI mmc, vI mmk, vI mdv, vI mwl, vI mwa, vI mwp, vI 0])) 200 (oO 10 [vR 201, vR 202, vR 203, vR 204, vR 205, vR 206, vR 207, vR 208, vR 209, vR 210, vR 211, vR 212, vR 213, vR 214, vR 215, vR 216, vR 217, vR 218, vI mv, vI mrc, vI mmc, vI mmk, vI mdv, vI mwl, vI mwa, vI mwp, vI 0])) _ _
  refine st_if_eq (tgt := 68) C dX11_road_63 (by decide) (fun c_63 => ?_) (fun c_63 => by omega)
  refine st_aload_n C 0 dX11_road_68 rfl rfl ?_
  refine st_iload_n C 1 dX11_road_69 rfl rfl ?_
  refine st_iload C dX11_road_70 rfl ?_
  refine st_if_eq (tgt := 88) C dX11_road_72 (by decide) (fun c_72 => by omega) (fun c_72 => ?_)
  refine st_sipush C dX11_road_75 (by decide) (by decide) ?_
  refine st_bipush C dX11_road_78 (by decide) (by decide) ?_
  refine st_iload_n C 3 dX11_road_80 rfl rfl ?_
  refine st_imul C dX11_road_81 ⟨(by omega), (by omega)⟩ ?_
  refine st_iadd C dX11_road_82 ⟨(by omega), (by omega)⟩ ?_
  refine st_iload_n C 2 dX11_road_83 rfl rfl ?_
  refine st_iadd C dX11_road_84 ⟨(by omega), (by omega)⟩ ?_
  refine st_goto (tgt := 98) C dX11_road_85 (by decide) ?_
  refine st_iload C dX11_road_98 rfl ?_
  refine st_if_eq (tgt := 107) C dX11_road_100 (by decide) (fun c_100 => ?_) (fun c_100 => ?_)
  · refine st_iconst C dX11_road_107 (by decide) ?_
    refine st_callV (st := []) C dX11_road_108 [vI b9, vI (248 + (8 * y9) + x9), vI 0] (k_medit (b9 := b9) (s9 := (248 + (8 * y9) + x9)) (v9 := 0) hput_s (hput_o (by omega) (hput_o (by omega) h207)) (hput_o (by omega) (hput_o (by omega) h208)) (hput_o (by omega) (hput_o (by omega) h209)) (by omega) (by omega)) hput_s w_X11_135 rfl (by decide) (by decide) (by omega) (by omega) (Nat.le_of_ble_eq_true rfl) (ko_rn ?_)
    show T x 111 [(0, vR 200), (1, vI b9), (2, vI x9), (3, vI y9), (4, vI 1), (5, vI i9)] [] (hput (hput (hput (hput h 200 (oO 10 [vR 201, vR 202, vR 203, vR 204, vR 205, vR 206, vR 207, vR 208, vR 209, vR 210, vR 211, vR 212, vR 213, vR 214, vR 215, vR 216, vR 217, vR 218, vI mv, vI mrc, vI mmc, vI mmk, vI mdv, vI mwl, vI mwa, vI mwp, vI 0])) 200 (oO 10 [vR 201, vR 202, vR 203, vR 204, vR 205, vR 206, vR 207, vR 208, vR 209, vR 210, vR 211, vR 212, vR 213, vR 214, vR 215, vR 216, vR 217, vR 218, vI mv, vI mrc, vI mmc, vI mmk, vI mdv, vI mwl, vI mwa, vI mwp, vI 0])) 208 (oI 1216 (medF me mb (304 * b9 + (248 + (8 * y9) + x9)) 0))) 209 (oI 1216 (mtoF mt mb (304 * b9 + (248 + (8 * y9) + x9)) 0))) _ _
    refine st_aload_n C 0 dX11_road_111 rfl rfl ?_
    refine st_iload_n C 1 dX11_road_112 rfl rfl ?_
    refine st_callV (st := []) C dX11_road_113 [vI b9] (k_editsOf (me := (medF me mb (304 * b9 + (248 + (8 * y9) + x9)) 0)) (b9 := b9) (hput_o (by omega) (hput_o (by omega) hput_s)) (hput_o (by omega) hput_s) (by omega)) (hput_o (by omega) (hput_o (by omega) hput_s)) w_X11_129 rfl (by decide) (by decide) (by omega) (by omega) (Nat.le_of_ble_eq_true rfl) (ko_rt ?_)
    show T x 116 [(0, vR 200), (1, vI b9), (2, vI x9), (3, vI y9), (4, vI 1), (5, vI i9)] [vI (cnt (fun j => 0 ≤ (medF me mb (304 * b9 + (248 + (8 * y9) + x9)) 0) (304 * b9 + j)) 304)] _ _ _
    exact st_ireturn C F dX11_road_116 rfl (by first | exact ⟨by with_reducible rfl, by with_reducible rfl⟩ | (exfalso; omega)) (by omega) (by omega)
  · refine st_iconst C dX11_road_103 (by decide) ?_
    refine st_goto (tgt := 108) C dX11_road_104 (by decide) ?_
    refine st_callV (st := []) C dX11_road_108 [vI b9, vI (248 + (8 * y9) + x9), vI 1] (k_medit (b9 := b9) (s9 := (248 + (8 * y9) + x9)) (v9 := 1) hput_s (hput_o (by omega) (hput_o (by omega) h207)) (hput_o (by omega) (hput_o (by omega) h208)) (hput_o (by omega) (hput_o (by omega) h209)) (by omega) (by omega)) hput_s w_X11_135 rfl (by decide) (by decide) (by omega) (by omega) (Nat.le_of_ble_eq_true rfl) (ko_rn ?_)
    show T x 111 [(0, vR 200), (1, vI b9), (2, vI x9), (3, vI y9), (4, vI 1), (5, vI i9)] [] (hput (hput (hput (hput h 200 (oO 10 [vR 201, vR 202, vR 203, vR 204, vR 205, vR 206, vR 207, vR 208, vR 209, vR 210, vR 211, vR 212, vR 213, vR 214, vR 215, vR 216, vR 217, vR 218, vI mv, vI mrc, vI mmc, vI mmk, vI mdv, vI mwl, vI mwa, vI mwp, vI 0])) 200 (oO 10 [vR 201, vR 202, vR 203, vR 204, vR 205, vR 206, vR 207, vR 208, vR 209, vR 210, vR 211, vR 212, vR 213, vR 214, vR 215, vR 216, vR 217, vR 218, vI mv, vI mrc, vI mmc, vI mmk, vI mdv, vI mwl, vI mwa, vI mwp, vI 0])) 208 (oI 1216 (medF me mb (304 * b9 + (248 + (8 * y9) + x9)) 1))) 209 (oI 1216 (mtoF mt mb (304 * b9 + (248 + (8 * y9) + x9)) 1))) _ _
    refine st_aload_n C 0 dX11_road_111 rfl rfl ?_
    refine st_iload_n C 1 dX11_road_112 rfl rfl ?_
    refine st_callV (st := []) C dX11_road_113 [vI b9] (k_editsOf (me := (medF me mb (304 * b9 + (248 + (8 * y9) + x9)) 1)) (b9 := b9) (hput_o (by omega) (hput_o (by omega) hput_s)) (hput_o (by omega) hput_s) (by omega)) (hput_o (by omega) (hput_o (by omega) hput_s)) w_X11_129 rfl (by decide) (by decide) (by omega) (by omega) (Nat.le_of_ble_eq_true rfl) (ko_rt ?_)
    show T x 116 [(0, vR 200), (1, vI b9), (2, vI x9), (3, vI y9), (4, vI 1), (5, vI i9)] [vI (cnt (fun j => 0 ≤ (medF me mb (304 * b9 + (248 + (8 * y9) + x9)) 1) (304 * b9 + j)) 304)] _ _ _
    exact st_ireturn C F dX11_road_116 rfl (by first | exact ⟨by with_reducible rfl, by with_reducible rfl⟩ | (exfalso; omega)) (by omega) (by omega)
set_option maxRecDepth 20000 in
set_option maxHeartbeats 4000000 in
theorem m_road11 {g : Gx} {h : HP} {mv mrc mmc mmk mdv mwl mwa mwp mth : Int} {mop : Int → Int} {mb : Int → Int} {me : Int → Int} {mt : Int → Int} {b9 : Int} {x9 y9 i9 : Int} (hm : mO h mv mrc mmc mmk mdv mwl mwa mwp mth) (h206 : h 206 = some (oZ 4 mop)) (h207 : h 207 = some (oI 1216 mb)) (h208 : h 208 = some (oI 1216 me)) (h209 : h 209 = some (oI 1216 mt)) (hv : 0 ≤ mv ∧ mv ≤ 40) (hz : ∀ i, 0 ≤ i → i ≤ 3 → mop i = 0 ∨ mop i = 1) (hO : 0 ≤ b9 ∧ b9 ≤ 3 ∧ mop b9 = 1) (hi : i9 ≠ 0) (hQ : 0 ≤ x9 ∧ x9 ≤ 7 ∧ 0 ≤ y9 ∧ y9 ≤ 6) : Ct g yX11_road (.code yX11_road cX11_road 6 (some .int)) 3 0 0 [vR 200, vI b9, vI x9, vI y9, vI 1, vI i9] h (Rt (some (vI (cnt (fun j => 0 ≤ (medF me mb (304 * b9 + (248 + 8 * y9 + x9)) 1) (304 * b9 + j)) 304))) (hput (hput (hput (hput h 200 (oO 10 [vR 201, vR 202, vR 203, vR 204, vR 205, vR 206, vR 207, vR 208, vR 209, vR 210, vR 211, vR 212, vR 213, vR 214, vR 215, vR 216, vR 217, vR 218, vI mv, vI mrc, vI mmc, vI mmk, vI mdv, vI mwl, vI mwa, vI mwp, vI 0])) 200 (oO 10 [vR 201, vR 202, vR 203, vR 204, vR 205, vR 206, vR 207, vR 208, vR 209, vR 210, vR 211, vR 212, vR 213, vR 214, vR 215, vR 216, vR 217, vR 218, vI mv, vI mrc, vI mmc, vI mmk, vI mdv, vI mwl, vI mwa, vI mwp, vI 0])) 208 (oI 1216 (medF me mb (304 * b9 + (248 + 8 * y9 + x9)) 1))) 209 (oI 1216 (mtoF mt mb (304 * b9 + (248 + 8 * y9 + x9)) 1)))) := by
  refine Ct.of (by decide) (Nat.le_of_ble_eq_true rfl) (fun x hg C F => ?_)
  subst hg
  have hb : 0 ≤ b9 ∧ b9 ≤ 3 := ⟨hO.1, hO.2.1⟩
  show T x 0 [(0, vR 200), (1, vI b9), (2, vI x9), (3, vI y9), (4, vI 1), (5, vI i9)] [] h 0 0
  refine st_aload_n C 0 dX11_road_0 rfl rfl ?_
  refine st_aload_n C 0 dX11_road_1 rfl rfl ?_
  refine st_iload_n C 1 dX11_road_2 rfl rfl ?_
  refine st_callV (st := [vR 200]) C dX11_road_3 [vI b9] (k_isBranch_t (b9 := b9) hm h206 hz hO) hm w_X11_126 rfl (by decide) (by decide) (by omega) (by omega) (Nat.le_of_ble_eq_true rfl) (ko_rt ?_)
  show T x 6 [(0, vR 200), (1, vI b9), (2, vI x9), (3, vI y9), (4, vI 1), (5, vI i9)] [vI 1, vR 200] _ _ _
  refine st_iconst C dX11_road_6 (by decide) ?_
  refine st_callV (st := []) C dX11_road_7 [vI 1, vI 1] (k_no_t (p9 := 1) hm) hm w_X11_112 rfl (by decide) (by decide) (by omega) (by omega) (Nat.le_of_ble_eq_true rfl) (ko_rt ?_)
  show T x 10 [(0, vR 200), (1, vI b9), (2, vI x9), (3, vI y9), (4, vI 1), (5, vI i9)] [vI 0] (hput h 200 (oO 10 [vR 201, vR 202, vR 203, vR 204, vR 205, vR 206, vR 207, vR 208, vR 209, vR 210, vR 211, vR 212, vR 213, vR 214, vR 215, vR 216, vR 217, vR 218, vI mv, vI mrc, vI mmc, vI mmk, vI mdv, vI mwl, vI mwa, vI mwp, vI 0])) _ _
  refine st_if_ne (tgt := 66) C dX11_road_10 (by decide) (fun c_10 => by omega) (fun c_10 => ?_)
  refine st_aload_n C 0 dX11_road_13 rfl rfl ?_
  refine st_iload_n C 2 dX11_road_14 rfl rfl ?_
  refine st_iconst C dX11_road_15 (by decide) ?_
  refine st_iload C dX11_road_16 rfl ?_
  refine st_if_eq (tgt := 26) C dX11_road_18 (by decide) (fun c_18 => by omega) (fun c_18 => ?_)
  refine st_bipush C dX11_road_21 (by decide) (by decide) ?_
  refine st_goto (tgt := 28) C dX11_road_23 (by decide) ?_
  have b_28 : 0 ≤ x9 ∧ x9 ≤ 7 := by omega
  refine st_callS (st := [vR 200]) C dX11_road_28 [vI x9, vI 0, vI 7] (k_isIn_t (v9 := x9) (l9 := 0) (u9 := 7)  b_28) w_X11_75 rfl (by decide) (by decide) (by omega) (by omega) (Nat.le_of_ble_eq_true rfl) (ko_rt ?_)
  show T x 31 [(0, vR 200), (1, vI b9), (2, vI x9), (3, vI y9), (4, vI 1), (5, vI i9)] [vI 1, vR 200] _ _ _
  refine st_if_eq (tgt := 58) C dX11_road_31 (by decide) (fun c_31 => by omega) (fun c_31 => ?_)
  refine st_iload_n C 3 dX11_road_34 rfl rfl ?_
  refine st_iconst C dX11_road_35 (by decide) ?_
  refine st_iload C dX11_road_36 rfl ?_
  refine st_if_eq (tgt := 46) C dX11_road_38 (by decide) (fun c_38 => by omega) (fun c_38 => ?_)
  refine st_bipush C dX11_road_41 (by decide) (by decide) ?_
  refine st_goto (tgt := 48) C dX11_road_43 (by decide) ?_
  have b_48 : 0 ≤ y9 ∧ y9 ≤ 6 := by omega
  refine st_callS (st := [vR 200]) C dX11_road_48 [vI y9, vI 0, vI 6] (k_isIn_t (v9 := y9) (l9 := 0) (u9 := 6)  b_48) w_X11_75 rfl (by decide) (by decide) (by omega) (by omega) (Nat.le_of_ble_eq_true rfl) (ko_rt ?_)
  show T x 51 [(0, vR 200), (1, vI b9), (2, vI x9), (3, vI y9), (4, vI 1), (5, vI i9)] [vI 1, vR 200] _ _ _
  refine st_if_eq (tgt := 58) C dX11_road_51 (by decide) (fun c_51 => by omega) (fun c_51 => ?_)
  refine st_iconst C dX11_road_54 (by decide) ?_
  refine st_goto (tgt := 59) C dX11_road_55 (by decide) ?_
  refine st_iconst C dX11_road_59 (by decide) ?_
  refine st_callV (st := []) C dX11_road_60 [vI 1, vI 2] (k_no_t (p9 := 2) hput_s) hput_s w_X11_112 rfl (by decide) (by decide) (by omega) (by omega) (Nat.le_of_ble_eq_true rfl) (ko_rt ?_)
  show T x 63 [(0, vR 200), (1, vI b9), (2, vI x9), (3, vI y9), (4, vI 1), (5, vI i9)] [vI 0] (hput (hput h 200 (oO 10 [vR 201, vR 202, vR 203, vR 204, vR 205, vR 206, vR 207, vR 208, vR 209, vR 210, vR 211, vR 212, vR 213, vR 214, vR 215, vR 216, vR 217, vR 218, vI mv, vI mrc, vI mmc, vI mmk, vI mdv, vI mwl, vI mwa, vI mwp, vI 0])) 200 (oO 10 [vR 201, vR 202, vR 203, vR 204, vR 205, vR 206, vR 207, vR 208, vR 209, vR 210, vR 211, vR 212, vR 213, vR 214, vR 215, vR 216, vR 217, vR 218, vI mv, vI mrc, vI mmc, vI mmk, vI mdv, vI mwl, vI mwa, vI mwp, vI 0])) _ _
  refine st_if_eq (tgt := 68) C dX11_road_63 (by decide) (fun c_63 => ?_) (fun c_63 => by omega)
  refine st_aload_n C 0 dX11_road_68 rfl rfl ?_
  refine st_iload_n C 1 dX11_road_69 rfl rfl ?_
  refine st_iload C dX11_road_70 rfl ?_
  refine st_if_eq (tgt := 88) C dX11_road_72 (by decide) (fun c_72 => by omega) (fun c_72 => ?_)
  refine st_sipush C dX11_road_75 (by decide) (by decide) ?_
  refine st_bipush C dX11_road_78 (by decide) (by decide) ?_
  refine st_iload_n C 3 dX11_road_80 rfl rfl ?_
  refine st_imul C dX11_road_81 ⟨(by omega), (by omega)⟩ ?_
  refine st_iadd C dX11_road_82 ⟨(by omega), (by omega)⟩ ?_
  refine st_iload_n C 2 dX11_road_83 rfl rfl ?_
  refine st_iadd C dX11_road_84 ⟨(by omega), (by omega)⟩ ?_
  refine st_goto (tgt := 98) C dX11_road_85 (by decide) ?_
  refine st_iload C dX11_road_98 rfl ?_
  refine st_if_eq (tgt := 107) C dX11_road_100 (by decide) (fun c_100 => ?_) (fun c_100 => ?_)
  · refine st_iconst C dX11_road_107 (by decide) ?_
    refine st_callV (st := []) C dX11_road_108 [vI b9, vI (248 + (8 * y9) + x9), vI 0] (k_medit (b9 := b9) (s9 := (248 + (8 * y9) + x9)) (v9 := 0) hput_s (hput_o (by omega) (hput_o (by omega) h207)) (hput_o (by omega) (hput_o (by omega) h208)) (hput_o (by omega) (hput_o (by omega) h209)) (by omega) (by omega)) hput_s w_X11_135 rfl (by decide) (by decide) (by omega) (by omega) (Nat.le_of_ble_eq_true rfl) (ko_rn ?_)
    show T x 111 [(0, vR 200), (1, vI b9), (2, vI x9), (3, vI y9), (4, vI 1), (5, vI i9)] [] (hput (hput (hput (hput h 200 (oO 10 [vR 201, vR 202, vR 203, vR 204, vR 205, vR 206, vR 207, vR 208, vR 209, vR 210, vR 211, vR 212, vR 213, vR 214, vR 215, vR 216, vR 217, vR 218, vI mv, vI mrc, vI mmc, vI mmk, vI mdv, vI mwl, vI mwa, vI mwp, vI 0])) 200 (oO 10 [vR 201, vR 202, vR 203, vR 204, vR 205, vR 206, vR 207, vR 208, vR 209, vR 210, vR 211, vR 212, vR 213, vR 214, vR 215, vR 216, vR 217, vR 218, vI mv, vI mrc, vI mmc, vI mmk, vI mdv, vI mwl, vI mwa, vI mwp, vI 0])) 208 (oI 1216 (medF me mb (304 * b9 + (248 + (8 * y9) + x9)) 0))) 209 (oI 1216 (mtoF mt mb (304 * b9 + (248 + (8 * y9) + x9)) 0))) _ _
    refine st_aload_n C 0 dX11_road_111 rfl rfl ?_
    refine st_iload_n C 1 dX11_road_112 rfl rfl ?_
    refine st_callV (st := []) C dX11_road_113 [vI b9] (k_editsOf (me := (medF me mb (304 * b9 + (248 + (8 * y9) + x9)) 0)) (b9 := b9) (hput_o (by omega) (hput_o (by omega) hput_s)) (hput_o (by omega) hput_s) (by omega)) (hput_o (by omega) (hput_o (by omega) hput_s)) w_X11_129 rfl (by decide) (by decide) (by omega) (by omega) (Nat.le_of_ble_eq_true rfl) (ko_rt ?_)
    show T x 116 [(0, vR 200), (1, vI b9), (2, vI x9), (3, vI y9), (4, vI 1), (5, vI i9)] [vI (cnt (fun j => 0 ≤ (medF me mb (304 * b9 + (248 + (8 * y9) + x9)) 0) (304 * b9 + j)) 304)] _ _ _
    exact st_ireturn C F dX11_road_116 rfl (by first | exact ⟨by with_reducible rfl, by with_reducible rfl⟩ | (exfalso; omega)) (by omega) (by omega)
  · refine st_iconst C dX11_road_103 (by decide) ?_
    refine st_goto (tgt := 108) C dX11_road_104 (by decide) ?_
    refine st_callV (st := []) C dX11_road_108 [vI b9, vI (248 + (8 * y9) + x9), vI 1] (k_medit (b9 := b9) (s9 := (248 + (8 * y9) + x9)) (v9 := 1) hput_s (hput_o (by omega) (hput_o (by omega) h207)) (hput_o (by omega) (hput_o (by omega) h208)) (hput_o (by omega) (hput_o (by omega) h209)) (by omega) (by omega)) hput_s w_X11_135 rfl (by decide) (by decide) (by omega) (by omega) (Nat.le_of_ble_eq_true rfl) (ko_rn ?_)
    show T x 111 [(0, vR 200), (1, vI b9), (2, vI x9), (3, vI y9), (4, vI 1), (5, vI i9)] [] (hput (hput (hput (hput h 200 (oO 10 [vR 201, vR 202, vR 203, vR 204, vR 205, vR 206, vR 207, vR 208, vR 209, vR 210, vR 211, vR 212, vR 213, vR 214, vR 215, vR 216, vR 217, vR 218, vI mv, vI mrc, vI mmc, vI mmk, vI mdv, vI mwl, vI mwa, vI mwp, vI 0])) 200 (oO 10 [vR 201, vR 202, vR 203, vR 204, vR 205, vR 206, vR 207, vR 208, vR 209, vR 210, vR 211, vR 212, vR 213, vR 214, vR 215, vR 216, vR 217, vR 218, vI mv, vI mrc, vI mmc, vI mmk, vI mdv, vI mwl, vI mwa, vI mwp, vI 0])) 208 (oI 1216 (medF me mb (304 * b9 + (248 + (8 * y9) + x9)) 1))) 209 (oI 1216 (mtoF mt mb (304 * b9 + (248 + (8 * y9) + x9)) 1))) _ _
    refine st_aload_n C 0 dX11_road_111 rfl rfl ?_
    refine st_iload_n C 1 dX11_road_112 rfl rfl ?_
    refine st_callV (st := []) C dX11_road_113 [vI b9] (k_editsOf (me := (medF me mb (304 * b9 + (248 + (8 * y9) + x9)) 1)) (b9 := b9) (hput_o (by omega) (hput_o (by omega) hput_s)) (hput_o (by omega) hput_s) (by omega)) (hput_o (by omega) (hput_o (by omega) hput_s)) w_X11_129 rfl (by decide) (by decide) (by omega) (by omega) (Nat.le_of_ble_eq_true rfl) (ko_rt ?_)
    show T x 116 [(0, vR 200), (1, vI b9), (2, vI x9), (3, vI y9), (4, vI 1), (5, vI i9)] [vI (cnt (fun j => 0 ≤ (medF me mb (304 * b9 + (248 + (8 * y9) + x9)) 1) (304 * b9 + j)) 304)] _ _ _
    exact st_ireturn C F dX11_road_116 rfl (by first | exact ⟨by with_reducible rfl, by with_reducible rfl⟩ | (exfalso; omega)) (by omega) (by omega)
set_option maxRecDepth 20000 in
set_option maxHeartbeats 4000000 in
theorem m_seen_x1 {g : Gx} {h : HP} {mv mrc mmc mmk mdv mwl mwa mwp mth : Int} {mop : Int → Int} {b9 : Int} {s9 : Int} (hm : mO h mv mrc mmc mmk mdv mwl mwa mwp mth) (h206 : h 206 = some (oZ 4 mop)) (hv : 0 ≤ mv ∧ mv ≤ 40) (hz : ∀ i, 0 ≤ i → i ≤ 3 → mop i = 0 ∨ mop i = 1) (hO : ¬ (0 ≤ b9 ∧ b9 ≤ 3 ∧ mop b9 = 1)) : Ct g yX11_seen (.code yX11_seen cX11_seen 4 (some .int)) 3 0 0 [vR 200, vI b9, vI s9] h (Rt (some (vI 0)) (hput h 200 (oO 10 [vR 201, vR 202, vR 203, vR 204, vR 205, vR 206, vR 207, vR 208, vR 209, vR 210, vR 211, vR 212, vR 213, vR 214, vR 215, vR 216, vR 217, vR 218, vI mv, vI mrc, vI mmc, vI mmk, vI mdv, vI mwl, vI mwa, vI mwp, vI 1]))) := by
  refine Ct.of (by decide) (Nat.le_of_ble_eq_true rfl) (fun x hg C F => ?_)
  subst hg
  show T x 0 [(0, vR 200), (1, vI b9), (2, vI s9)] [] h 0 0
  refine st_aload_n C 0 dX11_seen_0 rfl rfl ?_
  refine st_aload_n C 0 dX11_seen_1 rfl rfl ?_
  refine st_iload_n C 1 dX11_seen_2 rfl rfl ?_
  refine st_callV (st := [vR 200]) C dX11_seen_3 [vI b9] (k_isBranch_f (b9 := b9) hm h206 hz hO) hm w_X11_126 rfl (by decide) (by decide) (by omega) (by omega) (Nat.le_of_ble_eq_true rfl) (ko_rt ?_)
  show T x 6 [(0, vR 200), (1, vI b9), (2, vI s9)] [vI 0, vR 200] _ _ _
  refine st_iconst C dX11_seen_6 (by decide) ?_
  refine st_callV (st := []) C dX11_seen_7 [vI 0, vI 1] (k_no_f (p9 := 1) hm) hm w_X11_112 rfl (by decide) (by decide) (by omega) (by omega) (Nat.le_of_ble_eq_true rfl) (ko_rt ?_)
  show T x 10 [(0, vR 200), (1, vI b9), (2, vI s9)] [vI 1] (hput h 200 (oO 10 [vR 201, vR 202, vR 203, vR 204, vR 205, vR 206, vR 207, vR 208, vR 209, vR 210, vR 211, vR 212, vR 213, vR 214, vR 215, vR 216, vR 217, vR 218, vI mv, vI mrc, vI mmc, vI mmk, vI mdv, vI mwl, vI mwa, vI mwp, vI 1])) _ _
  refine st_if_ne (tgt := 25) C dX11_seen_10 (by decide) (fun c_10 => ?_) (fun c_10 => by omega)
  refine st_iconst C dX11_seen_25 (by decide) ?_
  exact st_ireturn C F dX11_seen_26 rfl (by first | exact ⟨by with_reducible rfl, by with_reducible rfl⟩ | (exfalso; omega)) (by omega) (by omega)
set_option maxRecDepth 20000 in
set_option maxHeartbeats 4000000 in
theorem m_seen_x2 {g : Gx} {h : HP} {mv mrc mmc mmk mdv mwl mwa mwp mth : Int} {mop : Int → Int} {b9 : Int} {s9 : Int} (hm : mO h mv mrc mmc mmk mdv mwl mwa mwp mth) (h206 : h 206 = some (oZ 4 mop)) (hv : 0 ≤ mv ∧ mv ≤ 40) (hz : ∀ i, 0 ≤ i → i ≤ 3 → mop i = 0 ∨ mop i = 1) (hO : 0 ≤ b9 ∧ b9 ≤ 3 ∧ mop b9 = 1) (hQ : ¬ (0 ≤ s9 ∧ s9 ≤ 303)) : Ct g yX11_seen (.code yX11_seen cX11_seen 4 (some .int)) 3 0 0 [vR 200, vI b9, vI s9] h (Rt (some (vI 0)) (hput (hput h 200 (oO 10 [vR 201, vR 202, vR 203, vR 204, vR 205, vR 206, vR 207, vR 208, vR 209, vR 210, vR 211, vR 212, vR 213, vR 214, vR 215, vR 216, vR 217, vR 218, vI mv, vI mrc, vI mmc, vI mmk, vI mdv, vI mwl, vI mwa, vI mwp, vI 0])) 200 (oO 10 [vR 201, vR 202, vR 203, vR 204, vR 205, vR 206, vR 207, vR 208, vR 209, vR 210, vR 211, vR 212, vR 213, vR 214, vR 215, vR 216, vR 217, vR 218, vI mv, vI mrc, vI mmc, vI mmk, vI mdv, vI mwl, vI mwa, vI mwp, vI 2]))) := by
  refine Ct.of (by decide) (Nat.le_of_ble_eq_true rfl) (fun x hg C F => ?_)
  subst hg
  have hb : 0 ≤ b9 ∧ b9 ≤ 3 := ⟨hO.1, hO.2.1⟩
  show T x 0 [(0, vR 200), (1, vI b9), (2, vI s9)] [] h 0 0
  refine st_aload_n C 0 dX11_seen_0 rfl rfl ?_
  refine st_aload_n C 0 dX11_seen_1 rfl rfl ?_
  refine st_iload_n C 1 dX11_seen_2 rfl rfl ?_
  refine st_callV (st := [vR 200]) C dX11_seen_3 [vI b9] (k_isBranch_t (b9 := b9) hm h206 hz hO) hm w_X11_126 rfl (by decide) (by decide) (by omega) (by omega) (Nat.le_of_ble_eq_true rfl) (ko_rt ?_)
  show T x 6 [(0, vR 200), (1, vI b9), (2, vI s9)] [vI 1, vR 200] _ _ _
  refine st_iconst C dX11_seen_6 (by decide) ?_
  refine st_callV (st := []) C dX11_seen_7 [vI 1, vI 1] (k_no_t (p9 := 1) hm) hm w_X11_112 rfl (by decide) (by decide) (by omega) (by omega) (Nat.le_of_ble_eq_true rfl) (ko_rt ?_)
  show T x 10 [(0, vR 200), (1, vI b9), (2, vI s9)] [vI 0] (hput h 200 (oO 10 [vR 201, vR 202, vR 203, vR 204, vR 205, vR 206, vR 207, vR 208, vR 209, vR 210, vR 211, vR 212, vR 213, vR 214, vR 215, vR 216, vR 217, vR 218, vI mv, vI mrc, vI mmc, vI mmk, vI mdv, vI mwl, vI mwa, vI mwp, vI 0])) _ _
  refine st_if_ne (tgt := 25) C dX11_seen_10 (by decide) (fun c_10 => by omega) (fun c_10 => ?_)
  refine st_aload_n C 0 dX11_seen_13 rfl rfl ?_
  refine st_iload_n C 2 dX11_seen_14 rfl rfl ?_
  by_cases b_15 : 0 ≤ s9 ∧ s9 ≤ 303
  · refine st_callS (st := [vR 200]) C dX11_seen_15 [vI s9] (k_mSpot_t (v9 := s9)  b_15) w_X11_139 rfl (by decide) (by decide) (by omega) (by omega) (Nat.le_of_ble_eq_true rfl) (ko_rt ?_)
    show T x 18 [(0, vR 200), (1, vI b9), (2, vI s9)] [vI 1, vR 200] _ _ _
    refine st_iconst C dX11_seen_18 (by decide) ?_
    exfalso; omega
  · refine st_callS (st := [vR 200]) C dX11_seen_15 [vI s9] (k_mSpot_f (v9 := s9)  b_15) w_X11_139 rfl (by decide) (by decide) (by omega) (by omega) (Nat.le_of_ble_eq_true rfl) (ko_rt ?_)
    show T x 18 [(0, vR 200), (1, vI b9), (2, vI s9)] [vI 0, vR 200] _ _ _
    refine st_iconst C dX11_seen_18 (by decide) ?_
    refine st_callV (st := []) C dX11_seen_19 [vI 0, vI 2] (k_no_f (p9 := 2) hput_s) hput_s w_X11_112 rfl (by decide) (by decide) (by omega) (by omega) (Nat.le_of_ble_eq_true rfl) (ko_rt ?_)
    show T x 22 [(0, vR 200), (1, vI b9), (2, vI s9)] [vI 1] (hput (hput h 200 (oO 10 [vR 201, vR 202, vR 203, vR 204, vR 205, vR 206, vR 207, vR 208, vR 209, vR 210, vR 211, vR 212, vR 213, vR 214, vR 215, vR 216, vR 217, vR 218, vI mv, vI mrc, vI mmc, vI mmk, vI mdv, vI mwl, vI mwa, vI mwp, vI 0])) 200 (oO 10 [vR 201, vR 202, vR 203, vR 204, vR 205, vR 206, vR 207, vR 208, vR 209, vR 210, vR 211, vR 212, vR 213, vR 214, vR 215, vR 216, vR 217, vR 218, vI mv, vI mrc, vI mmc, vI mmk, vI mdv, vI mwl, vI mwa, vI mwp, vI 2])) _ _
    refine st_if_eq (tgt := 27) C dX11_seen_22 (by decide) (fun c_22 => by omega) (fun c_22 => ?_)
    refine st_iconst C dX11_seen_25 (by decide) ?_
    exact st_ireturn C F dX11_seen_26 rfl (by first | (exfalso; omega) | exact ⟨by with_reducible rfl, by with_reducible rfl⟩) (by omega) (by omega)
set_option maxRecDepth 20000 in
set_option maxHeartbeats 4000000 in
theorem m_seen {g : Gx} {h : HP} {mv mrc mmc mmk mdv mwl mwa mwp mth : Int} {mop : Int → Int} {mb : Int → Int} {me : Int → Int} {b9 : Int} {s9 : Int} (hm : mO h mv mrc mmc mmk mdv mwl mwa mwp mth) (h206 : h 206 = some (oZ 4 mop)) (h207 : h 207 = some (oI 1216 mb)) (h208 : h 208 = some (oI 1216 me)) (hv : 0 ≤ mv ∧ mv ≤ 40) (hz : ∀ i, 0 ≤ i → i ≤ 3 → mop i = 0 ∨ mop i = 1) (hO : 0 ≤ b9 ∧ b9 ≤ 3 ∧ mop b9 = 1) (hQ : 0 ≤ s9 ∧ s9 ≤ 303) : Ct g yX11_seen (.code yX11_seen cX11_seen 4 (some .int)) 3 0 0 [vR 200, vI b9, vI s9] h (Rt (some (vI (if 0 ≤ me (304 * b9 + s9) then me (304 * b9 + s9) else mb (304 * b9 + s9)))) (hput (hput h 200 (oO 10 [vR 201, vR 202, vR 203, vR 204, vR 205, vR 206, vR 207, vR 208, vR 209, vR 210, vR 211, vR 212, vR 213, vR 214, vR 215, vR 216, vR 217, vR 218, vI mv, vI mrc, vI mmc, vI mmk, vI mdv, vI mwl, vI mwa, vI mwp, vI 0])) 200 (oO 10 [vR 201, vR 202, vR 203, vR 204, vR 205, vR 206, vR 207, vR 208, vR 209, vR 210, vR 211, vR 212, vR 213, vR 214, vR 215, vR 216, vR 217, vR 218, vI mv, vI mrc, vI mmc, vI mmk, vI mdv, vI mwl, vI mwa, vI mwp, vI 0]))) := by
  refine Ct.of (by decide) (Nat.le_of_ble_eq_true rfl) (fun x hg C F => ?_)
  subst hg
  have hb : 0 ≤ b9 ∧ b9 ≤ 3 := ⟨hO.1, hO.2.1⟩
  show T x 0 [(0, vR 200), (1, vI b9), (2, vI s9)] [] h 0 0
  refine st_aload_n C 0 dX11_seen_0 rfl rfl ?_
  refine st_aload_n C 0 dX11_seen_1 rfl rfl ?_
  refine st_iload_n C 1 dX11_seen_2 rfl rfl ?_
  refine st_callV (st := [vR 200]) C dX11_seen_3 [vI b9] (k_isBranch_t (b9 := b9) hm h206 hz hO) hm w_X11_126 rfl (by decide) (by decide) (by omega) (by omega) (Nat.le_of_ble_eq_true rfl) (ko_rt ?_)
  show T x 6 [(0, vR 200), (1, vI b9), (2, vI s9)] [vI 1, vR 200] _ _ _
  refine st_iconst C dX11_seen_6 (by decide) ?_
  refine st_callV (st := []) C dX11_seen_7 [vI 1, vI 1] (k_no_t (p9 := 1) hm) hm w_X11_112 rfl (by decide) (by decide) (by omega) (by omega) (Nat.le_of_ble_eq_true rfl) (ko_rt ?_)
  show T x 10 [(0, vR 200), (1, vI b9), (2, vI s9)] [vI 0] (hput h 200 (oO 10 [vR 201, vR 202, vR 203, vR 204, vR 205, vR 206, vR 207, vR 208, vR 209, vR 210, vR 211, vR 212, vR 213, vR 214, vR 215, vR 216, vR 217, vR 218, vI mv, vI mrc, vI mmc, vI mmk, vI mdv, vI mwl, vI mwa, vI mwp, vI 0])) _ _
  refine st_if_ne (tgt := 25) C dX11_seen_10 (by decide) (fun c_10 => by omega) (fun c_10 => ?_)
  refine st_aload_n C 0 dX11_seen_13 rfl rfl ?_
  refine st_iload_n C 2 dX11_seen_14 rfl rfl ?_
  have b_15 : 0 ≤ s9 ∧ s9 ≤ 303 := by omega
  refine st_callS (st := [vR 200]) C dX11_seen_15 [vI s9] (k_mSpot_t (v9 := s9)  b_15) w_X11_139 rfl (by decide) (by decide) (by omega) (by omega) (Nat.le_of_ble_eq_true rfl) (ko_rt ?_)
  show T x 18 [(0, vR 200), (1, vI b9), (2, vI s9)] [vI 1, vR 200] _ _ _
  refine st_iconst C dX11_seen_18 (by decide) ?_
  refine st_callV (st := []) C dX11_seen_19 [vI 1, vI 2] (k_no_t (p9 := 2) hput_s) hput_s w_X11_112 rfl (by decide) (by decide) (by omega) (by omega) (Nat.le_of_ble_eq_true rfl) (ko_rt ?_)
  show T x 22 [(0, vR 200), (1, vI b9), (2, vI s9)] [vI 0] (hput (hput h 200 (oO 10 [vR 201, vR 202, vR 203, vR 204, vR 205, vR 206, vR 207, vR 208, vR 209, vR 210, vR 211, vR 212, vR 213, vR 214, vR 215, vR 216, vR 217, vR 218, vI mv, vI mrc, vI mmc, vI mmk, vI mdv, vI mwl, vI mwa, vI mwp, vI 0])) 200 (oO 10 [vR 201, vR 202, vR 203, vR 204, vR 205, vR 206, vR 207, vR 208, vR 209, vR 210, vR 211, vR 212, vR 213, vR 214, vR 215, vR 216, vR 217, vR 218, vI mv, vI mrc, vI mmc, vI mmk, vI mdv, vI mwl, vI mwa, vI mwp, vI 0])) _ _
  refine st_if_eq (tgt := 27) C dX11_seen_22 (by decide) (fun c_22 => ?_) (fun c_22 => by omega)
  refine st_sipush C dX11_seen_27 (by decide) (by decide) ?_
  refine st_iload_n C 1 dX11_seen_30 rfl rfl ?_
  refine st_imul C dX11_seen_31 ⟨(by omega), (by omega)⟩ ?_
  refine st_iload_n C 2 dX11_seen_32 rfl rfl ?_
  refine st_iadd C dX11_seen_33 ⟨(by omega), (by omega)⟩ ?_
  refine st_istore_n C 3 dX11_seen_34 rfl (by decide) rfl ?_
  show T x 35 [(0, vR 200), (1, vI b9), (2, vI s9), (3, vI (304 * b9 + s9))] [] _ _ _
  refine st_aload_n C 0 dX11_seen_35 rfl rfl ?_
  refine st_getf C dX11_seen_36 fl_X11_32 hput_s rfl ?_
  refine st_iload_n C 3 dX11_seen_39 rfl rfl ?_
  refine st_iald C dX11_seen_40 (hput_o (by omega) (hput_o (by omega) h208)) (by omega) (by omega) ?_
  refine st_if_lt (tgt := 53) C dX11_seen_41 (by decide) (fun c_41 => ?_) (fun c_41 => ?_)
  · refine st_aload_n C 0 dX11_seen_53 rfl rfl ?_
    refine st_getf C dX11_seen_54 fl_X11_29 hput_s rfl ?_
    refine st_iload_n C 3 dX11_seen_57 rfl rfl ?_
    refine st_iald C dX11_seen_58 (hput_o (by omega) (hput_o (by omega) h207)) (by omega) (by omega) ?_
    exact st_ireturn C F dX11_seen_59 rfl (by first | (rw [if_pos (by omega)]; exact ⟨by with_reducible rfl, by with_reducible rfl⟩) | (rw [if_neg (by omega)]; exact ⟨by with_reducible rfl, by with_reducible rfl⟩)) (by omega) (by omega)
  · refine st_aload_n C 0 dX11_seen_44 rfl rfl ?_
    refine st_getf C dX11_seen_45 fl_X11_32 hput_s rfl ?_
    refine st_iload_n C 3 dX11_seen_48 rfl rfl ?_
    refine st_iald C dX11_seen_49 (hput_o (by omega) (hput_o (by omega) h208)) (by omega) (by omega) ?_
    refine st_goto (tgt := 59) C dX11_seen_50 (by decide) ?_
    exact st_ireturn C F dX11_seen_59 rfl (by first | (rw [if_pos (by omega)]; exact ⟨by with_reducible rfl, by with_reducible rfl⟩) | (rw [if_neg (by omega)]; exact ⟨by with_reducible rfl, by with_reducible rfl⟩)) (by omega) (by omega)
set_option maxRecDepth 20000 in
set_option maxHeartbeats 4000000 in
theorem m_edits_x1 {g : Gx} {h : HP} {mv mrc mmc mmk mdv mwl mwa mwp mth : Int} {mop : Int → Int} {b9 : Int} (hm : mO h mv mrc mmc mmk mdv mwl mwa mwp mth) (h206 : h 206 = some (oZ 4 mop)) (hv : 0 ≤ mv ∧ mv ≤ 40) (hz : ∀ i, 0 ≤ i → i ≤ 3 → mop i = 0 ∨ mop i = 1) (hO : ¬ (0 ≤ b9 ∧ b9 ≤ 3 ∧ mop b9 = 1)) : Ct g yX11_edits (.code yX11_edits cX11_edits 2 (some .int)) 3 0 0 [vR 200, vI b9] h (Rt (some (vI 0)) (hput h 200 (oO 10 [vR 201, vR 202, vR 203, vR 204, vR 205, vR 206, vR 207, vR 208, vR 209, vR 210, vR 211, vR 212, vR 213, vR 214, vR 215, vR 216, vR 217, vR 218, vI mv, vI mrc, vI mmc, vI mmk, vI mdv, vI mwl, vI mwa, vI mwp, vI 1]))) := by
  refine Ct.of (by decide) (Nat.le_of_ble_eq_true rfl) (fun x hg C F => ?_)
  subst hg
  show T x 0 [(0, vR 200), (1, vI b9)] [] h 0 0
  refine st_aload_n C 0 dX11_edits_0 rfl rfl ?_
  refine st_aload_n C 0 dX11_edits_1 rfl rfl ?_
  refine st_iload_n C 1 dX11_edits_2 rfl rfl ?_
  refine st_callV (st := [vR 200]) C dX11_edits_3 [vI b9] (k_isBranch_f (b9 := b9) hm h206 hz hO) hm w_X11_126 rfl (by decide) (by decide) (by omega) (by omega) (Nat.le_of_ble_eq_true rfl) (ko_rt ?_)
  show T x 6 [(0, vR 200), (1, vI b9)] [vI 0, vR 200] _ _ _
  refine st_iconst C dX11_edits_6 (by decide) ?_
  refine st_callV (st := []) C dX11_edits_7 [vI 0, vI 1] (k_no_f (p9 := 1) hm) hm w_X11_112 rfl (by decide) (by decide) (by omega) (by omega) (Nat.le_of_ble_eq_true rfl) (ko_rt ?_)
  show T x 10 [(0, vR 200), (1, vI b9)] [vI 1] (hput h 200 (oO 10 [vR 201, vR 202, vR 203, vR 204, vR 205, vR 206, vR 207, vR 208, vR 209, vR 210, vR 211, vR 212, vR 213, vR 214, vR 215, vR 216, vR 217, vR 218, vI mv, vI mrc, vI mmc, vI mmk, vI mdv, vI mwl, vI mwa, vI mwp, vI 1])) _ _
  refine st_if_eq (tgt := 17) C dX11_edits_10 (by decide) (fun c_10 => by omega) (fun c_10 => ?_)
  refine st_iconst C dX11_edits_13 (by decide) ?_
  refine st_goto (tgt := 22) C dX11_edits_14 (by decide) ?_
  exact st_ireturn C F dX11_edits_22 rfl (by first | exact ⟨by with_reducible rfl, by with_reducible rfl⟩ | (exfalso; omega)) (by omega) (by omega)
set_option maxRecDepth 20000 in
set_option maxHeartbeats 4000000 in
theorem m_edits {g : Gx} {h : HP} {mv mrc mmc mmk mdv mwl mwa mwp mth : Int} {mop : Int → Int} {me : Int → Int} {b9 : Int} (hm : mO h mv mrc mmc mmk mdv mwl mwa mwp mth) (h206 : h 206 = some (oZ 4 mop)) (h208 : h 208 = some (oI 1216 me)) (hv : 0 ≤ mv ∧ mv ≤ 40) (hz : ∀ i, 0 ≤ i → i ≤ 3 → mop i = 0 ∨ mop i = 1) (hO : 0 ≤ b9 ∧ b9 ≤ 3 ∧ mop b9 = 1) : Ct g yX11_edits (.code yX11_edits cX11_edits 2 (some .int)) 3 0 0 [vR 200, vI b9] h (Rt (some (vI (cnt (fun j => 0 ≤ me (304 * b9 + j)) 304))) (hput h 200 (oO 10 [vR 201, vR 202, vR 203, vR 204, vR 205, vR 206, vR 207, vR 208, vR 209, vR 210, vR 211, vR 212, vR 213, vR 214, vR 215, vR 216, vR 217, vR 218, vI mv, vI mrc, vI mmc, vI mmk, vI mdv, vI mwl, vI mwa, vI mwp, vI 0]))) := by
  refine Ct.of (by decide) (Nat.le_of_ble_eq_true rfl) (fun x hg C F => ?_)
  subst hg
  have hb : 0 ≤ b9 ∧ b9 ≤ 3 := ⟨hO.1, hO.2.1⟩
  show T x 0 [(0, vR 200), (1, vI b9)] [] h 0 0
  refine st_aload_n C 0 dX11_edits_0 rfl rfl ?_
  refine st_aload_n C 0 dX11_edits_1 rfl rfl ?_
  refine st_iload_n C 1 dX11_edits_2 rfl rfl ?_
  refine st_callV (st := [vR 200]) C dX11_edits_3 [vI b9] (k_isBranch_t (b9 := b9) hm h206 hz hO) hm w_X11_126 rfl (by decide) (by decide) (by omega) (by omega) (Nat.le_of_ble_eq_true rfl) (ko_rt ?_)
  show T x 6 [(0, vR 200), (1, vI b9)] [vI 1, vR 200] _ _ _
  refine st_iconst C dX11_edits_6 (by decide) ?_
  refine st_callV (st := []) C dX11_edits_7 [vI 1, vI 1] (k_no_t (p9 := 1) hm) hm w_X11_112 rfl (by decide) (by decide) (by omega) (by omega) (Nat.le_of_ble_eq_true rfl) (ko_rt ?_)
  show T x 10 [(0, vR 200), (1, vI b9)] [vI 0] (hput h 200 (oO 10 [vR 201, vR 202, vR 203, vR 204, vR 205, vR 206, vR 207, vR 208, vR 209, vR 210, vR 211, vR 212, vR 213, vR 214, vR 215, vR 216, vR 217, vR 218, vI mv, vI mrc, vI mmc, vI mmk, vI mdv, vI mwl, vI mwa, vI mwp, vI 0])) _ _
  refine st_if_eq (tgt := 17) C dX11_edits_10 (by decide) (fun c_10 => ?_) (fun c_10 => by omega)
  refine st_aload_n C 0 dX11_edits_17 rfl rfl ?_
  refine st_iload_n C 1 dX11_edits_18 rfl rfl ?_
  refine st_callV (st := []) C dX11_edits_19 [vI b9] (k_editsOf (me := me) (b9 := b9) hput_s (hput_o (by omega) h208) (by omega)) hput_s w_X11_129 rfl (by decide) (by decide) (by omega) (by omega) (Nat.le_of_ble_eq_true rfl) (ko_rt ?_)
  show T x 22 [(0, vR 200), (1, vI b9)] [vI (cnt (fun j => 0 ≤ me (304 * b9 + j)) 304)] _ _ _
  exact st_ireturn C F dX11_edits_22 rfl (by first | exact ⟨by with_reducible rfl, by with_reducible rfl⟩ | (exfalso; omega)) (by omega) (by omega)
set_option maxRecDepth 20000 in
set_option maxHeartbeats 4000000 in
theorem m_conflicts_x1 {g : Gx} {h : HP} {mv mrc mmc mmk mdv mwl mwa mwp mth : Int} {mop : Int → Int} {b9 : Int} (hm : mO h mv mrc mmc mmk mdv mwl mwa mwp mth) (h206 : h 206 = some (oZ 4 mop)) (hv : 0 ≤ mv ∧ mv ≤ 40) (hz : ∀ i, 0 ≤ i → i ≤ 3 → mop i = 0 ∨ mop i = 1) (hO : ¬ (0 ≤ b9 ∧ b9 ≤ 3 ∧ mop b9 = 1)) : Ct g yX11_conflicts (.code yX11_conflicts cX11_conflicts 2 (some .int)) 4 0 0 [vR 200, vI b9] h (Rt (some (vI 0)) (hput h 200 (oO 10 [vR 201, vR 202, vR 203, vR 204, vR 205, vR 206, vR 207, vR 208, vR 209, vR 210, vR 211, vR 212, vR 213, vR 214, vR 215, vR 216, vR 217, vR 218, vI mv, vI mrc, vI mmc, vI mmk, vI mdv, vI mwl, vI mwa, vI mwp, vI 1]))) := by
  refine Ct.of (by decide) (Nat.le_of_ble_eq_true rfl) (fun x hg C F => ?_)
  subst hg
  show T x 0 [(0, vR 200), (1, vI b9)] [] h 0 0
  refine st_aload_n C 0 dX11_conflicts_0 rfl rfl ?_
  refine st_aload_n C 0 dX11_conflicts_1 rfl rfl ?_
  refine st_iload_n C 1 dX11_conflicts_2 rfl rfl ?_
  refine st_callV (st := [vR 200]) C dX11_conflicts_3 [vI b9] (k_isBranch_f (b9 := b9) hm h206 hz hO) hm w_X11_126 rfl (by decide) (by decide) (by omega) (by omega) (Nat.le_of_ble_eq_true rfl) (ko_rt ?_)
  show T x 6 [(0, vR 200), (1, vI b9)] [vI 0, vR 200] _ _ _
  refine st_iconst C dX11_conflicts_6 (by decide) ?_
  refine st_callV (st := []) C dX11_conflicts_7 [vI 0, vI 1] (k_no_f (p9 := 1) hm) hm w_X11_112 rfl (by decide) (by decide) (by omega) (by omega) (Nat.le_of_ble_eq_true rfl) (ko_rt ?_)
  show T x 10 [(0, vR 200), (1, vI b9)] [vI 1] (hput h 200 (oO 10 [vR 201, vR 202, vR 203, vR 204, vR 205, vR 206, vR 207, vR 208, vR 209, vR 210, vR 211, vR 212, vR 213, vR 214, vR 215, vR 216, vR 217, vR 218, vI mv, vI mrc, vI mmc, vI mmk, vI mdv, vI mwl, vI mwa, vI mwp, vI 1])) _ _
  refine st_if_eq (tgt := 17) C dX11_conflicts_10 (by decide) (fun c_10 => by omega) (fun c_10 => ?_)
  refine st_iconst C dX11_conflicts_13 (by decide) ?_
  refine st_goto (tgt := 22) C dX11_conflicts_14 (by decide) ?_
  exact st_ireturn C F dX11_conflicts_22 rfl (by first | exact ⟨by with_reducible rfl, by with_reducible rfl⟩ | (exfalso; omega)) (by omega) (by omega)
set_option maxRecDepth 20000 in
set_option maxHeartbeats 4000000 in
theorem m_conflicts {g : Gx} {h : HP} {mv mrc mmc mmk mdv mwl mwa mwp mth : Int} {mop : Int → Int} {mm : Int → Int} {mb : Int → Int} {me : Int → Int} {mt : Int → Int} {b9 : Int} (hm : mO h mv mrc mmc mmk mdv mwl mwa mwp mth) (h206 : h 206 = some (oZ 4 mop)) (hmm : h 201 = some (oI 12464 mm)) (h207 : h 207 = some (oI 1216 mb)) (h208 : h 208 = some (oI 1216 me)) (h209 : h 209 = some (oI 1216 mt)) (hv : 0 ≤ mv ∧ mv ≤ 40) (hz : ∀ i, 0 ≤ i → i ≤ 3 → mop i = 0 ∨ mop i = 1) (hO : 0 ≤ b9 ∧ b9 ≤ 3 ∧ mop b9 = 1) : Ct g yX11_conflicts (.code yX11_conflicts cX11_conflicts 2 (some .int)) 4 0 0 [vR 200, vI b9] h (Rt (some (vI (cnt (fun j9 => (0 ≤ me (304 * b9 + j9) ∧ mm (304 * mv + j9) ≠ mb (304 * b9 + j9) ∧ mm (304 * mv + j9) ≠ me (304 * b9 + j9) ∧ mm (304 * mv + j9) ≠ mt (304 * b9 + j9))) 304))) (hput h 200 (oO 10 [vR 201, vR 202, vR 203, vR 204, vR 205, vR 206, vR 207, vR 208, vR 209, vR 210, vR 211, vR 212, vR 213, vR 214, vR 215, vR 216, vR 217, vR 218, vI mv, vI mrc, vI mmc, vI mmk, vI mdv, vI mwl, vI mwa, vI mwp, vI 0]))) := by
  refine Ct.of (by decide) (Nat.le_of_ble_eq_true rfl) (fun x hg C F => ?_)
  subst hg
  have hb : 0 ≤ b9 ∧ b9 ≤ 3 := ⟨hO.1, hO.2.1⟩
  show T x 0 [(0, vR 200), (1, vI b9)] [] h 0 0
  refine st_aload_n C 0 dX11_conflicts_0 rfl rfl ?_
  refine st_aload_n C 0 dX11_conflicts_1 rfl rfl ?_
  refine st_iload_n C 1 dX11_conflicts_2 rfl rfl ?_
  refine st_callV (st := [vR 200]) C dX11_conflicts_3 [vI b9] (k_isBranch_t (b9 := b9) hm h206 hz hO) hm w_X11_126 rfl (by decide) (by decide) (by omega) (by omega) (Nat.le_of_ble_eq_true rfl) (ko_rt ?_)
  show T x 6 [(0, vR 200), (1, vI b9)] [vI 1, vR 200] _ _ _
  refine st_iconst C dX11_conflicts_6 (by decide) ?_
  refine st_callV (st := []) C dX11_conflicts_7 [vI 1, vI 1] (k_no_t (p9 := 1) hm) hm w_X11_112 rfl (by decide) (by decide) (by omega) (by omega) (Nat.le_of_ble_eq_true rfl) (ko_rt ?_)
  show T x 10 [(0, vR 200), (1, vI b9)] [vI 0] (hput h 200 (oO 10 [vR 201, vR 202, vR 203, vR 204, vR 205, vR 206, vR 207, vR 208, vR 209, vR 210, vR 211, vR 212, vR 213, vR 214, vR 215, vR 216, vR 217, vR 218, vI mv, vI mrc, vI mmc, vI mmk, vI mdv, vI mwl, vI mwa, vI mwp, vI 0])) _ _
  refine st_if_eq (tgt := 17) C dX11_conflicts_10 (by decide) (fun c_10 => ?_) (fun c_10 => by omega)
  refine st_aload_n C 0 dX11_conflicts_17 rfl rfl ?_
  refine st_iload_n C 1 dX11_conflicts_18 rfl rfl ?_
  refine st_callV (st := []) C dX11_conflicts_19 [vI b9] (k_conflictsOf (b9 := b9) hput_s (hput_o (by omega) hmm) hv (hput_o (by omega) h207) (hput_o (by omega) h208) (hput_o (by omega) h209) (by omega)) hput_s w_X11_145 rfl (by decide) (by decide) (by omega) (by omega) (Nat.le_of_ble_eq_true rfl) (ko_rt ?_)
  show T x 22 [(0, vR 200), (1, vI b9)] [vI (cnt (fun j9 => (0 ≤ me (304 * b9 + j9) ∧ mm (304 * mv + j9) ≠ mb (304 * b9 + j9) ∧ mm (304 * mv + j9) ≠ me (304 * b9 + j9) ∧ mm (304 * mv + j9) ≠ mt (304 * b9 + j9))) 304)] _ _ _
  exact st_ireturn C F dX11_conflicts_22 rfl (by first | exact ⟨by with_reducible rfl, by with_reducible rfl⟩ | (exfalso; omega)) (by omega) (by omega)
set_option maxRecDepth 20000 in
set_option maxHeartbeats 4000000 in
theorem m_conflict_x1 {g : Gx} {h : HP} {mv mrc mmc mmk mdv mwl mwa mwp mth : Int} {mop : Int → Int} {b9 : Int} {k9 : Int} (hm : mO h mv mrc mmc mmk mdv mwl mwa mwp mth) (h206 : h 206 = some (oZ 4 mop)) (hv : 0 ≤ mv ∧ mv ≤ 40) (hz : ∀ i, 0 ≤ i → i ≤ 3 → mop i = 0 ∨ mop i = 1) (hO : ¬ (0 ≤ b9 ∧ b9 ≤ 3 ∧ mop b9 = 1)) : Ct g yX11_conflict (.code yX11_conflict cX11_conflict 5 (some .int)) 4 0 0 [vR 200, vI b9, vI k9] h (Rt (some (vI 0)) (hput h 200 (oO 10 [vR 201, vR 202, vR 203, vR 204, vR 205, vR 206, vR 207, vR 208, vR 209, vR 210, vR 211, vR 212, vR 213, vR 214, vR 215, vR 216, vR 217, vR 218, vI mv, vI mrc, vI mmc, vI mmk, vI mdv, vI mwl, vI mwa, vI mwp, vI 1]))) := by
  refine Ct.of (by decide) (Nat.le_of_ble_eq_true rfl) (fun x hg C F => ?_)
  subst hg
  show T x 0 [(0, vR 200), (1, vI b9), (2, vI k9)] [] h 0 0
  refine st_aload_n C 0 dX11_conflict_0 rfl rfl ?_
  refine st_aload_n C 0 dX11_conflict_1 rfl rfl ?_
  refine st_iload_n C 1 dX11_conflict_2 rfl rfl ?_
  refine st_callV (st := [vR 200]) C dX11_conflict_3 [vI b9] (k_isBranch_f (b9 := b9) hm h206 hz hO) hm w_X11_126 rfl (by decide) (by decide) (by omega) (by omega) (Nat.le_of_ble_eq_true rfl) (ko_rt ?_)
  show T x 6 [(0, vR 200), (1, vI b9), (2, vI k9)] [vI 0, vR 200] _ _ _
  refine st_iconst C dX11_conflict_6 (by decide) ?_
  refine st_callV (st := []) C dX11_conflict_7 [vI 0, vI 1] (k_no_f (p9 := 1) hm) hm w_X11_112 rfl (by decide) (by decide) (by omega) (by omega) (Nat.le_of_ble_eq_true rfl) (ko_rt ?_)
  show T x 10 [(0, vR 200), (1, vI b9), (2, vI k9)] [vI 1] (hput h 200 (oO 10 [vR 201, vR 202, vR 203, vR 204, vR 205, vR 206, vR 207, vR 208, vR 209, vR 210, vR 211, vR 212, vR 213, vR 214, vR 215, vR 216, vR 217, vR 218, vI mv, vI mrc, vI mmc, vI mmk, vI mdv, vI mwl, vI mwa, vI mwp, vI 1])) _ _
  refine st_if_ne (tgt := 33) C dX11_conflict_10 (by decide) (fun c_10 => ?_) (fun c_10 => by omega)
  refine st_iconst C dX11_conflict_33 (by decide) ?_
  exact st_ireturn C F dX11_conflict_34 rfl (by first | exact ⟨by with_reducible rfl, by with_reducible rfl⟩ | (exfalso; omega)) (by omega) (by omega)
set_option maxRecDepth 20000 in
set_option maxHeartbeats 4000000 in
theorem m_conflict_x2 {g : Gx} {h : HP} {mv mrc mmc mmk mdv mwl mwa mwp mth : Int} {mop : Int → Int} {mm : Int → Int} {mb : Int → Int} {me : Int → Int} {mt : Int → Int} {b9 : Int} {k9 : Int} (hm : mO h mv mrc mmc mmk mdv mwl mwa mwp mth) (h206 : h 206 = some (oZ 4 mop)) (hmm : h 201 = some (oI 12464 mm)) (h207 : h 207 = some (oI 1216 mb)) (h208 : h 208 = some (oI 1216 me)) (h209 : h 209 = some (oI 1216 mt)) (hv : 0 ≤ mv ∧ mv ≤ 40) (hz : ∀ i, 0 ≤ i → i ≤ 3 → mop i = 0 ∨ mop i = 1) (hO : 0 ≤ b9 ∧ b9 ≤ 3 ∧ mop b9 = 1) (hQ : ¬ (0 ≤ k9 ∧ k9 ≤ cnt (fun j9 => (0 ≤ me (304 * b9 + j9) ∧ mm (304 * mv + j9) ≠ mb (304 * b9 + j9) ∧ mm (304 * mv + j9) ≠ me (304 * b9 + j9) ∧ mm (304 * mv + j9) ≠ mt (304 * b9 + j9))) 304 - 1)) : Ct g yX11_conflict (.code yX11_conflict cX11_conflict 5 (some .int)) 4 0 0 [vR 200, vI b9, vI k9] h (Rt (some (vI 0)) (hput (hput h 200 (oO 10 [vR 201, vR 202, vR 203, vR 204, vR 205, vR 206, vR 207, vR 208, vR 209, vR 210, vR 211, vR 212, vR 213, vR 214, vR 215, vR 216, vR 217, vR 218, vI mv, vI mrc, vI mmc, vI mmk, vI mdv, vI mwl, vI mwa, vI mwp, vI 0])) 200 (oO 10 [vR 201, vR 202, vR 203, vR 204, vR 205, vR 206, vR 207, vR 208, vR 209, vR 210, vR 211, vR 212, vR 213, vR 214, vR 215, vR 216, vR 217, vR 218, vI mv, vI mrc, vI mmc, vI mmk, vI mdv, vI mwl, vI mwa, vI mwp, vI 2]))) := by
  refine Ct.of (by decide) (Nat.le_of_ble_eq_true rfl) (fun x hg C F => ?_)
  subst hg
  have hb : 0 ≤ b9 ∧ b9 ≤ 3 := ⟨hO.1, hO.2.1⟩
  have hcn := cnt_in (fun j9 => (0 ≤ me (304 * b9 + j9) ∧ mm (304 * mv + j9) ≠ mb (304 * b9 + j9) ∧ mm (304 * mv + j9) ≠ me (304 * b9 + j9) ∧ mm (304 * mv + j9) ≠ mt (304 * b9 + j9))) (i := 304) (by omega)
  show T x 0 [(0, vR 200), (1, vI b9), (2, vI k9)] [] h 0 0
  refine st_aload_n C 0 dX11_conflict_0 rfl rfl ?_
  refine st_aload_n C 0 dX11_conflict_1 rfl rfl ?_
  refine st_iload_n C 1 dX11_conflict_2 rfl rfl ?_
  refine st_callV (st := [vR 200]) C dX11_conflict_3 [vI b9] (k_isBranch_t (b9 := b9) hm h206 hz hO) hm w_X11_126 rfl (by decide) (by decide) (by omega) (by omega) (Nat.le_of_ble_eq_true rfl) (ko_rt ?_)
  show T x 6 [(0, vR 200), (1, vI b9), (2, vI k9)] [vI 1, vR 200] _ _ _
  refine st_iconst C dX11_conflict_6 (by decide) ?_
  refine st_callV (st := []) C dX11_conflict_7 [vI 1, vI 1] (k_no_t (p9 := 1) hm) hm w_X11_112 rfl (by decide) (by decide) (by omega) (by omega) (Nat.le_of_ble_eq_true rfl) (ko_rt ?_)
  show T x 10 [(0, vR 200), (1, vI b9), (2, vI k9)] [vI 0] (hput h 200 (oO 10 [vR 201, vR 202, vR 203, vR 204, vR 205, vR 206, vR 207, vR 208, vR 209, vR 210, vR 211, vR 212, vR 213, vR 214, vR 215, vR 216, vR 217, vR 218, vI mv, vI mrc, vI mmc, vI mmk, vI mdv, vI mwl, vI mwa, vI mwp, vI 0])) _ _
  refine st_if_ne (tgt := 33) C dX11_conflict_10 (by decide) (fun c_10 => by omega) (fun c_10 => ?_)
  refine st_aload_n C 0 dX11_conflict_13 rfl rfl ?_
  refine st_iload_n C 2 dX11_conflict_14 rfl rfl ?_
  refine st_iconst C dX11_conflict_15 (by decide) ?_
  refine st_aload_n C 0 dX11_conflict_16 rfl rfl ?_
  refine st_iload_n C 1 dX11_conflict_17 rfl rfl ?_
  refine st_callV (st := [vI 0, vI k9, vR 200]) C dX11_conflict_18 [vI b9] (k_conflictsOf (b9 := b9) hput_s (hput_o (by omega) hmm) hv (hput_o (by omega) h207) (hput_o (by omega) h208) (hput_o (by omega) h209) (by omega)) hput_s w_X11_145 rfl (by decide) (by decide) (by omega) (by omega) (Nat.le_of_ble_eq_true rfl) (ko_rt ?_)
  show T x 21 [(0, vR 200), (1, vI b9), (2, vI k9)] [vI (cnt (fun j9 => (0 ≤ me (304 * b9 + j9) ∧ mm (304 * mv + j9) ≠ mb (304 * b9 + j9) ∧ mm (304 * mv + j9) ≠ me (304 * b9 + j9) ∧ mm (304 * mv + j9) ≠ mt (304 * b9 + j9))) 304), vI 0, vI k9, vR 200] _ _ _
  refine st_iconst C dX11_conflict_21 (by decide) ?_
  refine st_isub C dX11_conflict_22 ⟨(by omega), (by omega)⟩ ?_
  by_cases b_23 : 0 ≤ k9 ∧ k9 ≤ (cnt (fun j9 => (0 ≤ me (304 * b9 + j9) ∧ mm (304 * mv + j9) ≠ mb (304 * b9 + j9) ∧ mm (304 * mv + j9) ≠ me (304 * b9 + j9) ∧ mm (304 * mv + j9) ≠ mt (304 * b9 + j9))) 304 - 1)
  · refine st_callS (st := [vR 200]) C dX11_conflict_23 [vI k9, vI 0, vI (cnt (fun j9 => (0 ≤ me (304 * b9 + j9) ∧ mm (304 * mv + j9) ≠ mb (304 * b9 + j9) ∧ mm (304 * mv + j9) ≠ me (304 * b9 + j9) ∧ mm (304 * mv + j9) ≠ mt (304 * b9 + j9))) 304 - 1)] (k_isIn_t (v9 := k9) (l9 := 0) (u9 := (cnt (fun j9 => (0 ≤ me (304 * b9 + j9) ∧ mm (304 * mv + j9) ≠ mb (304 * b9 + j9) ∧ mm (304 * mv + j9) ≠ me (304 * b9 + j9) ∧ mm (304 * mv + j9) ≠ mt (304 * b9 + j9))) 304 - 1))  b_23) w_X11_75 rfl (by decide) (by decide) (by omega) (by omega) (Nat.le_of_ble_eq_true rfl) (ko_rt ?_)
    show T x 26 [(0, vR 200), (1, vI b9), (2, vI k9)] [vI 1, vR 200] _ _ _
    refine st_iconst C dX11_conflict_26 (by decide) ?_
    exact absurd (by assumption) hQ
  · refine st_callS (st := [vR 200]) C dX11_conflict_23 [vI k9, vI 0, vI (cnt (fun j9 => (0 ≤ me (304 * b9 + j9) ∧ mm (304 * mv + j9) ≠ mb (304 * b9 + j9) ∧ mm (304 * mv + j9) ≠ me (304 * b9 + j9) ∧ mm (304 * mv + j9) ≠ mt (304 * b9 + j9))) 304 - 1)] (k_isIn_f (v9 := k9) (l9 := 0) (u9 := (cnt (fun j9 => (0 ≤ me (304 * b9 + j9) ∧ mm (304 * mv + j9) ≠ mb (304 * b9 + j9) ∧ mm (304 * mv + j9) ≠ me (304 * b9 + j9) ∧ mm (304 * mv + j9) ≠ mt (304 * b9 + j9))) 304 - 1))  b_23) w_X11_75 rfl (by decide) (by decide) (by omega) (by omega) (Nat.le_of_ble_eq_true rfl) (ko_rt ?_)
    show T x 26 [(0, vR 200), (1, vI b9), (2, vI k9)] [vI 0, vR 200] _ _ _
    refine st_iconst C dX11_conflict_26 (by decide) ?_
    refine st_callV (st := []) C dX11_conflict_27 [vI 0, vI 2] (k_no_f (p9 := 2) hput_s) hput_s w_X11_112 rfl (by decide) (by decide) (by omega) (by omega) (Nat.le_of_ble_eq_true rfl) (ko_rt ?_)
    show T x 30 [(0, vR 200), (1, vI b9), (2, vI k9)] [vI 1] (hput (hput h 200 (oO 10 [vR 201, vR 202, vR 203, vR 204, vR 205, vR 206, vR 207, vR 208, vR 209, vR 210, vR 211, vR 212, vR 213, vR 214, vR 215, vR 216, vR 217, vR 218, vI mv, vI mrc, vI mmc, vI mmk, vI mdv, vI mwl, vI mwa, vI mwp, vI 0])) 200 (oO 10 [vR 201, vR 202, vR 203, vR 204, vR 205, vR 206, vR 207, vR 208, vR 209, vR 210, vR 211, vR 212, vR 213, vR 214, vR 215, vR 216, vR 217, vR 218, vI mv, vI mrc, vI mmc, vI mmk, vI mdv, vI mwl, vI mwa, vI mwp, vI 2])) _ _
    refine st_if_eq (tgt := 35) C dX11_conflict_30 (by decide) (fun c_30 => by omega) (fun c_30 => ?_)
    refine st_iconst C dX11_conflict_33 (by decide) ?_
    exact st_ireturn C F dX11_conflict_34 rfl (by first | exact absurd (by assumption) hQ | exact ⟨by with_reducible rfl, by with_reducible rfl⟩) (by omega) (by omega)
/-- on the way to the number with P that has k others below it -/
def NWay (P : Int → Prop) (k r i l : Int) : Prop := 0 ≤ i ∧ i ≤ r ∧ 0 ≤ l ∧ l = k - cnt P i
theorem NWay_0 {P : Int → Prop} {k r : Int} (hk : 0 ≤ k) (hr : 0 ≤ r) : NWay P k r 0 k := ⟨by omega, hr, hk, by rw [← cnt_0]; omega⟩
theorem NWay_t {P : Int → Prop} {k r i l : Int} (h : NWay P k r i l) (hp : P i) (hP : P r) (hr : cnt P r = k) (hl : 0 < l) : NWay P k r (i + 1) (l - 1) := by
  obtain ⟨h1, h2, h3, h4⟩ := h
  have e : i ≠ r := fun z => by rw [z, hr] at h4; omega
  exact ⟨by omega, by omega, by omega, by rw [← cnt_t h1 hp rfl]; omega⟩
theorem NWay_f {P : Int → Prop} {k r i l : Int} (h : NWay P k r i l) (hp : ¬ P i) (hP : P r) : NWay P k r (i + 1) (l - 0) := by
  obtain ⟨h1, h2, h3, h4⟩ := h
  have e : i ≠ r := fun z => hp (z ▸ hP)
  exact ⟨by omega, by omega, by omega, by rw [← cnt_f h1 hp rfl]; omega⟩
theorem NWay_e {P : Int → Prop} {k r i l : Int} (h : NWay P k r i l) (hp : P i) (hr : cnt P r = k) (hl : l ≤ 0) : i = r := by
  obtain ⟨h1, h2, h3, h4⟩ := h
  by_cases e : i = r
  · exact e
  · have h5 : cnt P (i + 1) ≤ cnt P r := cnt_mono (by omega) (by omega)
    have h6 := cnt_t (c := cnt P i) h1 hp rfl
    omega
set_option maxRecDepth 20000 in
set_option maxHeartbeats 4000000 in
theorem m_conflict {g : Gx} {h : HP} {mv mrc mmc mmk mdv mwl mwa mwp mth : Int} {mop : Int → Int} {mm : Int → Int} {mb : Int → Int} {me : Int → Int} {mt : Int → Int} {b9 : Int} {k9 r9 : Int} (hm : mO h mv mrc mmc mmk mdv mwl mwa mwp mth) (h206 : h 206 = some (oZ 4 mop)) (hmm : h 201 = some (oI 12464 mm)) (h207 : h 207 = some (oI 1216 mb)) (h208 : h 208 = some (oI 1216 me)) (h209 : h 209 = some (oI 1216 mt)) (hv : 0 ≤ mv ∧ mv ≤ 40) (hz : ∀ i, 0 ≤ i → i ≤ 3 → mop i = 0 ∨ mop i = 1) (hO : 0 ≤ b9 ∧ b9 ≤ 3 ∧ mop b9 = 1) (hk : 0 ≤ k9 ∧ k9 ≤ cnt (fun j9 => (0 ≤ me (304 * b9 + j9) ∧ mm (304 * mv + j9) ≠ mb (304 * b9 + j9) ∧ mm (304 * mv + j9) ≠ me (304 * b9 + j9) ∧ mm (304 * mv + j9) ≠ mt (304 * b9 + j9))) 304 - 1) (h0 : 0 ≤ r9 ∧ r9 ≤ 303) (hr : k9 ≤ 304 ∧ (fun j9 => (0 ≤ me (304 * b9 + j9) ∧ mm (304 * mv + j9) ≠ mb (304 * b9 + j9) ∧ mm (304 * mv + j9) ≠ me (304 * b9 + j9) ∧ mm (304 * mv + j9) ≠ mt (304 * b9 + j9))) r9 ∧ cnt (fun j9 => (0 ≤ me (304 * b9 + j9) ∧ mm (304 * mv + j9) ≠ mb (304 * b9 + j9) ∧ mm (304 * mv + j9) ≠ me (304 * b9 + j9) ∧ mm (304 * mv + j9) ≠ mt (304 * b9 + j9))) r9 = k9) : Ct g yX11_conflict (.code yX11_conflict cX11_conflict 5 (some .int)) 4 0 0 [vR 200, vI b9, vI k9] h (Rt (some (vI r9)) (hput (hput h 200 (oO 10 [vR 201, vR 202, vR 203, vR 204, vR 205, vR 206, vR 207, vR 208, vR 209, vR 210, vR 211, vR 212, vR 213, vR 214, vR 215, vR 216, vR 217, vR 218, vI mv, vI mrc, vI mmc, vI mmk, vI mdv, vI mwl, vI mwa, vI mwp, vI 0])) 200 (oO 10 [vR 201, vR 202, vR 203, vR 204, vR 205, vR 206, vR 207, vR 208, vR 209, vR 210, vR 211, vR 212, vR 213, vR 214, vR 215, vR 216, vR 217, vR 218, vI mv, vI mrc, vI mmc, vI mmk, vI mdv, vI mwl, vI mwa, vI mwp, vI 0]))) := by
  refine Ct.of (by decide) (Nat.le_of_ble_eq_true rfl) (fun x hg C F => ?_)
  subst hg
  have hb : 0 ≤ b9 ∧ b9 ≤ 3 := ⟨hO.1, hO.2.1⟩
  have hcn := cnt_in (fun j9 => (0 ≤ me (304 * b9 + j9) ∧ mm (304 * mv + j9) ≠ mb (304 * b9 + j9) ∧ mm (304 * mv + j9) ≠ me (304 * b9 + j9) ∧ mm (304 * mv + j9) ≠ mt (304 * b9 + j9))) (i := 304) (by omega)
  show T x 0 [(0, vR 200), (1, vI b9), (2, vI k9)] [] h 0 0
  refine st_aload_n C 0 dX11_conflict_0 rfl rfl ?_
  refine st_aload_n C 0 dX11_conflict_1 rfl rfl ?_
  refine st_iload_n C 1 dX11_conflict_2 rfl rfl ?_
  refine st_callV (st := [vR 200]) C dX11_conflict_3 [vI b9] (k_isBranch_t (b9 := b9) hm h206 hz hO) hm w_X11_126 rfl (by decide) (by decide) (by omega) (by omega) (Nat.le_of_ble_eq_true rfl) (ko_rt ?_)
  show T x 6 [(0, vR 200), (1, vI b9), (2, vI k9)] [vI 1, vR 200] _ _ _
  refine st_iconst C dX11_conflict_6 (by decide) ?_
  refine st_callV (st := []) C dX11_conflict_7 [vI 1, vI 1] (k_no_t (p9 := 1) hm) hm w_X11_112 rfl (by decide) (by decide) (by omega) (by omega) (Nat.le_of_ble_eq_true rfl) (ko_rt ?_)
  show T x 10 [(0, vR 200), (1, vI b9), (2, vI k9)] [vI 0] (hput h 200 (oO 10 [vR 201, vR 202, vR 203, vR 204, vR 205, vR 206, vR 207, vR 208, vR 209, vR 210, vR 211, vR 212, vR 213, vR 214, vR 215, vR 216, vR 217, vR 218, vI mv, vI mrc, vI mmc, vI mmk, vI mdv, vI mwl, vI mwa, vI mwp, vI 0])) _ _
  refine st_if_ne (tgt := 33) C dX11_conflict_10 (by decide) (fun c_10 => by omega) (fun c_10 => ?_)
  refine st_aload_n C 0 dX11_conflict_13 rfl rfl ?_
  refine st_iload_n C 2 dX11_conflict_14 rfl rfl ?_
  refine st_iconst C dX11_conflict_15 (by decide) ?_
  refine st_aload_n C 0 dX11_conflict_16 rfl rfl ?_
  refine st_iload_n C 1 dX11_conflict_17 rfl rfl ?_
  refine st_callV (st := [vI 0, vI k9, vR 200]) C dX11_conflict_18 [vI b9] (k_conflictsOf (b9 := b9) hput_s (hput_o (by omega) hmm) hv (hput_o (by omega) h207) (hput_o (by omega) h208) (hput_o (by omega) h209) (by omega)) hput_s w_X11_145 rfl (by decide) (by decide) (by omega) (by omega) (Nat.le_of_ble_eq_true rfl) (ko_rt ?_)
  show T x 21 [(0, vR 200), (1, vI b9), (2, vI k9)] [vI (cnt (fun j9 => (0 ≤ me (304 * b9 + j9) ∧ mm (304 * mv + j9) ≠ mb (304 * b9 + j9) ∧ mm (304 * mv + j9) ≠ me (304 * b9 + j9) ∧ mm (304 * mv + j9) ≠ mt (304 * b9 + j9))) 304), vI 0, vI k9, vR 200] _ _ _
  refine st_iconst C dX11_conflict_21 (by decide) ?_
  refine st_isub C dX11_conflict_22 ⟨(by omega), (by omega)⟩ ?_
  by_cases b_23 : 0 ≤ k9 ∧ k9 ≤ (cnt (fun j9 => (0 ≤ me (304 * b9 + j9) ∧ mm (304 * mv + j9) ≠ mb (304 * b9 + j9) ∧ mm (304 * mv + j9) ≠ me (304 * b9 + j9) ∧ mm (304 * mv + j9) ≠ mt (304 * b9 + j9))) 304 - 1)
  · refine st_callS (st := [vR 200]) C dX11_conflict_23 [vI k9, vI 0, vI (cnt (fun j9 => (0 ≤ me (304 * b9 + j9) ∧ mm (304 * mv + j9) ≠ mb (304 * b9 + j9) ∧ mm (304 * mv + j9) ≠ me (304 * b9 + j9) ∧ mm (304 * mv + j9) ≠ mt (304 * b9 + j9))) 304 - 1)] (k_isIn_t (v9 := k9) (l9 := 0) (u9 := (cnt (fun j9 => (0 ≤ me (304 * b9 + j9) ∧ mm (304 * mv + j9) ≠ mb (304 * b9 + j9) ∧ mm (304 * mv + j9) ≠ me (304 * b9 + j9) ∧ mm (304 * mv + j9) ≠ mt (304 * b9 + j9))) 304 - 1))  b_23) w_X11_75 rfl (by decide) (by decide) (by omega) (by omega) (Nat.le_of_ble_eq_true rfl) (ko_rt ?_)
    show T x 26 [(0, vR 200), (1, vI b9), (2, vI k9)] [vI 1, vR 200] _ _ _
    refine st_iconst C dX11_conflict_26 (by decide) ?_
    refine st_callV (st := []) C dX11_conflict_27 [vI 1, vI 2] (k_no_t (p9 := 2) hput_s) hput_s w_X11_112 rfl (by decide) (by decide) (by omega) (by omega) (Nat.le_of_ble_eq_true rfl) (ko_rt ?_)
    show T x 30 [(0, vR 200), (1, vI b9), (2, vI k9)] [vI 0] (hput (hput h 200 (oO 10 [vR 201, vR 202, vR 203, vR 204, vR 205, vR 206, vR 207, vR 208, vR 209, vR 210, vR 211, vR 212, vR 213, vR 214, vR 215, vR 216, vR 217, vR 218, vI mv, vI mrc, vI mmc, vI mmk, vI mdv, vI mwl, vI mwa, vI mwp, vI 0])) 200 (oO 10 [vR 201, vR 202, vR 203, vR 204, vR 205, vR 206, vR 207, vR 208, vR 209, vR 210, vR 211, vR 212, vR 213, vR 214, vR 215, vR 216, vR 217, vR 218, vI mv, vI mrc, vI mmc, vI mmk, vI mdv, vI mwl, vI mwa, vI mwp, vI 0])) _ _
    refine st_if_eq (tgt := 35) C dX11_conflict_30 (by decide) (fun c_30 => ?_) (fun c_30 => by omega)
    refine st_iload_n C 2 dX11_conflict_35 rfl rfl ?_
    refine st_istore_n C 3 dX11_conflict_36 rfl (by decide) rfl ?_
    show T x 37 [(0, vR 200), (1, vI b9), (2, vI k9), (3, vI k9)] [] _ _ _
    refine st_iconst C dX11_conflict_37 (by decide) ?_
    refine st_istore C dX11_conflict_38 (by decide) rfl ?_
    show T x 40 [(0, vR 200), (1, vI b9), (2, vI k9), (3, vI k9), (4, vI 0)] [] _ _ _
    have loop_40 : ∀ (n_40 : Nat) (l1 : Int) (i : Int), (NWay (fun j9 => (0 ≤ me (304 * b9 + j9) ∧ mm (304 * mv + j9) ≠ mb (304 * b9 + j9) ∧ mm (304 * mv + j9) ≠ me (304 * b9 + j9) ∧ mm (304 * mv + j9) ≠ mt (304 * b9 + j9))) k9 r9 i l1) → (r9 - i).toNat < n_40 → T x 40 [(0, vR 200), (1, vI b9), (2, vI k9), (3, vI l1), (4, vI i)] [] (hput (hput h 200 (oO 10 [vR 201, vR 202, vR 203, vR 204, vR 205, vR 206, vR 207, vR 208, vR 209, vR 210, vR 211, vR 212, vR 213, vR 214, vR 215, vR 216, vR 217, vR 218, vI mv, vI mrc, vI mmc, vI mmk, vI mdv, vI mwl, vI mwa, vI mwp, vI 0])) 200 (oO 10 [vR 201, vR 202, vR 203, vR 204, vR 205, vR 206, vR 207, vR 208, vR 209, vR 210, vR 211, vR 212, vR 213, vR 214, vR 215, vR 216, vR 217, vR 218, vI mv, vI mrc, vI mmc, vI mmk, vI mdv, vI mwl, vI mwa, vI mwp, vI 0])) 0 0 := by
      intro n_40
      induction n_40 with
      | zero => intro l1 i g1 hm_40; exact absurd hm_40 (Nat.not_lt_zero _)
      | succ n_40 ih_40 =>
        intro l1 i g1 hm_40
        have g2 := g1.1
        have g3 := g1.2.1
        have g4 := g1.2.2.1
        have g5 := cnt_in (fun j9 => (0 ≤ me (304 * b9 + j9) ∧ mm (304 * mv + j9) ≠ mb (304 * b9 + j9) ∧ mm (304 * mv + j9) ≠ me (304 * b9 + j9) ∧ mm (304 * mv + j9) ≠ mt (304 * b9 + j9))) g2
        have g6 := g1.2.2.2
        have g7 : i ≤ 303 := by omega
        have g8 : l1 ≤ k9 := by omega
        refine st_aload_n C 0 dX11_conflict_40 rfl rfl ?_
        refine st_iload_n C 1 dX11_conflict_41 rfl rfl ?_
        refine st_iload C dX11_conflict_42 rfl ?_
        by_cases b_44 : (0 ≤ me (304 * b9 + i) ∧ mm (304 * mv + i) ≠ mb (304 * b9 + i) ∧ mm (304 * mv + i) ≠ me (304 * b9 + i) ∧ mm (304 * mv + i) ≠ mt (304 * b9 + i))
        · refine st_callV (st := []) C dX11_conflict_44 [vI b9, vI i] (k_mConflict_t (s9 := i) hput_s (hput_o (by omega) (hput_o (by omega) hmm)) hv (hput_o (by omega) (hput_o (by omega) h207)) (hput_o (by omega) (hput_o (by omega) h208)) (hput_o (by omega) (hput_o (by omega) h209)) hb (by omega) b_44) hput_s w_X11_142 rfl (by decide) (by decide) (by omega) (by omega) (Nat.le_of_ble_eq_true rfl) (ko_rt ?_)
          show T x 47 [(0, vR 200), (1, vI b9), (2, vI k9), (3, vI l1), (4, vI i)] [vI 1] _ _ _
          refine st_if_eq (tgt := 54) C dX11_conflict_47 (by decide) (fun c_47 => by omega) (fun c_47 => ?_)
          refine st_iload_n C 3 dX11_conflict_50 rfl rfl ?_
          refine st_if_le (tgt := 78) C dX11_conflict_51 (by decide) (fun c_51 => ?_) (fun c_51 => ?_)
          · refine st_iload C dX11_conflict_78 rfl ?_
            exact st_ireturn C F dX11_conflict_80 rfl (by first | (exfalso; omega) | exact absurd hk (by assumption) | exact ⟨by rw [NWay_e g1 (by assumption) hr.2.2 (by omega)], by with_reducible rfl⟩) (by omega) (by omega)
          · refine st_iload_n C 3 dX11_conflict_54 rfl rfl ?_
            refine st_aload_n C 0 dX11_conflict_55 rfl rfl ?_
            refine st_iload_n C 1 dX11_conflict_56 rfl rfl ?_
            refine st_iload C dX11_conflict_57 rfl ?_
            by_cases b_59 : (0 ≤ me (304 * b9 + i) ∧ mm (304 * mv + i) ≠ mb (304 * b9 + i) ∧ mm (304 * mv + i) ≠ me (304 * b9 + i) ∧ mm (304 * mv + i) ≠ mt (304 * b9 + i))
            · refine st_callV (st := [vI l1]) C dX11_conflict_59 [vI b9, vI i] (k_mConflict_t (s9 := i) hput_s (hput_o (by omega) (hput_o (by omega) hmm)) hv (hput_o (by omega) (hput_o (by omega) h207)) (hput_o (by omega) (hput_o (by omega) h208)) (hput_o (by omega) (hput_o (by omega) h209)) hb (by omega) b_59) hput_s w_X11_142 rfl (by decide) (by decide) (by omega) (by omega) (Nat.le_of_ble_eq_true rfl) (ko_rt ?_)
              show T x 62 [(0, vR 200), (1, vI b9), (2, vI k9), (3, vI l1), (4, vI i)] [vI 1, vI l1] _ _ _
              refine st_if_eq (tgt := 69) C dX11_conflict_62 (by decide) (fun c_62 => by omega) (fun c_62 => ?_)
              refine st_iconst C dX11_conflict_65 (by decide) ?_
              refine st_goto (tgt := 70) C dX11_conflict_66 (by decide) ?_
              refine st_isub C dX11_conflict_70 ⟨(by omega), (by omega)⟩ ?_
              refine st_istore_n C 3 dX11_conflict_71 rfl (by decide) rfl ?_
              show T x 72 [(0, vR 200), (1, vI b9), (2, vI k9), (3, vI (l1 - 1)), (4, vI i)] [] _ _ _
              refine st_iinc C dX11_conflict_72 rfl (by decide) rfl ⟨(by omega), (by omega)⟩ ?_
              show T x 75 [(0, vR 200), (1, vI b9), (2, vI k9), (3, vI (l1 - 1)), (4, vI (i + 1))] [] _ _ _
              refine st_goto (tgt := 40) C dX11_conflict_75 (by decide) ?_
              exact ih_40 (l1 - 1) (i + 1) (by first | exact NWay_t g1 (by assumption) hr.2.1 hr.2.2 (by omega) | exact NWay_f g1 (by assumption) hr.2.1 | exact absurd (by assumption) (by assumption)) (by first | omega | (have z := NWay_f g1 (by assumption) hr.2.1; have z2 := z.2.1; omega) | (have z := NWay_t g1 (by assumption) hr.2.1 hr.2.2 (by omega); have z2 := z.2.1; omega))
            · refine st_callV (st := [vI l1]) C dX11_conflict_59 [vI b9, vI i] (k_mConflict_f (s9 := i) hput_s (hput_o (by omega) (hput_o (by omega) hmm)) hv (hput_o (by omega) (hput_o (by omega) h207)) (hput_o (by omega) (hput_o (by omega) h208)) (hput_o (by omega) (hput_o (by omega) h209)) hb (by omega) b_59) hput_s w_X11_142 rfl (by decide) (by decide) (by omega) (by omega) (Nat.le_of_ble_eq_true rfl) (ko_rt ?_)
              show T x 62 [(0, vR 200), (1, vI b9), (2, vI k9), (3, vI l1), (4, vI i)] [vI 0, vI l1] _ _ _
              refine st_if_eq (tgt := 69) C dX11_conflict_62 (by decide) (fun c_62 => ?_) (fun c_62 => by omega)
              refine st_iconst C dX11_conflict_69 (by decide) ?_
              refine st_isub C dX11_conflict_70 ⟨(by omega), (by omega)⟩ ?_
              refine st_istore_n C 3 dX11_conflict_71 rfl (by decide) rfl ?_
              show T x 72 [(0, vR 200), (1, vI b9), (2, vI k9), (3, vI (l1 - 0)), (4, vI i)] [] _ _ _
              refine st_iinc C dX11_conflict_72 rfl (by decide) rfl ⟨(by omega), (by omega)⟩ ?_
              show T x 75 [(0, vR 200), (1, vI b9), (2, vI k9), (3, vI (l1 - 0)), (4, vI (i + 1))] [] _ _ _
              refine st_goto (tgt := 40) C dX11_conflict_75 (by decide) ?_
              exact ih_40 (l1 - 0) (i + 1) (by first | exact NWay_t g1 (by assumption) hr.2.1 hr.2.2 (by omega) | exact NWay_f g1 (by assumption) hr.2.1 | exact absurd (by assumption) (by assumption)) (by first | omega | (have z := NWay_f g1 (by assumption) hr.2.1; have z2 := z.2.1; omega) | (have z := NWay_t g1 (by assumption) hr.2.1 hr.2.2 (by omega); have z2 := z.2.1; omega))
        · refine st_callV (st := []) C dX11_conflict_44 [vI b9, vI i] (k_mConflict_f (s9 := i) hput_s (hput_o (by omega) (hput_o (by omega) hmm)) hv (hput_o (by omega) (hput_o (by omega) h207)) (hput_o (by omega) (hput_o (by omega) h208)) (hput_o (by omega) (hput_o (by omega) h209)) hb (by omega) b_44) hput_s w_X11_142 rfl (by decide) (by decide) (by omega) (by omega) (Nat.le_of_ble_eq_true rfl) (ko_rt ?_)
          show T x 47 [(0, vR 200), (1, vI b9), (2, vI k9), (3, vI l1), (4, vI i)] [vI 0] _ _ _
          refine st_if_eq (tgt := 54) C dX11_conflict_47 (by decide) (fun c_47 => ?_) (fun c_47 => by omega)
          refine st_iload_n C 3 dX11_conflict_54 rfl rfl ?_
          refine st_aload_n C 0 dX11_conflict_55 rfl rfl ?_
          refine st_iload_n C 1 dX11_conflict_56 rfl rfl ?_
          refine st_iload C dX11_conflict_57 rfl ?_
          by_cases b_59 : (0 ≤ me (304 * b9 + i) ∧ mm (304 * mv + i) ≠ mb (304 * b9 + i) ∧ mm (304 * mv + i) ≠ me (304 * b9 + i) ∧ mm (304 * mv + i) ≠ mt (304 * b9 + i))
          · refine st_callV (st := [vI l1]) C dX11_conflict_59 [vI b9, vI i] (k_mConflict_t (s9 := i) hput_s (hput_o (by omega) (hput_o (by omega) hmm)) hv (hput_o (by omega) (hput_o (by omega) h207)) (hput_o (by omega) (hput_o (by omega) h208)) (hput_o (by omega) (hput_o (by omega) h209)) hb (by omega) b_59) hput_s w_X11_142 rfl (by decide) (by decide) (by omega) (by omega) (Nat.le_of_ble_eq_true rfl) (ko_rt ?_)
            show T x 62 [(0, vR 200), (1, vI b9), (2, vI k9), (3, vI l1), (4, vI i)] [vI 1, vI l1] _ _ _
            refine st_if_eq (tgt := 69) C dX11_conflict_62 (by decide) (fun c_62 => by omega) (fun c_62 => ?_)
            refine st_iconst C dX11_conflict_65 (by decide) ?_
            refine st_goto (tgt := 70) C dX11_conflict_66 (by decide) ?_
            refine st_isub C dX11_conflict_70 ⟨(by omega), (by omega)⟩ ?_
            refine st_istore_n C 3 dX11_conflict_71 rfl (by decide) rfl ?_
            show T x 72 [(0, vR 200), (1, vI b9), (2, vI k9), (3, vI (l1 - 1)), (4, vI i)] [] _ _ _
            refine st_iinc C dX11_conflict_72 rfl (by decide) rfl ⟨(by omega), (by omega)⟩ ?_
            show T x 75 [(0, vR 200), (1, vI b9), (2, vI k9), (3, vI (l1 - 1)), (4, vI (i + 1))] [] _ _ _
            refine st_goto (tgt := 40) C dX11_conflict_75 (by decide) ?_
            exact ih_40 (l1 - 1) (i + 1) (by first | exact NWay_t g1 (by assumption) hr.2.1 hr.2.2 (by omega) | exact NWay_f g1 (by assumption) hr.2.1 | exact absurd (by assumption) (by assumption)) (by first | omega | (have z := NWay_f g1 (by assumption) hr.2.1; have z2 := z.2.1; omega) | (have z := NWay_t g1 (by assumption) hr.2.1 hr.2.2 (by omega); have z2 := z.2.1; omega))
          · refine st_callV (st := [vI l1]) C dX11_conflict_59 [vI b9, vI i] (k_mConflict_f (s9 := i) hput_s (hput_o (by omega) (hput_o (by omega) hmm)) hv (hput_o (by omega) (hput_o (by omega) h207)) (hput_o (by omega) (hput_o (by omega) h208)) (hput_o (by omega) (hput_o (by omega) h209)) hb (by omega) b_59) hput_s w_X11_142 rfl (by decide) (by decide) (by omega) (by omega) (Nat.le_of_ble_eq_true rfl) (ko_rt ?_)
            show T x 62 [(0, vR 200), (1, vI b9), (2, vI k9), (3, vI l1), (4, vI i)] [vI 0, vI l1] _ _ _
            refine st_if_eq (tgt := 69) C dX11_conflict_62 (by decide) (fun c_62 => ?_) (fun c_62 => by omega)
            refine st_iconst C dX11_conflict_69 (by decide) ?_
            refine st_isub C dX11_conflict_70 ⟨(by omega), (by omega)⟩ ?_
            refine st_istore_n C 3 dX11_conflict_71 rfl (by decide) rfl ?_
            show T x 72 [(0, vR 200), (1, vI b9), (2, vI k9), (3, vI (l1 - 0)), (4, vI i)] [] _ _ _
            refine st_iinc C dX11_conflict_72 rfl (by decide) rfl ⟨(by omega), (by omega)⟩ ?_
            show T x 75 [(0, vR 200), (1, vI b9), (2, vI k9), (3, vI (l1 - 0)), (4, vI (i + 1))] [] _ _ _
            refine st_goto (tgt := 40) C dX11_conflict_75 (by decide) ?_
            exact ih_40 (l1 - 0) (i + 1) (by first | exact NWay_t g1 (by assumption) hr.2.1 hr.2.2 (by omega) | exact NWay_f g1 (by assumption) hr.2.1 | exact absurd (by assumption) (by assumption)) (by first | omega | (have z := NWay_f g1 (by assumption) hr.2.1; have z2 := z.2.1; omega) | (have z := NWay_t g1 (by assumption) hr.2.1 hr.2.2 (by omega); have z2 := z.2.1; omega))
    exact loop_40 _ k9 0 (NWay_0 (by omega) (by omega)) (Nat.lt_succ_self _)
  · refine st_callS (st := [vR 200]) C dX11_conflict_23 [vI k9, vI 0, vI (cnt (fun j9 => (0 ≤ me (304 * b9 + j9) ∧ mm (304 * mv + j9) ≠ mb (304 * b9 + j9) ∧ mm (304 * mv + j9) ≠ me (304 * b9 + j9) ∧ mm (304 * mv + j9) ≠ mt (304 * b9 + j9))) 304 - 1)] (k_isIn_f (v9 := k9) (l9 := 0) (u9 := (cnt (fun j9 => (0 ≤ me (304 * b9 + j9) ∧ mm (304 * mv + j9) ≠ mb (304 * b9 + j9) ∧ mm (304 * mv + j9) ≠ me (304 * b9 + j9) ∧ mm (304 * mv + j9) ≠ mt (304 * b9 + j9))) 304 - 1))  b_23) w_X11_75 rfl (by decide) (by decide) (by omega) (by omega) (Nat.le_of_ble_eq_true rfl) (ko_rt ?_)
    show T x 26 [(0, vR 200), (1, vI b9), (2, vI k9)] [vI 0, vR 200] _ _ _
    refine st_iconst C dX11_conflict_26 (by decide) ?_
    refine st_callV (st := []) C dX11_conflict_27 [vI 0, vI 2] (k_no_f (p9 := 2) hput_s) hput_s w_X11_112 rfl (by decide) (by decide) (by omega) (by omega) (Nat.le_of_ble_eq_true rfl) (ko_rt ?_)
    show T x 30 [(0, vR 200), (1, vI b9), (2, vI k9)] [vI 1] (hput (hput h 200 (oO 10 [vR 201, vR 202, vR 203, vR 204, vR 205, vR 206, vR 207, vR 208, vR 209, vR 210, vR 211, vR 212, vR 213, vR 214, vR 215, vR 216, vR 217, vR 218, vI mv, vI mrc, vI mmc, vI mmk, vI mdv, vI mwl, vI mwa, vI mwp, vI 0])) 200 (oO 10 [vR 201, vR 202, vR 203, vR 204, vR 205, vR 206, vR 207, vR 208, vR 209, vR 210, vR 211, vR 212, vR 213, vR 214, vR 215, vR 216, vR 217, vR 218, vI mv, vI mrc, vI mmc, vI mmk, vI mdv, vI mwl, vI mwa, vI mwp, vI 2])) _ _
    refine st_if_eq (tgt := 35) C dX11_conflict_30 (by decide) (fun c_30 => by omega) (fun c_30 => ?_)
    refine st_iconst C dX11_conflict_33 (by decide) ?_
    exact st_ireturn C F dX11_conflict_34 rfl (by first | (exfalso; omega) | exact absurd hk (by assumption) | exact ⟨by rw [NWay_e g1 (by assumption) hr.2.2 (by omega)], by with_reducible rfl⟩) (by omega) (by omega)
set_option maxRecDepth 20000 in
set_option maxHeartbeats 4000000 in
theorem m_settle_x1 {g : Gx} {h : HP} {mv mrc mmc mmk mdv mwl mwa mwp mth : Int} {mop : Int → Int} {b9 : Int} {s9 o9 : Int} (hm : mO h mv mrc mmc mmk mdv mwl mwa mwp mth) (h206 : h 206 = some (oZ 4 mop)) (hv : 0 ≤ mv ∧ mv ≤ 40) (hz : ∀ i, 0 ≤ i → i ≤ 3 → mop i = 0 ∨ mop i = 1) (hO : ¬ (0 ≤ b9 ∧ b9 ≤ 3 ∧ mop b9 = 1)) : Ct g yX11_settle (.code yX11_settle cX11_settle 5 (some .int)) 4 0 0 [vR 200, vI b9, vI s9, vI o9] h (Rt (some (vI 0)) (hput h 200 (oO 10 [vR 201, vR 202, vR 203, vR 204, vR 205, vR 206, vR 207, vR 208, vR 209, vR 210, vR 211, vR 212, vR 213, vR 214, vR 215, vR 216, vR 217, vR 218, vI mv, vI mrc, vI mmc, vI mmk, vI mdv, vI mwl, vI mwa, vI mwp, vI 1]))) := by
  refine Ct.of (by decide) (Nat.le_of_ble_eq_true rfl) (fun x hg C F => ?_)
  subst hg
  show T x 0 [(0, vR 200), (1, vI b9), (2, vI s9), (3, vI o9)] [] h 0 0
  refine st_aload_n C 0 dX11_settle_0 rfl rfl ?_
  refine st_aload_n C 0 dX11_settle_1 rfl rfl ?_
  refine st_iload_n C 1 dX11_settle_2 rfl rfl ?_
  refine st_callV (st := [vR 200]) C dX11_settle_3 [vI b9] (k_isBranch_f (b9 := b9) hm h206 hz hO) hm w_X11_126 rfl (by decide) (by decide) (by omega) (by omega) (Nat.le_of_ble_eq_true rfl) (ko_rt ?_)
  show T x 6 [(0, vR 200), (1, vI b9), (2, vI s9), (3, vI o9)] [vI 0, vR 200] _ _ _
  refine st_iconst C dX11_settle_6 (by decide) ?_
  refine st_callV (st := []) C dX11_settle_7 [vI 0, vI 1] (k_no_f (p9 := 1) hm) hm w_X11_112 rfl (by decide) (by decide) (by omega) (by omega) (Nat.le_of_ble_eq_true rfl) (ko_rt ?_)
  show T x 10 [(0, vR 200), (1, vI b9), (2, vI s9), (3, vI o9)] [vI 1] (hput h 200 (oO 10 [vR 201, vR 202, vR 203, vR 204, vR 205, vR 206, vR 207, vR 208, vR 209, vR 210, vR 211, vR 212, vR 213, vR 214, vR 215, vR 216, vR 217, vR 218, vI mv, vI mrc, vI mmc, vI mmk, vI mdv, vI mwl, vI mwa, vI mwp, vI 1])) _ _
  refine st_if_ne (tgt := 39) C dX11_settle_10 (by decide) (fun c_10 => ?_) (fun c_10 => by omega)
  refine st_iconst C dX11_settle_39 (by decide) ?_
  exact st_ireturn C F dX11_settle_40 rfl (by first | exact ⟨by with_reducible rfl, by with_reducible rfl⟩ | (exfalso; omega)) (by omega) (by omega)
set_option maxRecDepth 20000 in
set_option maxHeartbeats 4000000 in
theorem m_settle_x2 {g : Gx} {h : HP} {mv mrc mmc mmk mdv mwl mwa mwp mth : Int} {mop : Int → Int} {b9 : Int} {s9 o9 : Int} (hm : mO h mv mrc mmc mmk mdv mwl mwa mwp mth) (h206 : h 206 = some (oZ 4 mop)) (hv : 0 ≤ mv ∧ mv ≤ 40) (hz : ∀ i, 0 ≤ i → i ≤ 3 → mop i = 0 ∨ mop i = 1) (hO : 0 ≤ b9 ∧ b9 ≤ 3 ∧ mop b9 = 1) (hQ : ¬ (0 ≤ s9 ∧ s9 ≤ 303)) : Ct g yX11_settle (.code yX11_settle cX11_settle 5 (some .int)) 4 0 0 [vR 200, vI b9, vI s9, vI o9] h (Rt (some (vI 0)) (hput (hput h 200 (oO 10 [vR 201, vR 202, vR 203, vR 204, vR 205, vR 206, vR 207, vR 208, vR 209, vR 210, vR 211, vR 212, vR 213, vR 214, vR 215, vR 216, vR 217, vR 218, vI mv, vI mrc, vI mmc, vI mmk, vI mdv, vI mwl, vI mwa, vI mwp, vI 0])) 200 (oO 10 [vR 201, vR 202, vR 203, vR 204, vR 205, vR 206, vR 207, vR 208, vR 209, vR 210, vR 211, vR 212, vR 213, vR 214, vR 215, vR 216, vR 217, vR 218, vI mv, vI mrc, vI mmc, vI mmk, vI mdv, vI mwl, vI mwa, vI mwp, vI 2]))) := by
  refine Ct.of (by decide) (Nat.le_of_ble_eq_true rfl) (fun x hg C F => ?_)
  subst hg
  have hb : 0 ≤ b9 ∧ b9 ≤ 3 := ⟨hO.1, hO.2.1⟩
  show T x 0 [(0, vR 200), (1, vI b9), (2, vI s9), (3, vI o9)] [] h 0 0
  refine st_aload_n C 0 dX11_settle_0 rfl rfl ?_
  refine st_aload_n C 0 dX11_settle_1 rfl rfl ?_
  refine st_iload_n C 1 dX11_settle_2 rfl rfl ?_
  refine st_callV (st := [vR 200]) C dX11_settle_3 [vI b9] (k_isBranch_t (b9 := b9) hm h206 hz hO) hm w_X11_126 rfl (by decide) (by decide) (by omega) (by omega) (Nat.le_of_ble_eq_true rfl) (ko_rt ?_)
  show T x 6 [(0, vR 200), (1, vI b9), (2, vI s9), (3, vI o9)] [vI 1, vR 200] _ _ _
  refine st_iconst C dX11_settle_6 (by decide) ?_
  refine st_callV (st := []) C dX11_settle_7 [vI 1, vI 1] (k_no_t (p9 := 1) hm) hm w_X11_112 rfl (by decide) (by decide) (by omega) (by omega) (Nat.le_of_ble_eq_true rfl) (ko_rt ?_)
  show T x 10 [(0, vR 200), (1, vI b9), (2, vI s9), (3, vI o9)] [vI 0] (hput h 200 (oO 10 [vR 201, vR 202, vR 203, vR 204, vR 205, vR 206, vR 207, vR 208, vR 209, vR 210, vR 211, vR 212, vR 213, vR 214, vR 215, vR 216, vR 217, vR 218, vI mv, vI mrc, vI mmc, vI mmk, vI mdv, vI mwl, vI mwa, vI mwp, vI 0])) _ _
  refine st_if_ne (tgt := 39) C dX11_settle_10 (by decide) (fun c_10 => by omega) (fun c_10 => ?_)
  refine st_aload_n C 0 dX11_settle_13 rfl rfl ?_
  refine st_iload_n C 2 dX11_settle_14 rfl rfl ?_
  by_cases b_15 : 0 ≤ s9 ∧ s9 ≤ 303
  · refine st_callS (st := [vR 200]) C dX11_settle_15 [vI s9] (k_mSpot_t (v9 := s9)  b_15) w_X11_139 rfl (by decide) (by decide) (by omega) (by omega) (Nat.le_of_ble_eq_true rfl) (ko_rt ?_)
    show T x 18 [(0, vR 200), (1, vI b9), (2, vI s9), (3, vI o9)] [vI 1, vR 200] _ _ _
    refine st_iconst C dX11_settle_18 (by decide) ?_
    exfalso; omega
  · refine st_callS (st := [vR 200]) C dX11_settle_15 [vI s9] (k_mSpot_f (v9 := s9)  b_15) w_X11_139 rfl (by decide) (by decide) (by omega) (by omega) (Nat.le_of_ble_eq_true rfl) (ko_rt ?_)
    show T x 18 [(0, vR 200), (1, vI b9), (2, vI s9), (3, vI o9)] [vI 0, vR 200] _ _ _
    refine st_iconst C dX11_settle_18 (by decide) ?_
    refine st_callV (st := []) C dX11_settle_19 [vI 0, vI 2] (k_no_f (p9 := 2) hput_s) hput_s w_X11_112 rfl (by decide) (by decide) (by omega) (by omega) (Nat.le_of_ble_eq_true rfl) (ko_rt ?_)
    show T x 22 [(0, vR 200), (1, vI b9), (2, vI s9), (3, vI o9)] [vI 1] (hput (hput h 200 (oO 10 [vR 201, vR 202, vR 203, vR 204, vR 205, vR 206, vR 207, vR 208, vR 209, vR 210, vR 211, vR 212, vR 213, vR 214, vR 215, vR 216, vR 217, vR 218, vI mv, vI mrc, vI mmc, vI mmk, vI mdv, vI mwl, vI mwa, vI mwp, vI 0])) 200 (oO 10 [vR 201, vR 202, vR 203, vR 204, vR 205, vR 206, vR 207, vR 208, vR 209, vR 210, vR 211, vR 212, vR 213, vR 214, vR 215, vR 216, vR 217, vR 218, vI mv, vI mrc, vI mmc, vI mmk, vI mdv, vI mwl, vI mwa, vI mwp, vI 2])) _ _
    refine st_if_ne (tgt := 39) C dX11_settle_22 (by decide) (fun c_22 => ?_) (fun c_22 => by omega)
    refine st_iconst C dX11_settle_39 (by decide) ?_
    exact st_ireturn C F dX11_settle_40 rfl (by first | (exfalso; omega) | exact ⟨by with_reducible rfl, by with_reducible rfl⟩) (by omega) (by omega)
set_option maxRecDepth 20000 in
set_option maxHeartbeats 4000000 in
theorem m_settle_x3 {g : Gx} {h : HP} {mv mrc mmc mmk mdv mwl mwa mwp mth : Int} {mop : Int → Int} {mm : Int → Int} {mb : Int → Int} {me : Int → Int} {mt : Int → Int} {b9 : Int} {s9 o9 : Int} (hm : mO h mv mrc mmc mmk mdv mwl mwa mwp mth) (h206 : h 206 = some (oZ 4 mop)) (hmm : h 201 = some (oI 12464 mm)) (h207 : h 207 = some (oI 1216 mb)) (h208 : h 208 = some (oI 1216 me)) (h209 : h 209 = some (oI 1216 mt)) (hv : 0 ≤ mv ∧ mv ≤ 40) (hz : ∀ i, 0 ≤ i → i ≤ 3 → mop i = 0 ∨ mop i = 1) (hO : 0 ≤ b9 ∧ b9 ≤ 3 ∧ mop b9 = 1) (hQ : 0 ≤ s9 ∧ s9 ≤ 303) (hC : ¬ (0 ≤ me (304 * b9 + s9) ∧ mm (304 * mv + s9) ≠ mb (304 * b9 + s9) ∧ mm (304 * mv + s9) ≠ me (304 * b9 + s9) ∧ mm (304 * mv + s9) ≠ mt (304 * b9 + s9))) : Ct g yX11_settle (.code yX11_settle cX11_settle 5 (some .int)) 4 0 0 [vR 200, vI b9, vI s9, vI o9] h (Rt (some (vI 0)) (hput (hput (hput h 200 (oO 10 [vR 201, vR 202, vR 203, vR 204, vR 205, vR 206, vR 207, vR 208, vR 209, vR 210, vR 211, vR 212, vR 213, vR 214, vR 215, vR 216, vR 217, vR 218, vI mv, vI mrc, vI mmc, vI mmk, vI mdv, vI mwl, vI mwa, vI mwp, vI 0])) 200 (oO 10 [vR 201, vR 202, vR 203, vR 204, vR 205, vR 206, vR 207, vR 208, vR 209, vR 210, vR 211, vR 212, vR 213, vR 214, vR 215, vR 216, vR 217, vR 218, vI mv, vI mrc, vI mmc, vI mmk, vI mdv, vI mwl, vI mwa, vI mwp, vI 0])) 200 (oO 10 [vR 201, vR 202, vR 203, vR 204, vR 205, vR 206, vR 207, vR 208, vR 209, vR 210, vR 211, vR 212, vR 213, vR 214, vR 215, vR 216, vR 217, vR 218, vI mv, vI mrc, vI mmc, vI mmk, vI mdv, vI mwl, vI mwa, vI mwp, vI 3]))) := by
  refine Ct.of (by decide) (Nat.le_of_ble_eq_true rfl) (fun x hg C F => ?_)
  subst hg
  have hb : 0 ≤ b9 ∧ b9 ≤ 3 := ⟨hO.1, hO.2.1⟩
  show T x 0 [(0, vR 200), (1, vI b9), (2, vI s9), (3, vI o9)] [] h 0 0
  refine st_aload_n C 0 dX11_settle_0 rfl rfl ?_
  refine st_aload_n C 0 dX11_settle_1 rfl rfl ?_
  refine st_iload_n C 1 dX11_settle_2 rfl rfl ?_
  refine st_callV (st := [vR 200]) C dX11_settle_3 [vI b9] (k_isBranch_t (b9 := b9) hm h206 hz hO) hm w_X11_126 rfl (by decide) (by decide) (by omega) (by omega) (Nat.le_of_ble_eq_true rfl) (ko_rt ?_)
  show T x 6 [(0, vR 200), (1, vI b9), (2, vI s9), (3, vI o9)] [vI 1, vR 200] _ _ _
  refine st_iconst C dX11_settle_6 (by decide) ?_
  refine st_callV (st := []) C dX11_settle_7 [vI 1, vI 1] (k_no_t (p9 := 1) hm) hm w_X11_112 rfl (by decide) (by decide) (by omega) (by omega) (Nat.le_of_ble_eq_true rfl) (ko_rt ?_)
  show T x 10 [(0, vR 200), (1, vI b9), (2, vI s9), (3, vI o9)] [vI 0] (hput h 200 (oO 10 [vR 201, vR 202, vR 203, vR 204, vR 205, vR 206, vR 207, vR 208, vR 209, vR 210, vR 211, vR 212, vR 213, vR 214, vR 215, vR 216, vR 217, vR 218, vI mv, vI mrc, vI mmc, vI mmk, vI mdv, vI mwl, vI mwa, vI mwp, vI 0])) _ _
  refine st_if_ne (tgt := 39) C dX11_settle_10 (by decide) (fun c_10 => by omega) (fun c_10 => ?_)
  refine st_aload_n C 0 dX11_settle_13 rfl rfl ?_
  refine st_iload_n C 2 dX11_settle_14 rfl rfl ?_
  have b_15 : 0 ≤ s9 ∧ s9 ≤ 303 := by omega
  refine st_callS (st := [vR 200]) C dX11_settle_15 [vI s9] (k_mSpot_t (v9 := s9)  b_15) w_X11_139 rfl (by decide) (by decide) (by omega) (by omega) (Nat.le_of_ble_eq_true rfl) (ko_rt ?_)
  show T x 18 [(0, vR 200), (1, vI b9), (2, vI s9), (3, vI o9)] [vI 1, vR 200] _ _ _
  refine st_iconst C dX11_settle_18 (by decide) ?_
  refine st_callV (st := []) C dX11_settle_19 [vI 1, vI 2] (k_no_t (p9 := 2) hput_s) hput_s w_X11_112 rfl (by decide) (by decide) (by omega) (by omega) (Nat.le_of_ble_eq_true rfl) (ko_rt ?_)
  show T x 22 [(0, vR 200), (1, vI b9), (2, vI s9), (3, vI o9)] [vI 0] (hput (hput h 200 (oO 10 [vR 201, vR 202, vR 203, vR 204, vR 205, vR 206, vR 207, vR 208, vR 209, vR 210, vR 211, vR 212, vR 213, vR 214, vR 215, vR 216, vR 217, vR 218, vI mv, vI mrc, vI mmc, vI mmk, vI mdv, vI mwl, vI mwa, vI mwp, vI 0])) 200 (oO 10 [vR 201, vR 202, vR 203, vR 204, vR 205, vR 206, vR 207, vR 208, vR 209, vR 210, vR 211, vR 212, vR 213, vR 214, vR 215, vR 216, vR 217, vR 218, vI mv, vI mrc, vI mmc, vI mmk, vI mdv, vI mwl, vI mwa, vI mwp, vI 0])) _ _
  refine st_if_ne (tgt := 39) C dX11_settle_22 (by decide) (fun c_22 => by omega) (fun c_22 => ?_)
  refine st_aload_n C 0 dX11_settle_25 rfl rfl ?_
  refine st_aload_n C 0 dX11_settle_26 rfl rfl ?_
  refine st_iload_n C 1 dX11_settle_27 rfl rfl ?_
  refine st_iload_n C 2 dX11_settle_28 rfl rfl ?_
  refine st_callV (st := [vR 200]) C dX11_settle_29 [vI b9, vI s9] (k_mConflict_f (s9 := s9) hput_s (hput_o (by omega) (hput_o (by omega) hmm)) hv (hput_o (by omega) (hput_o (by omega) h207)) (hput_o (by omega) (hput_o (by omega) h208)) (hput_o (by omega) (hput_o (by omega) h209)) hb (by omega) hC) hput_s w_X11_142 rfl (by decide) (by decide) (by omega) (by omega) (Nat.le_of_ble_eq_true rfl) (ko_rt ?_)
  show T x 32 [(0, vR 200), (1, vI b9), (2, vI s9), (3, vI o9)] [vI 0, vR 200] _ _ _
  refine st_iconst C dX11_settle_32 (by decide) ?_
  refine st_callV (st := []) C dX11_settle_33 [vI 0, vI 3] (k_no_f (p9 := 3) hput_s) hput_s w_X11_112 rfl (by decide) (by decide) (by omega) (by omega) (Nat.le_of_ble_eq_true rfl) (ko_rt ?_)
  show T x 36 [(0, vR 200), (1, vI b9), (2, vI s9), (3, vI o9)] [vI 1] (hput (hput (hput h 200 (oO 10 [vR 201, vR 202, vR 203, vR 204, vR 205, vR 206, vR 207, vR 208, vR 209, vR 210, vR 211, vR 212, vR 213, vR 214, vR 215, vR 216, vR 217, vR 218, vI mv, vI mrc, vI mmc, vI mmk, vI mdv, vI mwl, vI mwa, vI mwp, vI 0])) 200 (oO 10 [vR 201, vR 202, vR 203, vR 204, vR 205, vR 206, vR 207, vR 208, vR 209, vR 210, vR 211, vR 212, vR 213, vR 214, vR 215, vR 216, vR 217, vR 218, vI mv, vI mrc, vI mmc, vI mmk, vI mdv, vI mwl, vI mwa, vI mwp, vI 0])) 200 (oO 10 [vR 201, vR 202, vR 203, vR 204, vR 205, vR 206, vR 207, vR 208, vR 209, vR 210, vR 211, vR 212, vR 213, vR 214, vR 215, vR 216, vR 217, vR 218, vI mv, vI mrc, vI mmc, vI mmk, vI mdv, vI mwl, vI mwa, vI mwp, vI 3])) _ _
  refine st_if_eq (tgt := 41) C dX11_settle_36 (by decide) (fun c_36 => by omega) (fun c_36 => ?_)
  refine st_iconst C dX11_settle_39 (by decide) ?_
  exact st_ireturn C F dX11_settle_40 rfl (by first | exact ⟨by with_reducible rfl, by with_reducible rfl⟩ | (exfalso; omega)) (by omega) (by omega)
set_option maxRecDepth 20000 in
set_option maxHeartbeats 4000000 in
theorem m_settle_o {g : Gx} {h : HP} {mv mrc mmc mmk mdv mwl mwa mwp mth : Int} {mop : Int → Int} {mm : Int → Int} {mb : Int → Int} {me : Int → Int} {mt : Int → Int} {b9 : Int} {s9 o9 : Int} (hm : mO h mv mrc mmc mmk mdv mwl mwa mwp mth) (h206 : h 206 = some (oZ 4 mop)) (hmm : h 201 = some (oI 12464 mm)) (h207 : h 207 = some (oI 1216 mb)) (h208 : h 208 = some (oI 1216 me)) (h209 : h 209 = some (oI 1216 mt)) (hv : 0 ≤ mv ∧ mv ≤ 40) (hz : ∀ i, 0 ≤ i → i ≤ 3 → mop i = 0 ∨ mop i = 1) (hO : 0 ≤ b9 ∧ b9 ≤ 3 ∧ mop b9 = 1) (hQ : 0 ≤ s9 ∧ s9 ≤ 303) (hC : (0 ≤ me (304 * b9 + s9) ∧ mm (304 * mv + s9) ≠ mb (304 * b9 + s9) ∧ mm (304 * mv + s9) ≠ me (304 * b9 + s9) ∧ mm (304 * mv + s9) ≠ mt (304 * b9 + s9))) (ho : o9 ≠ 0) : Ct g yX11_settle (.code yX11_settle cX11_settle 5 (some .int)) 4 0 0 [vR 200, vI b9, vI s9, vI o9] h (Rt (some (vI (cnt (fun j9 => (0 ≤ me (304 * b9 + j9) ∧ mm (304 * mv + j9) ≠ mb (304 * b9 + j9) ∧ mm (304 * mv + j9) ≠ me (304 * b9 + j9) ∧ mm (304 * mv + j9) ≠ (fput mt (304 * b9 + s9) (mm (304 * mv + s9))) (304 * b9 + j9))) 304))) (hput (hput (hput (hput h 200 (oO 10 [vR 201, vR 202, vR 203, vR 204, vR 205, vR 206, vR 207, vR 208, vR 209, vR 210, vR 211, vR 212, vR 213, vR 214, vR 215, vR 216, vR 217, vR 218, vI mv, vI mrc, vI mmc, vI mmk, vI mdv, vI mwl, vI mwa, vI mwp, vI 0])) 200 (oO 10 [vR 201, vR 202, vR 203, vR 204, vR 205, vR 206, vR 207, vR 208, vR 209, vR 210, vR 211, vR 212, vR 213, vR 214, vR 215, vR 216, vR 217, vR 218, vI mv, vI mrc, vI mmc, vI mmk, vI mdv, vI mwl, vI mwa, vI mwp, vI 0])) 200 (oO 10 [vR 201, vR 202, vR 203, vR 204, vR 205, vR 206, vR 207, vR 208, vR 209, vR 210, vR 211, vR 212, vR 213, vR 214, vR 215, vR 216, vR 217, vR 218, vI mv, vI mrc, vI mmc, vI mmk, vI mdv, vI mwl, vI mwa, vI mwp, vI 0])) 209 (oI 1216 (fput mt (304 * b9 + s9) (mm (304 * mv + s9)))))) := by
  refine Ct.of (by decide) (Nat.le_of_ble_eq_true rfl) (fun x hg C F => ?_)
  subst hg
  have hb : 0 ≤ b9 ∧ b9 ≤ 3 := ⟨hO.1, hO.2.1⟩
  show T x 0 [(0, vR 200), (1, vI b9), (2, vI s9), (3, vI o9)] [] h 0 0
  refine st_aload_n C 0 dX11_settle_0 rfl rfl ?_
  refine st_aload_n C 0 dX11_settle_1 rfl rfl ?_
  refine st_iload_n C 1 dX11_settle_2 rfl rfl ?_
  refine st_callV (st := [vR 200]) C dX11_settle_3 [vI b9] (k_isBranch_t (b9 := b9) hm h206 hz hO) hm w_X11_126 rfl (by decide) (by decide) (by omega) (by omega) (Nat.le_of_ble_eq_true rfl) (ko_rt ?_)
  show T x 6 [(0, vR 200), (1, vI b9), (2, vI s9), (3, vI o9)] [vI 1, vR 200] _ _ _
  refine st_iconst C dX11_settle_6 (by decide) ?_
  refine st_callV (st := []) C dX11_settle_7 [vI 1, vI 1] (k_no_t (p9 := 1) hm) hm w_X11_112 rfl (by decide) (by decide) (by omega) (by omega) (Nat.le_of_ble_eq_true rfl) (ko_rt ?_)
  show T x 10 [(0, vR 200), (1, vI b9), (2, vI s9), (3, vI o9)] [vI 0] (hput h 200 (oO 10 [vR 201, vR 202, vR 203, vR 204, vR 205, vR 206, vR 207, vR 208, vR 209, vR 210, vR 211, vR 212, vR 213, vR 214, vR 215, vR 216, vR 217, vR 218, vI mv, vI mrc, vI mmc, vI mmk, vI mdv, vI mwl, vI mwa, vI mwp, vI 0])) _ _
  refine st_if_ne (tgt := 39) C dX11_settle_10 (by decide) (fun c_10 => by omega) (fun c_10 => ?_)
  refine st_aload_n C 0 dX11_settle_13 rfl rfl ?_
  refine st_iload_n C 2 dX11_settle_14 rfl rfl ?_
  have b_15 : 0 ≤ s9 ∧ s9 ≤ 303 := by omega
  refine st_callS (st := [vR 200]) C dX11_settle_15 [vI s9] (k_mSpot_t (v9 := s9)  b_15) w_X11_139 rfl (by decide) (by decide) (by omega) (by omega) (Nat.le_of_ble_eq_true rfl) (ko_rt ?_)
  show T x 18 [(0, vR 200), (1, vI b9), (2, vI s9), (3, vI o9)] [vI 1, vR 200] _ _ _
  refine st_iconst C dX11_settle_18 (by decide) ?_
  refine st_callV (st := []) C dX11_settle_19 [vI 1, vI 2] (k_no_t (p9 := 2) hput_s) hput_s w_X11_112 rfl (by decide) (by decide) (by omega) (by omega) (Nat.le_of_ble_eq_true rfl) (ko_rt ?_)
  show T x 22 [(0, vR 200), (1, vI b9), (2, vI s9), (3, vI o9)] [vI 0] (hput (hput h 200 (oO 10 [vR 201, vR 202, vR 203, vR 204, vR 205, vR 206, vR 207, vR 208, vR 209, vR 210, vR 211, vR 212, vR 213, vR 214, vR 215, vR 216, vR 217, vR 218, vI mv, vI mrc, vI mmc, vI mmk, vI mdv, vI mwl, vI mwa, vI mwp, vI 0])) 200 (oO 10 [vR 201, vR 202, vR 203, vR 204, vR 205, vR 206, vR 207, vR 208, vR 209, vR 210, vR 211, vR 212, vR 213, vR 214, vR 215, vR 216, vR 217, vR 218, vI mv, vI mrc, vI mmc, vI mmk, vI mdv, vI mwl, vI mwa, vI mwp, vI 0])) _ _
  refine st_if_ne (tgt := 39) C dX11_settle_22 (by decide) (fun c_22 => by omega) (fun c_22 => ?_)
  refine st_aload_n C 0 dX11_settle_25 rfl rfl ?_
  refine st_aload_n C 0 dX11_settle_26 rfl rfl ?_
  refine st_iload_n C 1 dX11_settle_27 rfl rfl ?_
  refine st_iload_n C 2 dX11_settle_28 rfl rfl ?_
  refine st_callV (st := [vR 200]) C dX11_settle_29 [vI b9, vI s9] (k_mConflict_t (s9 := s9) hput_s (hput_o (by omega) (hput_o (by omega) hmm)) hv (hput_o (by omega) (hput_o (by omega) h207)) (hput_o (by omega) (hput_o (by omega) h208)) (hput_o (by omega) (hput_o (by omega) h209)) hb (by omega) hC) hput_s w_X11_142 rfl (by decide) (by decide) (by omega) (by omega) (Nat.le_of_ble_eq_true rfl) (ko_rt ?_)
  show T x 32 [(0, vR 200), (1, vI b9), (2, vI s9), (3, vI o9)] [vI 1, vR 200] _ _ _
  refine st_iconst C dX11_settle_32 (by decide) ?_
  refine st_callV (st := []) C dX11_settle_33 [vI 1, vI 3] (k_no_t (p9 := 3) hput_s) hput_s w_X11_112 rfl (by decide) (by decide) (by omega) (by omega) (Nat.le_of_ble_eq_true rfl) (ko_rt ?_)
  show T x 36 [(0, vR 200), (1, vI b9), (2, vI s9), (3, vI o9)] [vI 0] (hput (hput (hput h 200 (oO 10 [vR 201, vR 202, vR 203, vR 204, vR 205, vR 206, vR 207, vR 208, vR 209, vR 210, vR 211, vR 212, vR 213, vR 214, vR 215, vR 216, vR 217, vR 218, vI mv, vI mrc, vI mmc, vI mmk, vI mdv, vI mwl, vI mwa, vI mwp, vI 0])) 200 (oO 10 [vR 201, vR 202, vR 203, vR 204, vR 205, vR 206, vR 207, vR 208, vR 209, vR 210, vR 211, vR 212, vR 213, vR 214, vR 215, vR 216, vR 217, vR 218, vI mv, vI mrc, vI mmc, vI mmk, vI mdv, vI mwl, vI mwa, vI mwp, vI 0])) 200 (oO 10 [vR 201, vR 202, vR 203, vR 204, vR 205, vR 206, vR 207, vR 208, vR 209, vR 210, vR 211, vR 212, vR 213, vR 214, vR 215, vR 216, vR 217, vR 218, vI mv, vI mrc, vI mmc, vI mmk, vI mdv, vI mwl, vI mwa, vI mwp, vI 0])) _ _
  refine st_if_eq (tgt := 41) C dX11_settle_36 (by decide) (fun c_36 => ?_) (fun c_36 => by omega)
  refine st_sipush C dX11_settle_41 (by decide) (by decide) ?_
  refine st_iload_n C 1 dX11_settle_44 rfl rfl ?_
  refine st_imul C dX11_settle_45 ⟨(by omega), (by omega)⟩ ?_
  refine st_iload_n C 2 dX11_settle_46 rfl rfl ?_
  refine st_iadd C dX11_settle_47 ⟨(by omega), (by omega)⟩ ?_
  refine st_istore C dX11_settle_48 (by decide) rfl ?_
  show T x 50 [(0, vR 200), (1, vI b9), (2, vI s9), (3, vI o9), (4, vI (304 * b9 + s9))] [] _ _ _
  refine st_iload_n C 3 dX11_settle_50 rfl rfl ?_
  refine st_if_eq (tgt := 69) C dX11_settle_51 (by decide) (fun c_51 => ?_) (fun c_51 => ?_)
  · refine st_aload_n C 0 dX11_settle_69 rfl rfl ?_
    refine st_iload_n C 1 dX11_settle_70 rfl rfl ?_
    refine st_iload_n C 2 dX11_settle_71 rfl rfl ?_
    refine st_aload_n C 0 dX11_settle_72 rfl rfl ?_
    refine st_getf C dX11_settle_73 fl_X11_29 hput_s rfl ?_
    refine st_iload C dX11_settle_76 rfl ?_
    refine st_iald C dX11_settle_78 (hput_o (by omega) (hput_o (by omega) (hput_o (by omega) h207))) (by omega) (by omega) ?_
    refine st_callV (st := []) C dX11_settle_79 [vI b9, vI s9, vI (mb (304 * b9 + s9))] (k_medit (b9 := b9) (s9 := s9) (v9 := (mb (304 * b9 + s9))) hput_s (hput_o (by omega) (hput_o (by omega) (hput_o (by omega) h207))) (hput_o (by omega) (hput_o (by omega) (hput_o (by omega) h208))) (hput_o (by omega) (hput_o (by omega) (hput_o (by omega) h209))) (by omega) (by omega)) hput_s w_X11_135 rfl (by decide) (by decide) (by omega) (by omega) (Nat.le_of_ble_eq_true rfl) (ko_rn ?_)
    show T x 82 [(0, vR 200), (1, vI b9), (2, vI s9), (3, vI o9), (4, vI (304 * b9 + s9))] [] (hput (hput (hput (hput (hput h 200 (oO 10 [vR 201, vR 202, vR 203, vR 204, vR 205, vR 206, vR 207, vR 208, vR 209, vR 210, vR 211, vR 212, vR 213, vR 214, vR 215, vR 216, vR 217, vR 218, vI mv, vI mrc, vI mmc, vI mmk, vI mdv, vI mwl, vI mwa, vI mwp, vI 0])) 200 (oO 10 [vR 201, vR 202, vR 203, vR 204, vR 205, vR 206, vR 207, vR 208, vR 209, vR 210, vR 211, vR 212, vR 213, vR 214, vR 215, vR 216, vR 217, vR 218, vI mv, vI mrc, vI mmc, vI mmk, vI mdv, vI mwl, vI mwa, vI mwp, vI 0])) 200 (oO 10 [vR 201, vR 202, vR 203, vR 204, vR 205, vR 206, vR 207, vR 208, vR 209, vR 210, vR 211, vR 212, vR 213, vR 214, vR 215, vR 216, vR 217, vR 218, vI mv, vI mrc, vI mmc, vI mmk, vI mdv, vI mwl, vI mwa, vI mwp, vI 0])) 208 (oI 1216 (medF me mb (304 * b9 + s9) (mb (304 * b9 + s9))))) 209 (oI 1216 (mtoF mt mb (304 * b9 + s9) (mb (304 * b9 + s9))))) _ _
    refine st_aload_n C 0 dX11_settle_82 rfl rfl ?_
    refine st_iload_n C 1 dX11_settle_83 rfl rfl ?_
    refine st_callV (st := []) C dX11_settle_84 [vI b9] (k_conflictsOf (b9 := b9) (hput_o (by omega) (hput_o (by omega) hput_s)) (hput_o (by omega) (hput_o (by omega) (hput_o (by omega) (hput_o (by omega) (hput_o (by omega) hmm))))) hv (hput_o (by omega) (hput_o (by omega) (hput_o (by omega) (hput_o (by omega) (hput_o (by omega) h207))))) (hput_o (by omega) hput_s) hput_s (by omega)) (hput_o (by omega) (hput_o (by omega) hput_s)) w_X11_145 rfl (by decide) (by decide) (by omega) (by omega) (Nat.le_of_ble_eq_true rfl) (ko_rt ?_)
    show T x 87 [(0, vR 200), (1, vI b9), (2, vI s9), (3, vI o9), (4, vI (304 * b9 + s9))] [vI (cnt (fun j9 => (0 ≤ (medF me mb (304 * b9 + s9) (mb (304 * b9 + s9))) (304 * b9 + j9) ∧ mm (304 * mv + j9) ≠ mb (304 * b9 + j9) ∧ mm (304 * mv + j9) ≠ (medF me mb (304 * b9 + s9) (mb (304 * b9 + s9))) (304 * b9 + j9) ∧ mm (304 * mv + j9) ≠ (mtoF mt mb (304 * b9 + s9) (mb (304 * b9 + s9))) (304 * b9 + j9))) 304)] _ _ _
    exact st_ireturn C F dX11_settle_87 rfl (by first | exact ⟨by with_reducible rfl, by with_reducible rfl⟩ | (exfalso; omega)) (by omega) (by omega)
  · refine st_aload_n C 0 dX11_settle_54 rfl rfl ?_
    refine st_getf C dX11_settle_55 fl_X11_35 hput_s rfl ?_
    refine st_iload C dX11_settle_58 rfl ?_
    refine st_aload_n C 0 dX11_settle_60 rfl rfl ?_
    refine st_iload_n C 2 dX11_settle_61 rfl rfl ?_
    refine st_callV (st := [vI (304 * b9 + s9), vR 209]) C dX11_settle_62 [vI s9] (k_now (mm := mm) (s9 := s9) hput_s (hput_o (by omega) (hput_o (by omega) (hput_o (by omega) hmm))) hv (by omega)) hput_s w_X11_105 rfl (by decide) (by decide) (by omega) (by omega) (Nat.le_of_ble_eq_true rfl) (ko_rt ?_)
    show T x 65 [(0, vR 200), (1, vI b9), (2, vI s9), (3, vI o9), (4, vI (304 * b9 + s9))] [vI (mm (304 * mv + s9)), vI (304 * b9 + s9), vR 209] _ _ _
    refine st_iast C dX11_settle_65 (hput_o (by omega) (hput_o (by omega) (hput_o (by omega) h209))) (by omega) (by omega) ?_
    refine st_goto (tgt := 82) C dX11_settle_66 (by decide) ?_
    refine st_aload_n C 0 dX11_settle_82 rfl rfl ?_
    refine st_iload_n C 1 dX11_settle_83 rfl rfl ?_
    refine st_callV (st := []) C dX11_settle_84 [vI b9] (k_conflictsOf (b9 := b9) (hput_o (by omega) hput_s) (hput_o (by omega) (hput_o (by omega) (hput_o (by omega) (hput_o (by omega) hmm)))) hv (hput_o (by omega) (hput_o (by omega) (hput_o (by omega) (hput_o (by omega) h207)))) (hput_o (by omega) (hput_o (by omega) (hput_o (by omega) (hput_o (by omega) h208)))) hput_s (by omega)) (hput_o (by omega) hput_s) w_X11_145 rfl (by decide) (by decide) (by omega) (by omega) (Nat.le_of_ble_eq_true rfl) (ko_rt ?_)
    show T x 87 [(0, vR 200), (1, vI b9), (2, vI s9), (3, vI o9), (4, vI (304 * b9 + s9))] [vI (cnt (fun j9 => (0 ≤ me (304 * b9 + j9) ∧ mm (304 * mv + j9) ≠ mb (304 * b9 + j9) ∧ mm (304 * mv + j9) ≠ me (304 * b9 + j9) ∧ mm (304 * mv + j9) ≠ (fput mt (304 * b9 + s9) (mm (304 * mv + s9))) (304 * b9 + j9))) 304)] _ _ _
    exact st_ireturn C F dX11_settle_87 rfl (by first | exact ⟨by with_reducible rfl, by with_reducible rfl⟩ | (exfalso; omega)) (by omega) (by omega)
set_option maxRecDepth 20000 in
set_option maxHeartbeats 4000000 in
theorem m_settle_b {g : Gx} {h : HP} {mv mrc mmc mmk mdv mwl mwa mwp mth : Int} {mop : Int → Int} {mm : Int → Int} {mb : Int → Int} {me : Int → Int} {mt : Int → Int} {b9 : Int} {s9 o9 : Int} (hm : mO h mv mrc mmc mmk mdv mwl mwa mwp mth) (h206 : h 206 = some (oZ 4 mop)) (hmm : h 201 = some (oI 12464 mm)) (h207 : h 207 = some (oI 1216 mb)) (h208 : h 208 = some (oI 1216 me)) (h209 : h 209 = some (oI 1216 mt)) (hv : 0 ≤ mv ∧ mv ≤ 40) (hz : ∀ i, 0 ≤ i → i ≤ 3 → mop i = 0 ∨ mop i = 1) (hO : 0 ≤ b9 ∧ b9 ≤ 3 ∧ mop b9 = 1) (hQ : 0 ≤ s9 ∧ s9 ≤ 303) (hC : (0 ≤ me (304 * b9 + s9) ∧ mm (304 * mv + s9) ≠ mb (304 * b9 + s9) ∧ mm (304 * mv + s9) ≠ me (304 * b9 + s9) ∧ mm (304 * mv + s9) ≠ mt (304 * b9 + s9))) (ho : o9 = 0) : Ct g yX11_settle (.code yX11_settle cX11_settle 5 (some .int)) 4 0 0 [vR 200, vI b9, vI s9, vI o9] h (Rt (some (vI (cnt (fun j9 => (0 ≤ (medF me mb (304 * b9 + s9) (mb (304 * b9 + s9))) (304 * b9 + j9) ∧ mm (304 * mv + j9) ≠ mb (304 * b9 + j9) ∧ mm (304 * mv + j9) ≠ (medF me mb (304 * b9 + s9) (mb (304 * b9 + s9))) (304 * b9 + j9) ∧ mm (304 * mv + j9) ≠ (mtoF mt mb (304 * b9 + s9) (mb (304 * b9 + s9))) (304 * b9 + j9))) 304))) (hput (hput (hput (hput (hput h 200 (oO 10 [vR 201, vR 202, vR 203, vR 204, vR 205, vR 206, vR 207, vR 208, vR 209, vR 210, vR 211, vR 212, vR 213, vR 214, vR 215, vR 216, vR 217, vR 218, vI mv, vI mrc, vI mmc, vI mmk, vI mdv, vI mwl, vI mwa, vI mwp, vI 0])) 200 (oO 10 [vR 201, vR 202, vR 203, vR 204, vR 205, vR 206, vR 207, vR 208, vR 209, vR 210, vR 211, vR 212, vR 213, vR 214, vR 215, vR 216, vR 217, vR 218, vI mv, vI mrc, vI mmc, vI mmk, vI mdv, vI mwl, vI mwa, vI mwp, vI 0])) 200 (oO 10 [vR 201, vR 202, vR 203, vR 204, vR 205, vR 206, vR 207, vR 208, vR 209, vR 210, vR 211, vR 212, vR 213, vR 214, vR 215, vR 216, vR 217, vR 218, vI mv, vI mrc, vI mmc, vI mmk, vI mdv, vI mwl, vI mwa, vI mwp, vI 0])) 208 (oI 1216 (medF me mb (304 * b9 + s9) (mb (304 * b9 + s9))))) 209 (oI 1216 (mtoF mt mb (304 * b9 + s9) (mb (304 * b9 + s9)))))) := by
  refine Ct.of (by decide) (Nat.le_of_ble_eq_true rfl) (fun x hg C F => ?_)
  subst hg
  have hb : 0 ≤ b9 ∧ b9 ≤ 3 := ⟨hO.1, hO.2.1⟩
  show T x 0 [(0, vR 200), (1, vI b9), (2, vI s9), (3, vI o9)] [] h 0 0
  refine st_aload_n C 0 dX11_settle_0 rfl rfl ?_
  refine st_aload_n C 0 dX11_settle_1 rfl rfl ?_
  refine st_iload_n C 1 dX11_settle_2 rfl rfl ?_
  refine st_callV (st := [vR 200]) C dX11_settle_3 [vI b9] (k_isBranch_t (b9 := b9) hm h206 hz hO) hm w_X11_126 rfl (by decide) (by decide) (by omega) (by omega) (Nat.le_of_ble_eq_true rfl) (ko_rt ?_)
  show T x 6 [(0, vR 200), (1, vI b9), (2, vI s9), (3, vI o9)] [vI 1, vR 200] _ _ _
  refine st_iconst C dX11_settle_6 (by decide) ?_
  refine st_callV (st := []) C dX11_settle_7 [vI 1, vI 1] (k_no_t (p9 := 1) hm) hm w_X11_112 rfl (by decide) (by decide) (by omega) (by omega) (Nat.le_of_ble_eq_true rfl) (ko_rt ?_)
  show T x 10 [(0, vR 200), (1, vI b9), (2, vI s9), (3, vI o9)] [vI 0] (hput h 200 (oO 10 [vR 201, vR 202, vR 203, vR 204, vR 205, vR 206, vR 207, vR 208, vR 209, vR 210, vR 211, vR 212, vR 213, vR 214, vR 215, vR 216, vR 217, vR 218, vI mv, vI mrc, vI mmc, vI mmk, vI mdv, vI mwl, vI mwa, vI mwp, vI 0])) _ _
  refine st_if_ne (tgt := 39) C dX11_settle_10 (by decide) (fun c_10 => by omega) (fun c_10 => ?_)
  refine st_aload_n C 0 dX11_settle_13 rfl rfl ?_
  refine st_iload_n C 2 dX11_settle_14 rfl rfl ?_
  have b_15 : 0 ≤ s9 ∧ s9 ≤ 303 := by omega
  refine st_callS (st := [vR 200]) C dX11_settle_15 [vI s9] (k_mSpot_t (v9 := s9)  b_15) w_X11_139 rfl (by decide) (by decide) (by omega) (by omega) (Nat.le_of_ble_eq_true rfl) (ko_rt ?_)
  show T x 18 [(0, vR 200), (1, vI b9), (2, vI s9), (3, vI o9)] [vI 1, vR 200] _ _ _
  refine st_iconst C dX11_settle_18 (by decide) ?_
  refine st_callV (st := []) C dX11_settle_19 [vI 1, vI 2] (k_no_t (p9 := 2) hput_s) hput_s w_X11_112 rfl (by decide) (by decide) (by omega) (by omega) (Nat.le_of_ble_eq_true rfl) (ko_rt ?_)
  show T x 22 [(0, vR 200), (1, vI b9), (2, vI s9), (3, vI o9)] [vI 0] (hput (hput h 200 (oO 10 [vR 201, vR 202, vR 203, vR 204, vR 205, vR 206, vR 207, vR 208, vR 209, vR 210, vR 211, vR 212, vR 213, vR 214, vR 215, vR 216, vR 217, vR 218, vI mv, vI mrc, vI mmc, vI mmk, vI mdv, vI mwl, vI mwa, vI mwp, vI 0])) 200 (oO 10 [vR 201, vR 202, vR 203, vR 204, vR 205, vR 206, vR 207, vR 208, vR 209, vR 210, vR 211, vR 212, vR 213, vR 214, vR 215, vR 216, vR 217, vR 218, vI mv, vI mrc, vI mmc, vI mmk, vI mdv, vI mwl, vI mwa, vI mwp, vI 0])) _ _
  refine st_if_ne (tgt := 39) C dX11_settle_22 (by decide) (fun c_22 => by omega) (fun c_22 => ?_)
  refine st_aload_n C 0 dX11_settle_25 rfl rfl ?_
  refine st_aload_n C 0 dX11_settle_26 rfl rfl ?_
  refine st_iload_n C 1 dX11_settle_27 rfl rfl ?_
  refine st_iload_n C 2 dX11_settle_28 rfl rfl ?_
  refine st_callV (st := [vR 200]) C dX11_settle_29 [vI b9, vI s9] (k_mConflict_t (s9 := s9) hput_s (hput_o (by omega) (hput_o (by omega) hmm)) hv (hput_o (by omega) (hput_o (by omega) h207)) (hput_o (by omega) (hput_o (by omega) h208)) (hput_o (by omega) (hput_o (by omega) h209)) hb (by omega) hC) hput_s w_X11_142 rfl (by decide) (by decide) (by omega) (by omega) (Nat.le_of_ble_eq_true rfl) (ko_rt ?_)
  show T x 32 [(0, vR 200), (1, vI b9), (2, vI s9), (3, vI o9)] [vI 1, vR 200] _ _ _
  refine st_iconst C dX11_settle_32 (by decide) ?_
  refine st_callV (st := []) C dX11_settle_33 [vI 1, vI 3] (k_no_t (p9 := 3) hput_s) hput_s w_X11_112 rfl (by decide) (by decide) (by omega) (by omega) (Nat.le_of_ble_eq_true rfl) (ko_rt ?_)
  show T x 36 [(0, vR 200), (1, vI b9), (2, vI s9), (3, vI o9)] [vI 0] (hput (hput (hput h 200 (oO 10 [vR 201, vR 202, vR 203, vR 204, vR 205, vR 206, vR 207, vR 208, vR 209, vR 210, vR 211, vR 212, vR 213, vR 214, vR 215, vR 216, vR 217, vR 218, vI mv, vI mrc, vI mmc, vI mmk, vI mdv, vI mwl, vI mwa, vI mwp, vI 0])) 200 (oO 10 [vR 201, vR 202, vR 203, vR 204, vR 205, vR 206, vR 207, vR 208, vR 209, vR 210, vR 211, vR 212, vR 213, vR 214, vR 215, vR 216, vR 217, vR 218, vI mv, vI mrc, vI mmc, vI mmk, vI mdv, vI mwl, vI mwa, vI mwp, vI 0])) 200 (oO 10 [vR 201, vR 202, vR 203, vR 204, vR 205, vR 206, vR 207, vR 208, vR 209, vR 210, vR 211, vR 212, vR 213, vR 214, vR 215, vR 216, vR 217, vR 218, vI mv, vI mrc, vI mmc, vI mmk, vI mdv, vI mwl, vI mwa, vI mwp, vI 0])) _ _
  refine st_if_eq (tgt := 41) C dX11_settle_36 (by decide) (fun c_36 => ?_) (fun c_36 => by omega)
  refine st_sipush C dX11_settle_41 (by decide) (by decide) ?_
  refine st_iload_n C 1 dX11_settle_44 rfl rfl ?_
  refine st_imul C dX11_settle_45 ⟨(by omega), (by omega)⟩ ?_
  refine st_iload_n C 2 dX11_settle_46 rfl rfl ?_
  refine st_iadd C dX11_settle_47 ⟨(by omega), (by omega)⟩ ?_
  refine st_istore C dX11_settle_48 (by decide) rfl ?_
  show T x 50 [(0, vR 200), (1, vI b9), (2, vI s9), (3, vI o9), (4, vI (304 * b9 + s9))] [] _ _ _
  refine st_iload_n C 3 dX11_settle_50 rfl rfl ?_
  refine st_if_eq (tgt := 69) C dX11_settle_51 (by decide) (fun c_51 => ?_) (fun c_51 => ?_)
  · refine st_aload_n C 0 dX11_settle_69 rfl rfl ?_
    refine st_iload_n C 1 dX11_settle_70 rfl rfl ?_
    refine st_iload_n C 2 dX11_settle_71 rfl rfl ?_
    refine st_aload_n C 0 dX11_settle_72 rfl rfl ?_
    refine st_getf C dX11_settle_73 fl_X11_29 hput_s rfl ?_
    refine st_iload C dX11_settle_76 rfl ?_
    refine st_iald C dX11_settle_78 (hput_o (by omega) (hput_o (by omega) (hput_o (by omega) h207))) (by omega) (by omega) ?_
    refine st_callV (st := []) C dX11_settle_79 [vI b9, vI s9, vI (mb (304 * b9 + s9))] (k_medit (b9 := b9) (s9 := s9) (v9 := (mb (304 * b9 + s9))) hput_s (hput_o (by omega) (hput_o (by omega) (hput_o (by omega) h207))) (hput_o (by omega) (hput_o (by omega) (hput_o (by omega) h208))) (hput_o (by omega) (hput_o (by omega) (hput_o (by omega) h209))) (by omega) (by omega)) hput_s w_X11_135 rfl (by decide) (by decide) (by omega) (by omega) (Nat.le_of_ble_eq_true rfl) (ko_rn ?_)
    show T x 82 [(0, vR 200), (1, vI b9), (2, vI s9), (3, vI o9), (4, vI (304 * b9 + s9))] [] (hput (hput (hput (hput (hput h 200 (oO 10 [vR 201, vR 202, vR 203, vR 204, vR 205, vR 206, vR 207, vR 208, vR 209, vR 210, vR 211, vR 212, vR 213, vR 214, vR 215, vR 216, vR 217, vR 218, vI mv, vI mrc, vI mmc, vI mmk, vI mdv, vI mwl, vI mwa, vI mwp, vI 0])) 200 (oO 10 [vR 201, vR 202, vR 203, vR 204, vR 205, vR 206, vR 207, vR 208, vR 209, vR 210, vR 211, vR 212, vR 213, vR 214, vR 215, vR 216, vR 217, vR 218, vI mv, vI mrc, vI mmc, vI mmk, vI mdv, vI mwl, vI mwa, vI mwp, vI 0])) 200 (oO 10 [vR 201, vR 202, vR 203, vR 204, vR 205, vR 206, vR 207, vR 208, vR 209, vR 210, vR 211, vR 212, vR 213, vR 214, vR 215, vR 216, vR 217, vR 218, vI mv, vI mrc, vI mmc, vI mmk, vI mdv, vI mwl, vI mwa, vI mwp, vI 0])) 208 (oI 1216 (medF me mb (304 * b9 + s9) (mb (304 * b9 + s9))))) 209 (oI 1216 (mtoF mt mb (304 * b9 + s9) (mb (304 * b9 + s9))))) _ _
    refine st_aload_n C 0 dX11_settle_82 rfl rfl ?_
    refine st_iload_n C 1 dX11_settle_83 rfl rfl ?_
    refine st_callV (st := []) C dX11_settle_84 [vI b9] (k_conflictsOf (b9 := b9) (hput_o (by omega) (hput_o (by omega) hput_s)) (hput_o (by omega) (hput_o (by omega) (hput_o (by omega) (hput_o (by omega) (hput_o (by omega) hmm))))) hv (hput_o (by omega) (hput_o (by omega) (hput_o (by omega) (hput_o (by omega) (hput_o (by omega) h207))))) (hput_o (by omega) hput_s) hput_s (by omega)) (hput_o (by omega) (hput_o (by omega) hput_s)) w_X11_145 rfl (by decide) (by decide) (by omega) (by omega) (Nat.le_of_ble_eq_true rfl) (ko_rt ?_)
    show T x 87 [(0, vR 200), (1, vI b9), (2, vI s9), (3, vI o9), (4, vI (304 * b9 + s9))] [vI (cnt (fun j9 => (0 ≤ (medF me mb (304 * b9 + s9) (mb (304 * b9 + s9))) (304 * b9 + j9) ∧ mm (304 * mv + j9) ≠ mb (304 * b9 + j9) ∧ mm (304 * mv + j9) ≠ (medF me mb (304 * b9 + s9) (mb (304 * b9 + s9))) (304 * b9 + j9) ∧ mm (304 * mv + j9) ≠ (mtoF mt mb (304 * b9 + s9) (mb (304 * b9 + s9))) (304 * b9 + j9))) 304)] _ _ _
    exact st_ireturn C F dX11_settle_87 rfl (by first | exact ⟨by with_reducible rfl, by with_reducible rfl⟩ | (exfalso; omega)) (by omega) (by omega)
  · refine st_aload_n C 0 dX11_settle_54 rfl rfl ?_
    refine st_getf C dX11_settle_55 fl_X11_35 hput_s rfl ?_
    refine st_iload C dX11_settle_58 rfl ?_
    refine st_aload_n C 0 dX11_settle_60 rfl rfl ?_
    refine st_iload_n C 2 dX11_settle_61 rfl rfl ?_
    refine st_callV (st := [vI (304 * b9 + s9), vR 209]) C dX11_settle_62 [vI s9] (k_now (mm := mm) (s9 := s9) hput_s (hput_o (by omega) (hput_o (by omega) (hput_o (by omega) hmm))) hv (by omega)) hput_s w_X11_105 rfl (by decide) (by decide) (by omega) (by omega) (Nat.le_of_ble_eq_true rfl) (ko_rt ?_)
    show T x 65 [(0, vR 200), (1, vI b9), (2, vI s9), (3, vI o9), (4, vI (304 * b9 + s9))] [vI (mm (304 * mv + s9)), vI (304 * b9 + s9), vR 209] _ _ _
    refine st_iast C dX11_settle_65 (hput_o (by omega) (hput_o (by omega) (hput_o (by omega) h209))) (by omega) (by omega) ?_
    refine st_goto (tgt := 82) C dX11_settle_66 (by decide) ?_
    refine st_aload_n C 0 dX11_settle_82 rfl rfl ?_
    refine st_iload_n C 1 dX11_settle_83 rfl rfl ?_
    refine st_callV (st := []) C dX11_settle_84 [vI b9] (k_conflictsOf (b9 := b9) (hput_o (by omega) hput_s) (hput_o (by omega) (hput_o (by omega) (hput_o (by omega) (hput_o (by omega) hmm)))) hv (hput_o (by omega) (hput_o (by omega) (hput_o (by omega) (hput_o (by omega) h207)))) (hput_o (by omega) (hput_o (by omega) (hput_o (by omega) (hput_o (by omega) h208)))) hput_s (by omega)) (hput_o (by omega) hput_s) w_X11_145 rfl (by decide) (by decide) (by omega) (by omega) (Nat.le_of_ble_eq_true rfl) (ko_rt ?_)
    show T x 87 [(0, vR 200), (1, vI b9), (2, vI s9), (3, vI o9), (4, vI (304 * b9 + s9))] [vI (cnt (fun j9 => (0 ≤ me (304 * b9 + j9) ∧ mm (304 * mv + j9) ≠ mb (304 * b9 + j9) ∧ mm (304 * mv + j9) ≠ me (304 * b9 + j9) ∧ mm (304 * mv + j9) ≠ (fput mt (304 * b9 + s9) (mm (304 * mv + s9))) (304 * b9 + j9))) 304)] _ _ _
    exact st_ireturn C F dX11_settle_87 rfl (by first | exact ⟨by with_reducible rfl, by with_reducible rfl⟩ | (exfalso; omega)) (by omega) (by omega)
set_option maxRecDepth 20000 in
set_option maxHeartbeats 4000000 in
theorem m_value_x1 {g : Gx} {h : HP} {mv mrc mmc mmk mdv mwl mwa mwp mth : Int} {mm : Int → Int} {s9 v9 : Int} (hm : mO h mv mrc mmc mmk mdv mwl mwa mwp mth) (hmm : h 201 = some (oI 12464 mm)) (hv : 0 ≤ mv ∧ mv ≤ 40) (hQ : ¬ ((0 ≤ s9 ∧ s9 ≤ 303) ∧ 0 ≤ v9 ∧ v9 ≤ mv)) : Ct g yX11_value (.code yX11_value cX11_value 3 (some .int)) 3 0 0 [vR 200, vI s9, vI v9] h (Rt (some (vI 0)) (hput h 200 (oO 10 [vR 201, vR 202, vR 203, vR 204, vR 205, vR 206, vR 207, vR 208, vR 209, vR 210, vR 211, vR 212, vR 213, vR 214, vR 215, vR 216, vR 217, vR 218, vI mv, vI mrc, vI mmc, vI mmk, vI mdv, vI mwl, vI mwa, vI mwp, vI 1]))) := by
  refine Ct.of (by decide) (Nat.le_of_ble_eq_true rfl) (fun x hg C F => ?_)
  subst hg
  show T x 0 [(0, vR 200), (1, vI s9), (2, vI v9)] [] h 0 0
  refine st_aload_n C 0 dX11_value_0 rfl rfl ?_
  refine st_iload_n C 1 dX11_value_1 rfl rfl ?_
  by_cases b_2 : 0 ≤ s9 ∧ s9 ≤ 303
  · refine st_callS (st := [vR 200]) C dX11_value_2 [vI s9] (k_mSpot_t (v9 := s9)  b_2) w_X11_139 rfl (by decide) (by decide) (by omega) (by omega) (Nat.le_of_ble_eq_true rfl) (ko_rt ?_)
    show T x 5 [(0, vR 200), (1, vI s9), (2, vI v9)] [vI 1, vR 200] _ _ _
    refine st_if_eq (tgt := 24) C dX11_value_5 (by decide) (fun c_5 => by omega) (fun c_5 => ?_)
    refine st_iload_n C 2 dX11_value_8 rfl rfl ?_
    refine st_iconst C dX11_value_9 (by decide) ?_
    refine st_aload_n C 0 dX11_value_10 rfl rfl ?_
    refine st_getf C dX11_value_11 fl_X11_72 hm rfl ?_
    by_cases b_14 : 0 ≤ v9 ∧ v9 ≤ mv
    · refine st_callS (st := [vR 200]) C dX11_value_14 [vI v9, vI 0, vI mv] (k_isIn_t (v9 := v9) (l9 := 0) (u9 := mv)  b_14) w_X11_75 rfl (by decide) (by decide) (by omega) (by omega) (Nat.le_of_ble_eq_true rfl) (ko_rt ?_)
      show T x 17 [(0, vR 200), (1, vI s9), (2, vI v9)] [vI 1, vR 200] _ _ _
      refine st_if_eq (tgt := 24) C dX11_value_17 (by decide) (fun c_17 => by omega) (fun c_17 => ?_)
      refine st_iconst C dX11_value_20 (by decide) ?_
      refine st_goto (tgt := 25) C dX11_value_21 (by decide) ?_
      refine st_iconst C dX11_value_25 (by decide) ?_
      exfalso; omega
    · refine st_callS (st := [vR 200]) C dX11_value_14 [vI v9, vI 0, vI mv] (k_isIn_f (v9 := v9) (l9 := 0) (u9 := mv)  b_14) w_X11_75 rfl (by decide) (by decide) (by omega) (by omega) (Nat.le_of_ble_eq_true rfl) (ko_rt ?_)
      show T x 17 [(0, vR 200), (1, vI s9), (2, vI v9)] [vI 0, vR 200] _ _ _
      refine st_if_eq (tgt := 24) C dX11_value_17 (by decide) (fun c_17 => ?_) (fun c_17 => by omega)
      refine st_iconst C dX11_value_24 (by decide) ?_
      refine st_iconst C dX11_value_25 (by decide) ?_
      refine st_callV (st := []) C dX11_value_26 [vI 0, vI 1] (k_no_f (p9 := 1) hm) hm w_X11_112 rfl (by decide) (by decide) (by omega) (by omega) (Nat.le_of_ble_eq_true rfl) (ko_rt ?_)
      show T x 29 [(0, vR 200), (1, vI s9), (2, vI v9)] [vI 1] (hput h 200 (oO 10 [vR 201, vR 202, vR 203, vR 204, vR 205, vR 206, vR 207, vR 208, vR 209, vR 210, vR 211, vR 212, vR 213, vR 214, vR 215, vR 216, vR 217, vR 218, vI mv, vI mrc, vI mmc, vI mmk, vI mdv, vI mwl, vI mwa, vI mwp, vI 1])) _ _
      refine st_if_eq (tgt := 36) C dX11_value_29 (by decide) (fun c_29 => by omega) (fun c_29 => ?_)
      refine st_iconst C dX11_value_32 (by decide) ?_
      refine st_goto (tgt := 48) C dX11_value_33 (by decide) ?_
      exact st_ireturn C F dX11_value_48 rfl (by first | (exfalso; omega) | exact ⟨by with_reducible rfl, by with_reducible rfl⟩) (by omega) (by omega)
  · refine st_callS (st := [vR 200]) C dX11_value_2 [vI s9] (k_mSpot_f (v9 := s9)  b_2) w_X11_139 rfl (by decide) (by decide) (by omega) (by omega) (Nat.le_of_ble_eq_true rfl) (ko_rt ?_)
    show T x 5 [(0, vR 200), (1, vI s9), (2, vI v9)] [vI 0, vR 200] _ _ _
    refine st_if_eq (tgt := 24) C dX11_value_5 (by decide) (fun c_5 => ?_) (fun c_5 => by omega)
    refine st_iconst C dX11_value_24 (by decide) ?_
    refine st_iconst C dX11_value_25 (by decide) ?_
    refine st_callV (st := []) C dX11_value_26 [vI 0, vI 1] (k_no_f (p9 := 1) hm) hm w_X11_112 rfl (by decide) (by decide) (by omega) (by omega) (Nat.le_of_ble_eq_true rfl) (ko_rt ?_)
    show T x 29 [(0, vR 200), (1, vI s9), (2, vI v9)] [vI 1] (hput h 200 (oO 10 [vR 201, vR 202, vR 203, vR 204, vR 205, vR 206, vR 207, vR 208, vR 209, vR 210, vR 211, vR 212, vR 213, vR 214, vR 215, vR 216, vR 217, vR 218, vI mv, vI mrc, vI mmc, vI mmk, vI mdv, vI mwl, vI mwa, vI mwp, vI 1])) _ _
    refine st_if_eq (tgt := 36) C dX11_value_29 (by decide) (fun c_29 => by omega) (fun c_29 => ?_)
    refine st_iconst C dX11_value_32 (by decide) ?_
    refine st_goto (tgt := 48) C dX11_value_33 (by decide) ?_
    exact st_ireturn C F dX11_value_48 rfl (by first | (exfalso; omega) | exact ⟨by with_reducible rfl, by with_reducible rfl⟩) (by omega) (by omega)
set_option maxRecDepth 20000 in
set_option maxHeartbeats 4000000 in
theorem m_value {g : Gx} {h : HP} {mv mrc mmc mmk mdv mwl mwa mwp mth : Int} {mm : Int → Int} {s9 v9 : Int} (hm : mO h mv mrc mmc mmk mdv mwl mwa mwp mth) (hmm : h 201 = some (oI 12464 mm)) (hv : 0 ≤ mv ∧ mv ≤ 40) (hQ : (0 ≤ s9 ∧ s9 ≤ 303) ∧ 0 ≤ v9 ∧ v9 ≤ mv) : Ct g yX11_value (.code yX11_value cX11_value 3 (some .int)) 3 0 0 [vR 200, vI s9, vI v9] h (Rt (some (vI (mm (304 * v9 + s9)))) (hput h 200 (oO 10 [vR 201, vR 202, vR 203, vR 204, vR 205, vR 206, vR 207, vR 208, vR 209, vR 210, vR 211, vR 212, vR 213, vR 214, vR 215, vR 216, vR 217, vR 218, vI mv, vI mrc, vI mmc, vI mmk, vI mdv, vI mwl, vI mwa, vI mwp, vI 0]))) := by
  refine Ct.of (by decide) (Nat.le_of_ble_eq_true rfl) (fun x hg C F => ?_)
  subst hg
  show T x 0 [(0, vR 200), (1, vI s9), (2, vI v9)] [] h 0 0
  refine st_aload_n C 0 dX11_value_0 rfl rfl ?_
  refine st_iload_n C 1 dX11_value_1 rfl rfl ?_
  have b_2 : 0 ≤ s9 ∧ s9 ≤ 303 := by omega
  refine st_callS (st := [vR 200]) C dX11_value_2 [vI s9] (k_mSpot_t (v9 := s9)  b_2) w_X11_139 rfl (by decide) (by decide) (by omega) (by omega) (Nat.le_of_ble_eq_true rfl) (ko_rt ?_)
  show T x 5 [(0, vR 200), (1, vI s9), (2, vI v9)] [vI 1, vR 200] _ _ _
  refine st_if_eq (tgt := 24) C dX11_value_5 (by decide) (fun c_5 => by omega) (fun c_5 => ?_)
  refine st_iload_n C 2 dX11_value_8 rfl rfl ?_
  refine st_iconst C dX11_value_9 (by decide) ?_
  refine st_aload_n C 0 dX11_value_10 rfl rfl ?_
  refine st_getf C dX11_value_11 fl_X11_72 hm rfl ?_
  have b_14 : 0 ≤ v9 ∧ v9 ≤ mv := by omega
  refine st_callS (st := [vR 200]) C dX11_value_14 [vI v9, vI 0, vI mv] (k_isIn_t (v9 := v9) (l9 := 0) (u9 := mv)  b_14) w_X11_75 rfl (by decide) (by decide) (by omega) (by omega) (Nat.le_of_ble_eq_true rfl) (ko_rt ?_)
  show T x 17 [(0, vR 200), (1, vI s9), (2, vI v9)] [vI 1, vR 200] _ _ _
  refine st_if_eq (tgt := 24) C dX11_value_17 (by decide) (fun c_17 => by omega) (fun c_17 => ?_)
  refine st_iconst C dX11_value_20 (by decide) ?_
  refine st_goto (tgt := 25) C dX11_value_21 (by decide) ?_
  refine st_iconst C dX11_value_25 (by decide) ?_
  refine st_callV (st := []) C dX11_value_26 [vI 1, vI 1] (k_no_t (p9 := 1) hm) hm w_X11_112 rfl (by decide) (by decide) (by omega) (by omega) (Nat.le_of_ble_eq_true rfl) (ko_rt ?_)
  show T x 29 [(0, vR 200), (1, vI s9), (2, vI v9)] [vI 0] (hput h 200 (oO 10 [vR 201, vR 202, vR 203, vR 204, vR 205, vR 206, vR 207, vR 208, vR 209, vR 210, vR 211, vR 212, vR 213, vR 214, vR 215, vR 216, vR 217, vR 218, vI mv, vI mrc, vI mmc, vI mmk, vI mdv, vI mwl, vI mwa, vI mwp, vI 0])) _ _
  refine st_if_eq (tgt := 36) C dX11_value_29 (by decide) (fun c_29 => ?_) (fun c_29 => by omega)
  refine st_aload_n C 0 dX11_value_36 rfl rfl ?_
  refine st_getf C dX11_value_37 fl_X11_7 hput_s rfl ?_
  refine st_sipush C dX11_value_40 (by decide) (by decide) ?_
  refine st_iload_n C 2 dX11_value_43 rfl rfl ?_
  refine st_imul C dX11_value_44 ⟨(by omega), (by omega)⟩ ?_
  refine st_iload_n C 1 dX11_value_45 rfl rfl ?_
  refine st_iadd C dX11_value_46 ⟨(by omega), (by omega)⟩ ?_
  refine st_iald C dX11_value_47 (hput_o (by omega) hmm) (by omega) (by omega) ?_
  exact st_ireturn C F dX11_value_48 rfl (by first | exact ⟨by with_reducible rfl, by with_reducible rfl⟩ | (exfalso; omega)) (by omega) (by omega)
set_option maxRecDepth 20000 in
set_option maxHeartbeats 4000000 in
theorem m_changes_x1 {g : Gx} {h : HP} {mv mrc mmc mmk mdv mwl mwa mwp mth : Int} {mm : Int → Int} {s9 : Int} (hm : mO h mv mrc mmc mmk mdv mwl mwa mwp mth) (hmm : h 201 = some (oI 12464 mm)) (hv : 0 ≤ mv ∧ mv ≤ 40) (hQ : ¬ (0 ≤ s9 ∧ s9 ≤ 303)) : Ct g yX11_changes (.code yX11_changes cX11_changes 2 (some .int)) 3 0 0 [vR 200, vI s9] h (Rt (some (vI 0)) (hput h 200 (oO 10 [vR 201, vR 202, vR 203, vR 204, vR 205, vR 206, vR 207, vR 208, vR 209, vR 210, vR 211, vR 212, vR 213, vR 214, vR 215, vR 216, vR 217, vR 218, vI mv, vI mrc, vI mmc, vI mmk, vI mdv, vI mwl, vI mwa, vI mwp, vI 1]))) := by
  refine Ct.of (by decide) (Nat.le_of_ble_eq_true rfl) (fun x hg C F => ?_)
  subst hg
  show T x 0 [(0, vR 200), (1, vI s9)] [] h 0 0
  refine st_aload_n C 0 dX11_changes_0 rfl rfl ?_
  refine st_iload_n C 1 dX11_changes_1 rfl rfl ?_
  by_cases b_2 : 0 ≤ s9 ∧ s9 ≤ 303
  · refine st_callS (st := [vR 200]) C dX11_changes_2 [vI s9] (k_mSpot_t (v9 := s9)  b_2) w_X11_139 rfl (by decide) (by decide) (by omega) (by omega) (Nat.le_of_ble_eq_true rfl) (ko_rt ?_)
    show T x 5 [(0, vR 200), (1, vI s9)] [vI 1, vR 200] _ _ _
    refine st_iconst C dX11_changes_5 (by decide) ?_
    exfalso; omega
  · refine st_callS (st := [vR 200]) C dX11_changes_2 [vI s9] (k_mSpot_f (v9 := s9)  b_2) w_X11_139 rfl (by decide) (by decide) (by omega) (by omega) (Nat.le_of_ble_eq_true rfl) (ko_rt ?_)
    show T x 5 [(0, vR 200), (1, vI s9)] [vI 0, vR 200] _ _ _
    refine st_iconst C dX11_changes_5 (by decide) ?_
    refine st_callV (st := []) C dX11_changes_6 [vI 0, vI 1] (k_no_f (p9 := 1) hm) hm w_X11_112 rfl (by decide) (by decide) (by omega) (by omega) (Nat.le_of_ble_eq_true rfl) (ko_rt ?_)
    show T x 9 [(0, vR 200), (1, vI s9)] [vI 1] (hput h 200 (oO 10 [vR 201, vR 202, vR 203, vR 204, vR 205, vR 206, vR 207, vR 208, vR 209, vR 210, vR 211, vR 212, vR 213, vR 214, vR 215, vR 216, vR 217, vR 218, vI mv, vI mrc, vI mmc, vI mmk, vI mdv, vI mwl, vI mwa, vI mwp, vI 1])) _ _
    refine st_if_eq (tgt := 16) C dX11_changes_9 (by decide) (fun c_9 => by omega) (fun c_9 => ?_)
    refine st_iconst C dX11_changes_12 (by decide) ?_
    refine st_goto (tgt := 21) C dX11_changes_13 (by decide) ?_
    exact st_ireturn C F dX11_changes_21 rfl (by first | (exfalso; omega) | exact ⟨by with_reducible rfl, by with_reducible rfl⟩) (by omega) (by omega)
set_option maxRecDepth 20000 in
set_option maxHeartbeats 4000000 in
theorem m_changes {g : Gx} {h : HP} {mv mrc mmc mmk mdv mwl mwa mwp mth : Int} {mm : Int → Int} {s9 : Int} (hm : mO h mv mrc mmc mmk mdv mwl mwa mwp mth) (hmm : h 201 = some (oI 12464 mm)) (hv : 0 ≤ mv ∧ mv ≤ 40) (hQ : 0 ≤ s9 ∧ s9 ≤ 303) : Ct g yX11_changes (.code yX11_changes cX11_changes 2 (some .int)) 3 0 0 [vR 200, vI s9] h (Rt (some (vI (cnt (fun j => mm (304 * (j + 1) + s9) ≠ mm (304 * (j + 1 - 1) + s9)) mv))) (hput h 200 (oO 10 [vR 201, vR 202, vR 203, vR 204, vR 205, vR 206, vR 207, vR 208, vR 209, vR 210, vR 211, vR 212, vR 213, vR 214, vR 215, vR 216, vR 217, vR 218, vI mv, vI mrc, vI mmc, vI mmk, vI mdv, vI mwl, vI mwa, vI mwp, vI 0]))) := by
  refine Ct.of (by decide) (Nat.le_of_ble_eq_true rfl) (fun x hg C F => ?_)
  subst hg
  show T x 0 [(0, vR 200), (1, vI s9)] [] h 0 0
  refine st_aload_n C 0 dX11_changes_0 rfl rfl ?_
  refine st_iload_n C 1 dX11_changes_1 rfl rfl ?_
  have b_2 : 0 ≤ s9 ∧ s9 ≤ 303 := by omega
  refine st_callS (st := [vR 200]) C dX11_changes_2 [vI s9] (k_mSpot_t (v9 := s9)  b_2) w_X11_139 rfl (by decide) (by decide) (by omega) (by omega) (Nat.le_of_ble_eq_true rfl) (ko_rt ?_)
  show T x 5 [(0, vR 200), (1, vI s9)] [vI 1, vR 200] _ _ _
  refine st_iconst C dX11_changes_5 (by decide) ?_
  refine st_callV (st := []) C dX11_changes_6 [vI 1, vI 1] (k_no_t (p9 := 1) hm) hm w_X11_112 rfl (by decide) (by decide) (by omega) (by omega) (Nat.le_of_ble_eq_true rfl) (ko_rt ?_)
  show T x 9 [(0, vR 200), (1, vI s9)] [vI 0] (hput h 200 (oO 10 [vR 201, vR 202, vR 203, vR 204, vR 205, vR 206, vR 207, vR 208, vR 209, vR 210, vR 211, vR 212, vR 213, vR 214, vR 215, vR 216, vR 217, vR 218, vI mv, vI mrc, vI mmc, vI mmk, vI mdv, vI mwl, vI mwa, vI mwp, vI 0])) _ _
  refine st_if_eq (tgt := 16) C dX11_changes_9 (by decide) (fun c_9 => ?_) (fun c_9 => by omega)
  refine st_aload_n C 0 dX11_changes_16 rfl rfl ?_
  refine st_iload_n C 1 dX11_changes_17 rfl rfl ?_
  refine st_callV (st := []) C dX11_changes_18 [vI s9] (k_changesOf (s9 := s9) hput_s (hput_o (by omega) hmm) hv (by omega)) hput_s w_X11_171 rfl (by decide) (by decide) (by omega) (by omega) (Nat.le_of_ble_eq_true rfl) (ko_rt ?_)
  show T x 21 [(0, vR 200), (1, vI s9)] [vI (cnt (fun j => mm (304 * (j + 1) + s9) ≠ mm (304 * (j + 1 - 1) + s9)) mv)] _ _ _
  exact st_ireturn C F dX11_changes_21 rfl (by first | exact ⟨by with_reducible rfl, by with_reducible rfl⟩ | (exfalso; omega)) (by omega) (by omega)
set_option maxRecDepth 20000 in
set_option maxHeartbeats 4000000 in
theorem m_changed_x1 {g : Gx} {h : HP} {mv mrc mmc mmk mdv mwl mwa mwp mth : Int} {mm : Int → Int} {s9 k9 : Int} (hm : mO h mv mrc mmc mmk mdv mwl mwa mwp mth) (hmm : h 201 = some (oI 12464 mm)) (hv : 0 ≤ mv ∧ mv ≤ 40) (hQ : ¬ (0 ≤ s9 ∧ s9 ≤ 303)) : Ct g yX11_changed (.code yX11_changed cX11_changed 5 (some .int)) 3 0 0 [vR 200, vI s9, vI k9] h (Rt (some (vI 0)) (hput h 200 (oO 10 [vR 201, vR 202, vR 203, vR 204, vR 205, vR 206, vR 207, vR 208, vR 209, vR 210, vR 211, vR 212, vR 213, vR 214, vR 215, vR 216, vR 217, vR 218, vI mv, vI mrc, vI mmc, vI mmk, vI mdv, vI mwl, vI mwa, vI mwp, vI 1]))) := by
  refine Ct.of (by decide) (Nat.le_of_ble_eq_true rfl) (fun x hg C F => ?_)
  subst hg
  show T x 0 [(0, vR 200), (1, vI s9), (2, vI k9)] [] h 0 0
  refine st_aload_n C 0 dX11_changed_0 rfl rfl ?_
  refine st_iload_n C 1 dX11_changed_1 rfl rfl ?_
  by_cases b_2 : 0 ≤ s9 ∧ s9 ≤ 303
  · refine st_callS (st := [vR 200]) C dX11_changed_2 [vI s9] (k_mSpot_t (v9 := s9)  b_2) w_X11_139 rfl (by decide) (by decide) (by omega) (by omega) (Nat.le_of_ble_eq_true rfl) (ko_rt ?_)
    show T x 5 [(0, vR 200), (1, vI s9), (2, vI k9)] [vI 1, vR 200] _ _ _
    refine st_iconst C dX11_changed_5 (by decide) ?_
    exfalso; omega
  · refine st_callS (st := [vR 200]) C dX11_changed_2 [vI s9] (k_mSpot_f (v9 := s9)  b_2) w_X11_139 rfl (by decide) (by decide) (by omega) (by omega) (Nat.le_of_ble_eq_true rfl) (ko_rt ?_)
    show T x 5 [(0, vR 200), (1, vI s9), (2, vI k9)] [vI 0, vR 200] _ _ _
    refine st_iconst C dX11_changed_5 (by decide) ?_
    refine st_callV (st := []) C dX11_changed_6 [vI 0, vI 1] (k_no_f (p9 := 1) hm) hm w_X11_112 rfl (by decide) (by decide) (by omega) (by omega) (Nat.le_of_ble_eq_true rfl) (ko_rt ?_)
    show T x 9 [(0, vR 200), (1, vI s9), (2, vI k9)] [vI 1] (hput h 200 (oO 10 [vR 201, vR 202, vR 203, vR 204, vR 205, vR 206, vR 207, vR 208, vR 209, vR 210, vR 211, vR 212, vR 213, vR 214, vR 215, vR 216, vR 217, vR 218, vI mv, vI mrc, vI mmc, vI mmk, vI mdv, vI mwl, vI mwa, vI mwp, vI 1])) _ _
    refine st_if_ne (tgt := 32) C dX11_changed_9 (by decide) (fun c_9 => ?_) (fun c_9 => by omega)
    refine st_iconst C dX11_changed_32 (by decide) ?_
    exact st_ireturn C F dX11_changed_33 rfl (by first | (exfalso; omega) | exact ⟨by with_reducible rfl, by with_reducible rfl⟩) (by omega) (by omega)
set_option maxRecDepth 20000 in
set_option maxHeartbeats 4000000 in
theorem m_changed_x2 {g : Gx} {h : HP} {mv mrc mmc mmk mdv mwl mwa mwp mth : Int} {mm : Int → Int} {s9 k9 : Int} (hm : mO h mv mrc mmc mmk mdv mwl mwa mwp mth) (hmm : h 201 = some (oI 12464 mm)) (hv : 0 ≤ mv ∧ mv ≤ 40) (hQ : 0 ≤ s9 ∧ s9 ≤ 303) (hk : ¬ (0 ≤ k9 ∧ k9 ≤ cnt (fun j => mm (304 * (j + 1) + s9) ≠ mm (304 * (j + 1 - 1) + s9)) mv - 1)) : Ct g yX11_changed (.code yX11_changed cX11_changed 5 (some .int)) 3 0 0 [vR 200, vI s9, vI k9] h (Rt (some (vI 0)) (hput (hput h 200 (oO 10 [vR 201, vR 202, vR 203, vR 204, vR 205, vR 206, vR 207, vR 208, vR 209, vR 210, vR 211, vR 212, vR 213, vR 214, vR 215, vR 216, vR 217, vR 218, vI mv, vI mrc, vI mmc, vI mmk, vI mdv, vI mwl, vI mwa, vI mwp, vI 0])) 200 (oO 10 [vR 201, vR 202, vR 203, vR 204, vR 205, vR 206, vR 207, vR 208, vR 209, vR 210, vR 211, vR 212, vR 213, vR 214, vR 215, vR 216, vR 217, vR 218, vI mv, vI mrc, vI mmc, vI mmk, vI mdv, vI mwl, vI mwa, vI mwp, vI 2]))) := by
  refine Ct.of (by decide) (Nat.le_of_ble_eq_true rfl) (fun x hg C F => ?_)
  subst hg
  have hcn := cnt_in (fun j => mm (304 * (j + 1) + s9) ≠ mm (304 * (j + 1 - 1) + s9)) hv.1
  show T x 0 [(0, vR 200), (1, vI s9), (2, vI k9)] [] h 0 0
  refine st_aload_n C 0 dX11_changed_0 rfl rfl ?_
  refine st_iload_n C 1 dX11_changed_1 rfl rfl ?_
  have b_2 : 0 ≤ s9 ∧ s9 ≤ 303 := by omega
  refine st_callS (st := [vR 200]) C dX11_changed_2 [vI s9] (k_mSpot_t (v9 := s9)  b_2) w_X11_139 rfl (by decide) (by decide) (by omega) (by omega) (Nat.le_of_ble_eq_true rfl) (ko_rt ?_)
  show T x 5 [(0, vR 200), (1, vI s9), (2, vI k9)] [vI 1, vR 200] _ _ _
  refine st_iconst C dX11_changed_5 (by decide) ?_
  refine st_callV (st := []) C dX11_changed_6 [vI 1, vI 1] (k_no_t (p9 := 1) hm) hm w_X11_112 rfl (by decide) (by decide) (by omega) (by omega) (Nat.le_of_ble_eq_true rfl) (ko_rt ?_)
  show T x 9 [(0, vR 200), (1, vI s9), (2, vI k9)] [vI 0] (hput h 200 (oO 10 [vR 201, vR 202, vR 203, vR 204, vR 205, vR 206, vR 207, vR 208, vR 209, vR 210, vR 211, vR 212, vR 213, vR 214, vR 215, vR 216, vR 217, vR 218, vI mv, vI mrc, vI mmc, vI mmk, vI mdv, vI mwl, vI mwa, vI mwp, vI 0])) _ _
  refine st_if_ne (tgt := 32) C dX11_changed_9 (by decide) (fun c_9 => by omega) (fun c_9 => ?_)
  refine st_aload_n C 0 dX11_changed_12 rfl rfl ?_
  refine st_iload_n C 2 dX11_changed_13 rfl rfl ?_
  refine st_iconst C dX11_changed_14 (by decide) ?_
  refine st_aload_n C 0 dX11_changed_15 rfl rfl ?_
  refine st_iload_n C 1 dX11_changed_16 rfl rfl ?_
  refine st_callV (st := [vI 0, vI k9, vR 200]) C dX11_changed_17 [vI s9] (k_changesOf (s9 := s9) hput_s (hput_o (by omega) hmm) hv (by omega)) hput_s w_X11_171 rfl (by decide) (by decide) (by omega) (by omega) (Nat.le_of_ble_eq_true rfl) (ko_rt ?_)
  show T x 20 [(0, vR 200), (1, vI s9), (2, vI k9)] [vI (cnt (fun j => mm (304 * (j + 1) + s9) ≠ mm (304 * (j + 1 - 1) + s9)) mv), vI 0, vI k9, vR 200] _ _ _
  refine st_iconst C dX11_changed_20 (by decide) ?_
  refine st_isub C dX11_changed_21 ⟨(by omega), (by omega)⟩ ?_
  by_cases b_22 : 0 ≤ k9 ∧ k9 ≤ (cnt (fun j => mm (304 * (j + 1) + s9) ≠ mm (304 * (j + 1 - 1) + s9)) mv - 1)
  · refine st_callS (st := [vR 200]) C dX11_changed_22 [vI k9, vI 0, vI (cnt (fun j => mm (304 * (j + 1) + s9) ≠ mm (304 * (j + 1 - 1) + s9)) mv - 1)] (k_isIn_t (v9 := k9) (l9 := 0) (u9 := (cnt (fun j => mm (304 * (j + 1) + s9) ≠ mm (304 * (j + 1 - 1) + s9)) mv - 1))  b_22) w_X11_75 rfl (by decide) (by decide) (by omega) (by omega) (Nat.le_of_ble_eq_true rfl) (ko_rt ?_)
    show T x 25 [(0, vR 200), (1, vI s9), (2, vI k9)] [vI 1, vR 200] _ _ _
    refine st_iconst C dX11_changed_25 (by decide) ?_
    exact absurd (by assumption) hk
  · refine st_callS (st := [vR 200]) C dX11_changed_22 [vI k9, vI 0, vI (cnt (fun j => mm (304 * (j + 1) + s9) ≠ mm (304 * (j + 1 - 1) + s9)) mv - 1)] (k_isIn_f (v9 := k9) (l9 := 0) (u9 := (cnt (fun j => mm (304 * (j + 1) + s9) ≠ mm (304 * (j + 1 - 1) + s9)) mv - 1))  b_22) w_X11_75 rfl (by decide) (by decide) (by omega) (by omega) (Nat.le_of_ble_eq_true rfl) (ko_rt ?_)
    show T x 25 [(0, vR 200), (1, vI s9), (2, vI k9)] [vI 0, vR 200] _ _ _
    refine st_iconst C dX11_changed_25 (by decide) ?_
    refine st_callV (st := []) C dX11_changed_26 [vI 0, vI 2] (k_no_f (p9 := 2) hput_s) hput_s w_X11_112 rfl (by decide) (by decide) (by omega) (by omega) (Nat.le_of_ble_eq_true rfl) (ko_rt ?_)
    show T x 29 [(0, vR 200), (1, vI s9), (2, vI k9)] [vI 1] (hput (hput h 200 (oO 10 [vR 201, vR 202, vR 203, vR 204, vR 205, vR 206, vR 207, vR 208, vR 209, vR 210, vR 211, vR 212, vR 213, vR 214, vR 215, vR 216, vR 217, vR 218, vI mv, vI mrc, vI mmc, vI mmk, vI mdv, vI mwl, vI mwa, vI mwp, vI 0])) 200 (oO 10 [vR 201, vR 202, vR 203, vR 204, vR 205, vR 206, vR 207, vR 208, vR 209, vR 210, vR 211, vR 212, vR 213, vR 214, vR 215, vR 216, vR 217, vR 218, vI mv, vI mrc, vI mmc, vI mmk, vI mdv, vI mwl, vI mwa, vI mwp, vI 2])) _ _
    refine st_if_eq (tgt := 34) C dX11_changed_29 (by decide) (fun c_29 => by omega) (fun c_29 => ?_)
    refine st_iconst C dX11_changed_32 (by decide) ?_
    exact st_ireturn C F dX11_changed_33 rfl (by first | exact absurd (by assumption) hk | exact ⟨by with_reducible rfl, by with_reducible rfl⟩) (by omega) (by omega)
set_option maxRecDepth 20000 in
set_option maxHeartbeats 4000000 in
theorem m_changed {g : Gx} {h : HP} {mv mrc mmc mmk mdv mwl mwa mwp mth : Int} {mm : Int → Int} {s9 k9 r9 : Int} (hm : mO h mv mrc mmc mmk mdv mwl mwa mwp mth) (hmm : h 201 = some (oI 12464 mm)) (hv : 0 ≤ mv ∧ mv ≤ 40) (hQ : 0 ≤ s9 ∧ s9 ≤ 303) (hk : 0 ≤ k9 ∧ k9 ≤ cnt (fun j => mm (304 * (j + 1) + s9) ≠ mm (304 * (j + 1 - 1) + s9)) mv - 1) (h0 : 0 ≤ r9 ∧ r9 < mv) (hr : k9 ≤ 304 ∧ (fun j => mm (304 * (j + 1) + s9) ≠ mm (304 * (j + 1 - 1) + s9)) r9 ∧ cnt (fun j => mm (304 * (j + 1) + s9) ≠ mm (304 * (j + 1 - 1) + s9)) r9 = k9) : Ct g yX11_changed (.code yX11_changed cX11_changed 5 (some .int)) 3 0 0 [vR 200, vI s9, vI k9] h (Rt (some (vI (r9 + 1))) (hput (hput h 200 (oO 10 [vR 201, vR 202, vR 203, vR 204, vR 205, vR 206, vR 207, vR 208, vR 209, vR 210, vR 211, vR 212, vR 213, vR 214, vR 215, vR 216, vR 217, vR 218, vI mv, vI mrc, vI mmc, vI mmk, vI mdv, vI mwl, vI mwa, vI mwp, vI 0])) 200 (oO 10 [vR 201, vR 202, vR 203, vR 204, vR 205, vR 206, vR 207, vR 208, vR 209, vR 210, vR 211, vR 212, vR 213, vR 214, vR 215, vR 216, vR 217, vR 218, vI mv, vI mrc, vI mmc, vI mmk, vI mdv, vI mwl, vI mwa, vI mwp, vI 0]))) := by
  refine Ct.of (by decide) (Nat.le_of_ble_eq_true rfl) (fun x hg C F => ?_)
  subst hg
  have hcn := cnt_in (fun j => mm (304 * (j + 1) + s9) ≠ mm (304 * (j + 1 - 1) + s9)) hv.1
  show T x 0 [(0, vR 200), (1, vI s9), (2, vI k9)] [] h 0 0
  refine st_aload_n C 0 dX11_changed_0 rfl rfl ?_
  refine st_iload_n C 1 dX11_changed_1 rfl rfl ?_
  have b_2 : 0 ≤ s9 ∧ s9 ≤ 303 := by omega
  refine st_callS (st := [vR 200]) C dX11_changed_2 [vI s9] (k_mSpot_t (v9 := s9)  b_2) w_X11_139 rfl (by decide) (by decide) (by omega) (by omega) (Nat.le_of_ble_eq_true rfl) (ko_rt ?_)
  show T x 5 [(0, vR 200), (1, vI s9), (2, vI k9)] [vI 1, vR 200] _ _ _
  refine st_iconst C dX11_changed_5 (by decide) ?_
  refine st_callV (st := []) C dX11_changed_6 [vI 1, vI 1] (k_no_t (p9 := 1) hm) hm w_X11_112 rfl (by decide) (by decide) (by omega) (by omega) (Nat.le_of_ble_eq_true rfl) (ko_rt ?_)
  show T x 9 [(0, vR 200), (1, vI s9), (2, vI k9)] [vI 0] (hput h 200 (oO 10 [vR 201, vR 202, vR 203, vR 204, vR 205, vR 206, vR 207, vR 208, vR 209, vR 210, vR 211, vR 212, vR 213, vR 214, vR 215, vR 216, vR 217, vR 218, vI mv, vI mrc, vI mmc, vI mmk, vI mdv, vI mwl, vI mwa, vI mwp, vI 0])) _ _
  refine st_if_ne (tgt := 32) C dX11_changed_9 (by decide) (fun c_9 => by omega) (fun c_9 => ?_)
  refine st_aload_n C 0 dX11_changed_12 rfl rfl ?_
  refine st_iload_n C 2 dX11_changed_13 rfl rfl ?_
  refine st_iconst C dX11_changed_14 (by decide) ?_
  refine st_aload_n C 0 dX11_changed_15 rfl rfl ?_
  refine st_iload_n C 1 dX11_changed_16 rfl rfl ?_
  refine st_callV (st := [vI 0, vI k9, vR 200]) C dX11_changed_17 [vI s9] (k_changesOf (s9 := s9) hput_s (hput_o (by omega) hmm) hv (by omega)) hput_s w_X11_171 rfl (by decide) (by decide) (by omega) (by omega) (Nat.le_of_ble_eq_true rfl) (ko_rt ?_)
  show T x 20 [(0, vR 200), (1, vI s9), (2, vI k9)] [vI (cnt (fun j => mm (304 * (j + 1) + s9) ≠ mm (304 * (j + 1 - 1) + s9)) mv), vI 0, vI k9, vR 200] _ _ _
  refine st_iconst C dX11_changed_20 (by decide) ?_
  refine st_isub C dX11_changed_21 ⟨(by omega), (by omega)⟩ ?_
  by_cases b_22 : 0 ≤ k9 ∧ k9 ≤ (cnt (fun j => mm (304 * (j + 1) + s9) ≠ mm (304 * (j + 1 - 1) + s9)) mv - 1)
  · refine st_callS (st := [vR 200]) C dX11_changed_22 [vI k9, vI 0, vI (cnt (fun j => mm (304 * (j + 1) + s9) ≠ mm (304 * (j + 1 - 1) + s9)) mv - 1)] (k_isIn_t (v9 := k9) (l9 := 0) (u9 := (cnt (fun j => mm (304 * (j + 1) + s9) ≠ mm (304 * (j + 1 - 1) + s9)) mv - 1))  b_22) w_X11_75 rfl (by decide) (by decide) (by omega) (by omega) (Nat.le_of_ble_eq_true rfl) (ko_rt ?_)
    show T x 25 [(0, vR 200), (1, vI s9), (2, vI k9)] [vI 1, vR 200] _ _ _
    refine st_iconst C dX11_changed_25 (by decide) ?_
    refine st_callV (st := []) C dX11_changed_26 [vI 1, vI 2] (k_no_t (p9 := 2) hput_s) hput_s w_X11_112 rfl (by decide) (by decide) (by omega) (by omega) (Nat.le_of_ble_eq_true rfl) (ko_rt ?_)
    show T x 29 [(0, vR 200), (1, vI s9), (2, vI k9)] [vI 0] (hput (hput h 200 (oO 10 [vR 201, vR 202, vR 203, vR 204, vR 205, vR 206, vR 207, vR 208, vR 209, vR 210, vR 211, vR 212, vR 213, vR 214, vR 215, vR 216, vR 217, vR 218, vI mv, vI mrc, vI mmc, vI mmk, vI mdv, vI mwl, vI mwa, vI mwp, vI 0])) 200 (oO 10 [vR 201, vR 202, vR 203, vR 204, vR 205, vR 206, vR 207, vR 208, vR 209, vR 210, vR 211, vR 212, vR 213, vR 214, vR 215, vR 216, vR 217, vR 218, vI mv, vI mrc, vI mmc, vI mmk, vI mdv, vI mwl, vI mwa, vI mwp, vI 0])) _ _
    refine st_if_eq (tgt := 34) C dX11_changed_29 (by decide) (fun c_29 => ?_) (fun c_29 => by omega)
    refine st_iload_n C 2 dX11_changed_34 rfl rfl ?_
    refine st_istore_n C 3 dX11_changed_35 rfl (by decide) rfl ?_
    show T x 36 [(0, vR 200), (1, vI s9), (2, vI k9), (3, vI k9)] [] _ _ _
    refine st_iconst C dX11_changed_36 (by decide) ?_
    refine st_istore C dX11_changed_37 (by decide) rfl ?_
    show T x 39 [(0, vR 200), (1, vI s9), (2, vI k9), (3, vI k9), (4, vI 1)] [] _ _ _
    have loop_39 : ∀ (n_39 : Nat) (l1 : Int) (i : Int), (NWay (fun j => mm (304 * (j + 1) + s9) ≠ mm (304 * (j + 1 - 1) + s9)) k9 r9 (i - 1) l1) → (r9 + 1 - i).toNat < n_39 → T x 39 [(0, vR 200), (1, vI s9), (2, vI k9), (3, vI l1), (4, vI i)] [] (hput (hput h 200 (oO 10 [vR 201, vR 202, vR 203, vR 204, vR 205, vR 206, vR 207, vR 208, vR 209, vR 210, vR 211, vR 212, vR 213, vR 214, vR 215, vR 216, vR 217, vR 218, vI mv, vI mrc, vI mmc, vI mmk, vI mdv, vI mwl, vI mwa, vI mwp, vI 0])) 200 (oO 10 [vR 201, vR 202, vR 203, vR 204, vR 205, vR 206, vR 207, vR 208, vR 209, vR 210, vR 211, vR 212, vR 213, vR 214, vR 215, vR 216, vR 217, vR 218, vI mv, vI mrc, vI mmc, vI mmk, vI mdv, vI mwl, vI mwa, vI mwp, vI 0])) 0 0 := by
      intro n_39
      induction n_39 with
      | zero => intro l1 i g1 hm_39; exact absurd hm_39 (Nat.not_lt_zero _)
      | succ n_39 ih_39 =>
        intro l1 i g1 hm_39
        have g2 := g1.1
        have g3 := g1.2.1
        have g4 := g1.2.2.1
        have g5 := cnt_in (fun j => mm (304 * (j + 1) + s9) ≠ mm (304 * (j + 1 - 1) + s9)) g2
        have g6 := g1.2.2.2
        have g7 : i ≤ mv := by omega
        have g8 : l1 ≤ k9 := by omega
        have ef : (mm (304 * (i - 1 + 1) + s9) ≠ mm (304 * (i - 1 + 1 - 1) + s9)) = (mm (304 * i + s9) ≠ mm (304 * (i - 1) + s9)) := by rw [Int.sub_add_cancel]
        refine st_aload_n C 0 dX11_changed_39 rfl rfl ?_
        refine st_iload_n C 1 dX11_changed_40 rfl rfl ?_
        refine st_iload C dX11_changed_41 rfl ?_
        by_cases b_43 : mm (304 * i + s9) ≠ mm (304 * (i - 1) + s9)
        · refine st_callV (st := []) C dX11_changed_43 [vI s9, vI i] (k_isChange_t (mm := mm) (s9 := s9) (o9 := i) hput_s (hput_o (by omega) (hput_o (by omega) hmm)) (by omega) (by omega) b_43) hput_s w_X11_168 rfl (by decide) (by decide) (by omega) (by omega) (Nat.le_of_ble_eq_true rfl) (ko_rt ?_)
          show T x 46 [(0, vR 200), (1, vI s9), (2, vI k9), (3, vI l1), (4, vI i)] [vI 1] _ _ _
          refine st_if_eq (tgt := 53) C dX11_changed_46 (by decide) (fun c_46 => by omega) (fun c_46 => ?_)
          refine st_iload_n C 3 dX11_changed_49 rfl rfl ?_
          refine st_if_le (tgt := 77) C dX11_changed_50 (by decide) (fun c_50 => ?_) (fun c_50 => ?_)
          · refine st_iload C dX11_changed_77 rfl ?_
            exact st_ireturn C F dX11_changed_79 rfl (by first | (exfalso; omega) | exact absurd hk (by assumption) | exact ⟨by have z := NWay_e g1 (ef.mpr (by assumption)) hr.2.2 (by omega); rw [show i = r9 + 1 by omega], by with_reducible rfl⟩) (by omega) (by omega)
          · refine st_iload_n C 3 dX11_changed_53 rfl rfl ?_
            refine st_aload_n C 0 dX11_changed_54 rfl rfl ?_
            refine st_iload_n C 1 dX11_changed_55 rfl rfl ?_
            refine st_iload C dX11_changed_56 rfl ?_
            by_cases b_58 : mm (304 * i + s9) ≠ mm (304 * (i - 1) + s9)
            · refine st_callV (st := [vI l1]) C dX11_changed_58 [vI s9, vI i] (k_isChange_t (mm := mm) (s9 := s9) (o9 := i) hput_s (hput_o (by omega) (hput_o (by omega) hmm)) (by omega) (by omega) b_58) hput_s w_X11_168 rfl (by decide) (by decide) (by omega) (by omega) (Nat.le_of_ble_eq_true rfl) (ko_rt ?_)
              show T x 61 [(0, vR 200), (1, vI s9), (2, vI k9), (3, vI l1), (4, vI i)] [vI 1, vI l1] _ _ _
              refine st_if_eq (tgt := 68) C dX11_changed_61 (by decide) (fun c_61 => by omega) (fun c_61 => ?_)
              refine st_iconst C dX11_changed_64 (by decide) ?_
              refine st_goto (tgt := 69) C dX11_changed_65 (by decide) ?_
              refine st_isub C dX11_changed_69 ⟨(by omega), (by omega)⟩ ?_
              refine st_istore_n C 3 dX11_changed_70 rfl (by decide) rfl ?_
              show T x 71 [(0, vR 200), (1, vI s9), (2, vI k9), (3, vI (l1 - 1)), (4, vI i)] [] _ _ _
              refine st_iinc C dX11_changed_71 rfl (by decide) rfl ⟨(by omega), (by omega)⟩ ?_
              show T x 74 [(0, vR 200), (1, vI s9), (2, vI k9), (3, vI (l1 - 1)), (4, vI (i + 1))] [] _ _ _
              refine st_goto (tgt := 39) C dX11_changed_74 (by decide) ?_
              exact ih_39 (l1 - 1) (i + 1) (by rw [show i + 1 - 1 = i - 1 + 1 by omega]; first | exact NWay_t g1 (ef.mpr (by assumption)) hr.2.1 hr.2.2 (by omega) | exact NWay_f g1 (fun z => absurd (ef.mp z) (by assumption)) hr.2.1 | exact absurd (by assumption) (by assumption)) (by first | omega | (have z := NWay_f g1 (fun z => absurd (ef.mp z) (by assumption)) hr.2.1; have z2 := z.2.1; omega) | (have z := NWay_t g1 (ef.mpr (by assumption)) hr.2.1 hr.2.2 (by omega); have z2 := z.2.1; omega))
            · refine st_callV (st := [vI l1]) C dX11_changed_58 [vI s9, vI i] (k_isChange_f (mm := mm) (s9 := s9) (o9 := i) hput_s (hput_o (by omega) (hput_o (by omega) hmm)) (by omega) (by omega) b_58) hput_s w_X11_168 rfl (by decide) (by decide) (by omega) (by omega) (Nat.le_of_ble_eq_true rfl) (ko_rt ?_)
              show T x 61 [(0, vR 200), (1, vI s9), (2, vI k9), (3, vI l1), (4, vI i)] [vI 0, vI l1] _ _ _
              refine st_if_eq (tgt := 68) C dX11_changed_61 (by decide) (fun c_61 => ?_) (fun c_61 => by omega)
              refine st_iconst C dX11_changed_68 (by decide) ?_
              refine st_isub C dX11_changed_69 ⟨(by omega), (by omega)⟩ ?_
              refine st_istore_n C 3 dX11_changed_70 rfl (by decide) rfl ?_
              show T x 71 [(0, vR 200), (1, vI s9), (2, vI k9), (3, vI (l1 - 0)), (4, vI i)] [] _ _ _
              refine st_iinc C dX11_changed_71 rfl (by decide) rfl ⟨(by omega), (by omega)⟩ ?_
              show T x 74 [(0, vR 200), (1, vI s9), (2, vI k9), (3, vI (l1 - 0)), (4, vI (i + 1))] [] _ _ _
              refine st_goto (tgt := 39) C dX11_changed_74 (by decide) ?_
              exact ih_39 (l1 - 0) (i + 1) (by rw [show i + 1 - 1 = i - 1 + 1 by omega]; first | exact NWay_t g1 (ef.mpr (by assumption)) hr.2.1 hr.2.2 (by omega) | exact NWay_f g1 (fun z => absurd (ef.mp z) (by assumption)) hr.2.1 | exact absurd (by assumption) (by assumption)) (by first | omega | (have z := NWay_f g1 (fun z => absurd (ef.mp z) (by assumption)) hr.2.1; have z2 := z.2.1; omega) | (have z := NWay_t g1 (ef.mpr (by assumption)) hr.2.1 hr.2.2 (by omega); have z2 := z.2.1; omega))
        · refine st_callV (st := []) C dX11_changed_43 [vI s9, vI i] (k_isChange_f (mm := mm) (s9 := s9) (o9 := i) hput_s (hput_o (by omega) (hput_o (by omega) hmm)) (by omega) (by omega) b_43) hput_s w_X11_168 rfl (by decide) (by decide) (by omega) (by omega) (Nat.le_of_ble_eq_true rfl) (ko_rt ?_)
          show T x 46 [(0, vR 200), (1, vI s9), (2, vI k9), (3, vI l1), (4, vI i)] [vI 0] _ _ _
          refine st_if_eq (tgt := 53) C dX11_changed_46 (by decide) (fun c_46 => ?_) (fun c_46 => by omega)
          refine st_iload_n C 3 dX11_changed_53 rfl rfl ?_
          refine st_aload_n C 0 dX11_changed_54 rfl rfl ?_
          refine st_iload_n C 1 dX11_changed_55 rfl rfl ?_
          refine st_iload C dX11_changed_56 rfl ?_
          by_cases b_58 : mm (304 * i + s9) ≠ mm (304 * (i - 1) + s9)
          · refine st_callV (st := [vI l1]) C dX11_changed_58 [vI s9, vI i] (k_isChange_t (mm := mm) (s9 := s9) (o9 := i) hput_s (hput_o (by omega) (hput_o (by omega) hmm)) (by omega) (by omega) b_58) hput_s w_X11_168 rfl (by decide) (by decide) (by omega) (by omega) (Nat.le_of_ble_eq_true rfl) (ko_rt ?_)
            show T x 61 [(0, vR 200), (1, vI s9), (2, vI k9), (3, vI l1), (4, vI i)] [vI 1, vI l1] _ _ _
            refine st_if_eq (tgt := 68) C dX11_changed_61 (by decide) (fun c_61 => by omega) (fun c_61 => ?_)
            refine st_iconst C dX11_changed_64 (by decide) ?_
            refine st_goto (tgt := 69) C dX11_changed_65 (by decide) ?_
            refine st_isub C dX11_changed_69 ⟨(by omega), (by omega)⟩ ?_
            refine st_istore_n C 3 dX11_changed_70 rfl (by decide) rfl ?_
            show T x 71 [(0, vR 200), (1, vI s9), (2, vI k9), (3, vI (l1 - 1)), (4, vI i)] [] _ _ _
            refine st_iinc C dX11_changed_71 rfl (by decide) rfl ⟨(by omega), (by omega)⟩ ?_
            show T x 74 [(0, vR 200), (1, vI s9), (2, vI k9), (3, vI (l1 - 1)), (4, vI (i + 1))] [] _ _ _
            refine st_goto (tgt := 39) C dX11_changed_74 (by decide) ?_
            exact ih_39 (l1 - 1) (i + 1) (by rw [show i + 1 - 1 = i - 1 + 1 by omega]; first | exact NWay_t g1 (ef.mpr (by assumption)) hr.2.1 hr.2.2 (by omega) | exact NWay_f g1 (fun z => absurd (ef.mp z) (by assumption)) hr.2.1 | exact absurd (by assumption) (by assumption)) (by first | omega | (have z := NWay_f g1 (fun z => absurd (ef.mp z) (by assumption)) hr.2.1; have z2 := z.2.1; omega) | (have z := NWay_t g1 (ef.mpr (by assumption)) hr.2.1 hr.2.2 (by omega); have z2 := z.2.1; omega))
          · refine st_callV (st := [vI l1]) C dX11_changed_58 [vI s9, vI i] (k_isChange_f (mm := mm) (s9 := s9) (o9 := i) hput_s (hput_o (by omega) (hput_o (by omega) hmm)) (by omega) (by omega) b_58) hput_s w_X11_168 rfl (by decide) (by decide) (by omega) (by omega) (Nat.le_of_ble_eq_true rfl) (ko_rt ?_)
            show T x 61 [(0, vR 200), (1, vI s9), (2, vI k9), (3, vI l1), (4, vI i)] [vI 0, vI l1] _ _ _
            refine st_if_eq (tgt := 68) C dX11_changed_61 (by decide) (fun c_61 => ?_) (fun c_61 => by omega)
            refine st_iconst C dX11_changed_68 (by decide) ?_
            refine st_isub C dX11_changed_69 ⟨(by omega), (by omega)⟩ ?_
            refine st_istore_n C 3 dX11_changed_70 rfl (by decide) rfl ?_
            show T x 71 [(0, vR 200), (1, vI s9), (2, vI k9), (3, vI (l1 - 0)), (4, vI i)] [] _ _ _
            refine st_iinc C dX11_changed_71 rfl (by decide) rfl ⟨(by omega), (by omega)⟩ ?_
            show T x 74 [(0, vR 200), (1, vI s9), (2, vI k9), (3, vI (l1 - 0)), (4, vI (i + 1))] [] _ _ _
            refine st_goto (tgt := 39) C dX11_changed_74 (by decide) ?_
            exact ih_39 (l1 - 0) (i + 1) (by rw [show i + 1 - 1 = i - 1 + 1 by omega]; first | exact NWay_t g1 (ef.mpr (by assumption)) hr.2.1 hr.2.2 (by omega) | exact NWay_f g1 (fun z => absurd (ef.mp z) (by assumption)) hr.2.1 | exact absurd (by assumption) (by assumption)) (by first | omega | (have z := NWay_f g1 (fun z => absurd (ef.mp z) (by assumption)) hr.2.1; have z2 := z.2.1; omega) | (have z := NWay_t g1 (ef.mpr (by assumption)) hr.2.1 hr.2.2 (by omega); have z2 := z.2.1; omega))
    exact loop_39 _ k9 1 (NWay_0 (by omega) (by omega)) (Nat.lt_succ_self _)
  · refine st_callS (st := [vR 200]) C dX11_changed_22 [vI k9, vI 0, vI (cnt (fun j => mm (304 * (j + 1) + s9) ≠ mm (304 * (j + 1 - 1) + s9)) mv - 1)] (k_isIn_f (v9 := k9) (l9 := 0) (u9 := (cnt (fun j => mm (304 * (j + 1) + s9) ≠ mm (304 * (j + 1 - 1) + s9)) mv - 1))  b_22) w_X11_75 rfl (by decide) (by decide) (by omega) (by omega) (Nat.le_of_ble_eq_true rfl) (ko_rt ?_)
    show T x 25 [(0, vR 200), (1, vI s9), (2, vI k9)] [vI 0, vR 200] _ _ _
    refine st_iconst C dX11_changed_25 (by decide) ?_
    refine st_callV (st := []) C dX11_changed_26 [vI 0, vI 2] (k_no_f (p9 := 2) hput_s) hput_s w_X11_112 rfl (by decide) (by decide) (by omega) (by omega) (Nat.le_of_ble_eq_true rfl) (ko_rt ?_)
    show T x 29 [(0, vR 200), (1, vI s9), (2, vI k9)] [vI 1] (hput (hput h 200 (oO 10 [vR 201, vR 202, vR 203, vR 204, vR 205, vR 206, vR 207, vR 208, vR 209, vR 210, vR 211, vR 212, vR 213, vR 214, vR 215, vR 216, vR 217, vR 218, vI mv, vI mrc, vI mmc, vI mmk, vI mdv, vI mwl, vI mwa, vI mwp, vI 0])) 200 (oO 10 [vR 201, vR 202, vR 203, vR 204, vR 205, vR 206, vR 207, vR 208, vR 209, vR 210, vR 211, vR 212, vR 213, vR 214, vR 215, vR 216, vR 217, vR 218, vI mv, vI mrc, vI mmc, vI mmk, vI mdv, vI mwl, vI mwa, vI mwp, vI 2])) _ _
    refine st_if_eq (tgt := 34) C dX11_changed_29 (by decide) (fun c_29 => by omega) (fun c_29 => ?_)
    refine st_iconst C dX11_changed_32 (by decide) ?_
    exact st_ireturn C F dX11_changed_33 rfl (by first | (exfalso; omega) | exact absurd hk (by assumption) | exact ⟨by have z := NWay_e g1 (ef.mpr (by assumption)) hr.2.2 (by omega); rw [show i = r9 + 1 by omega], by with_reducible rfl⟩) (by omega) (by omega)
set_option maxRecDepth 20000 in
set_option maxHeartbeats 4000000 in
theorem m_size_x1 {g : Gx} {h : HP} {mv mrc mmc mmk mdv mwl mwa mwp mth : Int} {mm : Int → Int} {l a9 : Int} (hm : mO h mv mrc mmc mmk mdv mwl mwa mwp mth) (hmm : h 201 = some (oI 12464 mm)) (hv : 0 ≤ mv ∧ mv ≤ 40) (hQ : ¬ ((0 ≤ l ∧ l ≤ 2) ∧ 1 ≤ a9 ∧ a9 ≤ 9)) : Ct g yX11_size_ (.code yX11_size_ cX11_size_ 3 (some .int)) 3 0 0 [vR 200, vI l, vI a9] h (Rt (some (vI 0)) (hput h 200 (oO 10 [vR 201, vR 202, vR 203, vR 204, vR 205, vR 206, vR 207, vR 208, vR 209, vR 210, vR 211, vR 212, vR 213, vR 214, vR 215, vR 216, vR 217, vR 218, vI mv, vI mrc, vI mmc, vI mmk, vI mdv, vI mwl, vI mwa, vI mwp, vI 1]))) := by
  refine Ct.of (by decide) (Nat.le_of_ble_eq_true rfl) (fun x hg C F => ?_)
  subst hg
  show T x 0 [(0, vR 200), (1, vI l), (2, vI a9)] [] h 0 0
  refine st_aload_n C 0 dX11_size__0 rfl rfl ?_
  refine st_iload_n C 1 dX11_size__1 rfl rfl ?_
  by_cases b_2 : 0 ≤ l ∧ l ≤ 2
  · refine st_callS (st := [vR 200]) C dX11_size__2 [vI l] (k_mLayer_t (v9 := l)  b_2) w_X11_108 rfl (by decide) (by decide) (by omega) (by omega) (Nat.le_of_ble_eq_true rfl) (ko_rt ?_)
    show T x 5 [(0, vR 200), (1, vI l), (2, vI a9)] [vI 1, vR 200] _ _ _
    refine st_if_eq (tgt := 22) C dX11_size__5 (by decide) (fun c_5 => by omega) (fun c_5 => ?_)
    refine st_iload_n C 2 dX11_size__8 rfl rfl ?_
    refine st_iconst C dX11_size__9 (by decide) ?_
    refine st_bipush C dX11_size__10 (by decide) (by decide) ?_
    by_cases b_12 : 1 ≤ a9 ∧ a9 ≤ 9
    · refine st_callS (st := [vR 200]) C dX11_size__12 [vI a9, vI 1, vI 9] (k_isIn_t (v9 := a9) (l9 := 1) (u9 := 9)  b_12) w_X11_75 rfl (by decide) (by decide) (by omega) (by omega) (Nat.le_of_ble_eq_true rfl) (ko_rt ?_)
      show T x 15 [(0, vR 200), (1, vI l), (2, vI a9)] [vI 1, vR 200] _ _ _
      refine st_if_eq (tgt := 22) C dX11_size__15 (by decide) (fun c_15 => by omega) (fun c_15 => ?_)
      refine st_iconst C dX11_size__18 (by decide) ?_
      refine st_goto (tgt := 23) C dX11_size__19 (by decide) ?_
      refine st_iconst C dX11_size__23 (by decide) ?_
      exfalso; omega
    · refine st_callS (st := [vR 200]) C dX11_size__12 [vI a9, vI 1, vI 9] (k_isIn_f (v9 := a9) (l9 := 1) (u9 := 9)  b_12) w_X11_75 rfl (by decide) (by decide) (by omega) (by omega) (Nat.le_of_ble_eq_true rfl) (ko_rt ?_)
      show T x 15 [(0, vR 200), (1, vI l), (2, vI a9)] [vI 0, vR 200] _ _ _
      refine st_if_eq (tgt := 22) C dX11_size__15 (by decide) (fun c_15 => ?_) (fun c_15 => by omega)
      refine st_iconst C dX11_size__22 (by decide) ?_
      refine st_iconst C dX11_size__23 (by decide) ?_
      refine st_callV (st := []) C dX11_size__24 [vI 0, vI 1] (k_no_f (p9 := 1) hm) hm w_X11_112 rfl (by decide) (by decide) (by omega) (by omega) (Nat.le_of_ble_eq_true rfl) (ko_rt ?_)
      show T x 27 [(0, vR 200), (1, vI l), (2, vI a9)] [vI 1] (hput h 200 (oO 10 [vR 201, vR 202, vR 203, vR 204, vR 205, vR 206, vR 207, vR 208, vR 209, vR 210, vR 211, vR 212, vR 213, vR 214, vR 215, vR 216, vR 217, vR 218, vI mv, vI mrc, vI mmc, vI mmk, vI mdv, vI mwl, vI mwa, vI mwp, vI 1])) _ _
      refine st_if_eq (tgt := 34) C dX11_size__27 (by decide) (fun c_27 => by omega) (fun c_27 => ?_)
      refine st_iconst C dX11_size__30 (by decide) ?_
      refine st_goto (tgt := 40) C dX11_size__31 (by decide) ?_
      exact st_ireturn C F dX11_size__40 rfl (by first | (exfalso; omega) | exact ⟨by with_reducible rfl, by with_reducible rfl⟩) (by omega) (by omega)
  · refine st_callS (st := [vR 200]) C dX11_size__2 [vI l] (k_mLayer_f (v9 := l)  b_2) w_X11_108 rfl (by decide) (by decide) (by omega) (by omega) (Nat.le_of_ble_eq_true rfl) (ko_rt ?_)
    show T x 5 [(0, vR 200), (1, vI l), (2, vI a9)] [vI 0, vR 200] _ _ _
    refine st_if_eq (tgt := 22) C dX11_size__5 (by decide) (fun c_5 => ?_) (fun c_5 => by omega)
    refine st_iconst C dX11_size__22 (by decide) ?_
    refine st_iconst C dX11_size__23 (by decide) ?_
    refine st_callV (st := []) C dX11_size__24 [vI 0, vI 1] (k_no_f (p9 := 1) hm) hm w_X11_112 rfl (by decide) (by decide) (by omega) (by omega) (Nat.le_of_ble_eq_true rfl) (ko_rt ?_)
    show T x 27 [(0, vR 200), (1, vI l), (2, vI a9)] [vI 1] (hput h 200 (oO 10 [vR 201, vR 202, vR 203, vR 204, vR 205, vR 206, vR 207, vR 208, vR 209, vR 210, vR 211, vR 212, vR 213, vR 214, vR 215, vR 216, vR 217, vR 218, vI mv, vI mrc, vI mmc, vI mmk, vI mdv, vI mwl, vI mwa, vI mwp, vI 1])) _ _
    refine st_if_eq (tgt := 34) C dX11_size__27 (by decide) (fun c_27 => by omega) (fun c_27 => ?_)
    refine st_iconst C dX11_size__30 (by decide) ?_
    refine st_goto (tgt := 40) C dX11_size__31 (by decide) ?_
    exact st_ireturn C F dX11_size__40 rfl (by first | (exfalso; omega) | exact ⟨by with_reducible rfl, by with_reducible rfl⟩) (by omega) (by omega)
set_option maxRecDepth 20000 in
set_option maxHeartbeats 4000000 in
theorem m_size {g : Gx} {h : HP} {mv mrc mmc mmk mdv mwl mwa mwp mth : Int} {mm : Int → Int} {l a9 : Int} (hm : mO h mv mrc mmc mmk mdv mwl mwa mwp mth) (hmm : h 201 = some (oI 12464 mm)) (hv : 0 ≤ mv ∧ mv ≤ 40) (hQ : (0 ≤ l ∧ l ≤ 2) ∧ 1 ≤ a9 ∧ a9 ≤ 9) : Ct g yX11_size_ (.code yX11_size_ cX11_size_ 3 (some .int)) 3 0 0 [vR 200, vI l, vI a9] h (Rt (some (vI (cnt (fun j => mm (304 * mv + (64 * l + j)) = a9) 64))) (hput h 200 (oO 10 [vR 201, vR 202, vR 203, vR 204, vR 205, vR 206, vR 207, vR 208, vR 209, vR 210, vR 211, vR 212, vR 213, vR 214, vR 215, vR 216, vR 217, vR 218, vI mv, vI mrc, vI mmc, vI mmk, vI mdv, vI mwl, vI mwa, vI mwp, vI 0]))) := by
  refine Ct.of (by decide) (Nat.le_of_ble_eq_true rfl) (fun x hg C F => ?_)
  subst hg
  show T x 0 [(0, vR 200), (1, vI l), (2, vI a9)] [] h 0 0
  refine st_aload_n C 0 dX11_size__0 rfl rfl ?_
  refine st_iload_n C 1 dX11_size__1 rfl rfl ?_
  have b_2 : 0 ≤ l ∧ l ≤ 2 := by omega
  refine st_callS (st := [vR 200]) C dX11_size__2 [vI l] (k_mLayer_t (v9 := l)  b_2) w_X11_108 rfl (by decide) (by decide) (by omega) (by omega) (Nat.le_of_ble_eq_true rfl) (ko_rt ?_)
  show T x 5 [(0, vR 200), (1, vI l), (2, vI a9)] [vI 1, vR 200] _ _ _
  refine st_if_eq (tgt := 22) C dX11_size__5 (by decide) (fun c_5 => by omega) (fun c_5 => ?_)
  refine st_iload_n C 2 dX11_size__8 rfl rfl ?_
  refine st_iconst C dX11_size__9 (by decide) ?_
  refine st_bipush C dX11_size__10 (by decide) (by decide) ?_
  have b_12 : 1 ≤ a9 ∧ a9 ≤ 9 := by omega
  refine st_callS (st := [vR 200]) C dX11_size__12 [vI a9, vI 1, vI 9] (k_isIn_t (v9 := a9) (l9 := 1) (u9 := 9)  b_12) w_X11_75 rfl (by decide) (by decide) (by omega) (by omega) (Nat.le_of_ble_eq_true rfl) (ko_rt ?_)
  show T x 15 [(0, vR 200), (1, vI l), (2, vI a9)] [vI 1, vR 200] _ _ _
  refine st_if_eq (tgt := 22) C dX11_size__15 (by decide) (fun c_15 => by omega) (fun c_15 => ?_)
  refine st_iconst C dX11_size__18 (by decide) ?_
  refine st_goto (tgt := 23) C dX11_size__19 (by decide) ?_
  refine st_iconst C dX11_size__23 (by decide) ?_
  refine st_callV (st := []) C dX11_size__24 [vI 1, vI 1] (k_no_t (p9 := 1) hm) hm w_X11_112 rfl (by decide) (by decide) (by omega) (by omega) (Nat.le_of_ble_eq_true rfl) (ko_rt ?_)
  show T x 27 [(0, vR 200), (1, vI l), (2, vI a9)] [vI 0] (hput h 200 (oO 10 [vR 201, vR 202, vR 203, vR 204, vR 205, vR 206, vR 207, vR 208, vR 209, vR 210, vR 211, vR 212, vR 213, vR 214, vR 215, vR 216, vR 217, vR 218, vI mv, vI mrc, vI mmc, vI mmk, vI mdv, vI mwl, vI mwa, vI mwp, vI 0])) _ _
  refine st_if_eq (tgt := 34) C dX11_size__27 (by decide) (fun c_27 => ?_) (fun c_27 => by omega)
  refine st_aload_n C 0 dX11_size__34 rfl rfl ?_
  refine st_iload_n C 1 dX11_size__35 rfl rfl ?_
  refine st_iload_n C 2 dX11_size__36 rfl rfl ?_
  refine st_callV (st := []) C dX11_size__37 [vI l, vI a9] (k_sizeOf (l := l) (a9 := a9) hput_s (hput_o (by omega) hmm) hv (by omega)) hput_s w_X11_190 rfl (by decide) (by decide) (by omega) (by omega) (Nat.le_of_ble_eq_true rfl) (ko_rt ?_)
  show T x 40 [(0, vR 200), (1, vI l), (2, vI a9)] [vI (cnt (fun j => mm (304 * mv + (64 * l + j)) = a9) 64)] _ _ _
  exact st_ireturn C F dX11_size__40 rfl (by first | exact ⟨by with_reducible rfl, by with_reducible rfl⟩ | (exfalso; omega)) (by omega) (by omega)
set_option maxRecDepth 20000 in
set_option maxHeartbeats 4000000 in
theorem m_walk_x1 {g : Gx} {h : HP} {mv mrc mmc mmk mdv mwl mwa mwp mth : Int} {mm : Int → Int} {l a9 : Int} (hm : mO h mv mrc mmc mmk mdv mwl mwa mwp mth) (hmm : h 201 = some (oI 12464 mm)) (hv : 0 ≤ mv ∧ mv ≤ 40) (hQ : ¬ ((0 ≤ l ∧ l ≤ 2) ∧ 1 ≤ a9 ∧ a9 ≤ 9)) : Ct g yX11_walk (.code yX11_walk cX11_walk 3 (some .int)) 3 0 0 [vR 200, vI l, vI a9] h (Rt (some (vI 0)) (hput h 200 (oO 10 [vR 201, vR 202, vR 203, vR 204, vR 205, vR 206, vR 207, vR 208, vR 209, vR 210, vR 211, vR 212, vR 213, vR 214, vR 215, vR 216, vR 217, vR 218, vI mv, vI mrc, vI mmc, vI mmk, vI mdv, vI mwl, vI mwa, vI mwp, vI 1]))) := by
  refine Ct.of (by decide) (Nat.le_of_ble_eq_true rfl) (fun x hg C F => ?_)
  subst hg
  show T x 0 [(0, vR 200), (1, vI l), (2, vI a9)] [] h 0 0
  refine st_aload_n C 0 dX11_walk_0 rfl rfl ?_
  refine st_iload_n C 1 dX11_walk_1 rfl rfl ?_
  by_cases b_2 : 0 ≤ l ∧ l ≤ 2
  · refine st_callS (st := [vR 200]) C dX11_walk_2 [vI l] (k_mLayer_t (v9 := l)  b_2) w_X11_108 rfl (by decide) (by decide) (by omega) (by omega) (Nat.le_of_ble_eq_true rfl) (ko_rt ?_)
    show T x 5 [(0, vR 200), (1, vI l), (2, vI a9)] [vI 1, vR 200] _ _ _
    refine st_if_eq (tgt := 22) C dX11_walk_5 (by decide) (fun c_5 => by omega) (fun c_5 => ?_)
    refine st_iload_n C 2 dX11_walk_8 rfl rfl ?_
    refine st_iconst C dX11_walk_9 (by decide) ?_
    refine st_bipush C dX11_walk_10 (by decide) (by decide) ?_
    by_cases b_12 : 1 ≤ a9 ∧ a9 ≤ 9
    · refine st_callS (st := [vR 200]) C dX11_walk_12 [vI a9, vI 1, vI 9] (k_isIn_t (v9 := a9) (l9 := 1) (u9 := 9)  b_12) w_X11_75 rfl (by decide) (by decide) (by omega) (by omega) (Nat.le_of_ble_eq_true rfl) (ko_rt ?_)
      show T x 15 [(0, vR 200), (1, vI l), (2, vI a9)] [vI 1, vR 200] _ _ _
      refine st_if_eq (tgt := 22) C dX11_walk_15 (by decide) (fun c_15 => by omega) (fun c_15 => ?_)
      refine st_iconst C dX11_walk_18 (by decide) ?_
      refine st_goto (tgt := 23) C dX11_walk_19 (by decide) ?_
      refine st_iconst C dX11_walk_23 (by decide) ?_
      exfalso; omega
    · refine st_callS (st := [vR 200]) C dX11_walk_12 [vI a9, vI 1, vI 9] (k_isIn_f (v9 := a9) (l9 := 1) (u9 := 9)  b_12) w_X11_75 rfl (by decide) (by decide) (by omega) (by omega) (Nat.le_of_ble_eq_true rfl) (ko_rt ?_)
      show T x 15 [(0, vR 200), (1, vI l), (2, vI a9)] [vI 0, vR 200] _ _ _
      refine st_if_eq (tgt := 22) C dX11_walk_15 (by decide) (fun c_15 => ?_) (fun c_15 => by omega)
      refine st_iconst C dX11_walk_22 (by decide) ?_
      refine st_iconst C dX11_walk_23 (by decide) ?_
      refine st_callV (st := []) C dX11_walk_24 [vI 0, vI 1] (k_no_f (p9 := 1) hm) hm w_X11_112 rfl (by decide) (by decide) (by omega) (by omega) (Nat.le_of_ble_eq_true rfl) (ko_rt ?_)
      show T x 27 [(0, vR 200), (1, vI l), (2, vI a9)] [vI 1] (hput h 200 (oO 10 [vR 201, vR 202, vR 203, vR 204, vR 205, vR 206, vR 207, vR 208, vR 209, vR 210, vR 211, vR 212, vR 213, vR 214, vR 215, vR 216, vR 217, vR 218, vI mv, vI mrc, vI mmc, vI mmk, vI mdv, vI mwl, vI mwa, vI mwp, vI 1])) _ _
      refine st_if_eq (tgt := 32) C dX11_walk_27 (by decide) (fun c_27 => by omega) (fun c_27 => ?_)
      refine st_iconst C dX11_walk_30 (by decide) ?_
      exact st_ireturn C F dX11_walk_31 rfl (by first | (exfalso; omega) | exact ⟨by with_reducible rfl, by with_reducible rfl⟩) (by omega) (by omega)
  · refine st_callS (st := [vR 200]) C dX11_walk_2 [vI l] (k_mLayer_f (v9 := l)  b_2) w_X11_108 rfl (by decide) (by decide) (by omega) (by omega) (Nat.le_of_ble_eq_true rfl) (ko_rt ?_)
    show T x 5 [(0, vR 200), (1, vI l), (2, vI a9)] [vI 0, vR 200] _ _ _
    refine st_if_eq (tgt := 22) C dX11_walk_5 (by decide) (fun c_5 => ?_) (fun c_5 => by omega)
    refine st_iconst C dX11_walk_22 (by decide) ?_
    refine st_iconst C dX11_walk_23 (by decide) ?_
    refine st_callV (st := []) C dX11_walk_24 [vI 0, vI 1] (k_no_f (p9 := 1) hm) hm w_X11_112 rfl (by decide) (by decide) (by omega) (by omega) (Nat.le_of_ble_eq_true rfl) (ko_rt ?_)
    show T x 27 [(0, vR 200), (1, vI l), (2, vI a9)] [vI 1] (hput h 200 (oO 10 [vR 201, vR 202, vR 203, vR 204, vR 205, vR 206, vR 207, vR 208, vR 209, vR 210, vR 211, vR 212, vR 213, vR 214, vR 215, vR 216, vR 217, vR 218, vI mv, vI mrc, vI mmc, vI mmk, vI mdv, vI mwl, vI mwa, vI mwp, vI 1])) _ _
    refine st_if_eq (tgt := 32) C dX11_walk_27 (by decide) (fun c_27 => by omega) (fun c_27 => ?_)
    refine st_iconst C dX11_walk_30 (by decide) ?_
    exact st_ireturn C F dX11_walk_31 rfl (by first | (exfalso; omega) | exact ⟨by with_reducible rfl, by with_reducible rfl⟩) (by omega) (by omega)
set_option maxRecDepth 20000 in
set_option maxHeartbeats 4000000 in
theorem m_walk {g : Gx} {h : HP} {mv mrc mmc mmk mdv mwl mwa mwp mth : Int} {mm : Int → Int} {l a9 : Int} (hm : mO h mv mrc mmc mmk mdv mwl mwa mwp mth) (hmm : h 201 = some (oI 12464 mm)) (hv : 0 ≤ mv ∧ mv ≤ 40) (hQ : (0 ≤ l ∧ l ≤ 2) ∧ 1 ≤ a9 ∧ a9 ≤ 9) : Ct g yX11_walk (.code yX11_walk cX11_walk 3 (some .int)) 3 0 0 [vR 200, vI l, vI a9] h (Rt (some (vI (cnt (fun j => mm (304 * mv + (64 * l + j)) = a9) 64))) (hput (hput (hput (hput h 200 (oO 10 [vR 201, vR 202, vR 203, vR 204, vR 205, vR 206, vR 207, vR 208, vR 209, vR 210, vR 211, vR 212, vR 213, vR 214, vR 215, vR 216, vR 217, vR 218, vI mv, vI mrc, vI mmc, vI mmk, vI mdv, vI mwl, vI mwa, vI mwp, vI 0])) 200 (oO 10 [vR 201, vR 202, vR 203, vR 204, vR 205, vR 206, vR 207, vR 208, vR 209, vR 210, vR 211, vR 212, vR 213, vR 214, vR 215, vR 216, vR 217, vR 218, vI mv, vI mrc, vI mmc, vI mmk, vI mdv, vI l, vI mwa, vI mwp, vI 0])) 200 (oO 10 [vR 201, vR 202, vR 203, vR 204, vR 205, vR 206, vR 207, vR 208, vR 209, vR 210, vR 211, vR 212, vR 213, vR 214, vR 215, vR 216, vR 217, vR 218, vI mv, vI mrc, vI mmc, vI mmk, vI mdv, vI l, vI a9, vI mwp, vI 0])) 200 (oO 10 [vR 201, vR 202, vR 203, vR 204, vR 205, vR 206, vR 207, vR 208, vR 209, vR 210, vR 211, vR 212, vR 213, vR 214, vR 215, vR 216, vR 217, vR 218, vI mv, vI mrc, vI mmc, vI mmk, vI mdv, vI l, vI a9, vI (-1), vI 0]))) := by
  refine Ct.of (by decide) (Nat.le_of_ble_eq_true rfl) (fun x hg C F => ?_)
  subst hg
  show T x 0 [(0, vR 200), (1, vI l), (2, vI a9)] [] h 0 0
  refine st_aload_n C 0 dX11_walk_0 rfl rfl ?_
  refine st_iload_n C 1 dX11_walk_1 rfl rfl ?_
  have b_2 : 0 ≤ l ∧ l ≤ 2 := by omega
  refine st_callS (st := [vR 200]) C dX11_walk_2 [vI l] (k_mLayer_t (v9 := l)  b_2) w_X11_108 rfl (by decide) (by decide) (by omega) (by omega) (Nat.le_of_ble_eq_true rfl) (ko_rt ?_)
  show T x 5 [(0, vR 200), (1, vI l), (2, vI a9)] [vI 1, vR 200] _ _ _
  refine st_if_eq (tgt := 22) C dX11_walk_5 (by decide) (fun c_5 => by omega) (fun c_5 => ?_)
  refine st_iload_n C 2 dX11_walk_8 rfl rfl ?_
  refine st_iconst C dX11_walk_9 (by decide) ?_
  refine st_bipush C dX11_walk_10 (by decide) (by decide) ?_
  have b_12 : 1 ≤ a9 ∧ a9 ≤ 9 := by omega
  refine st_callS (st := [vR 200]) C dX11_walk_12 [vI a9, vI 1, vI 9] (k_isIn_t (v9 := a9) (l9 := 1) (u9 := 9)  b_12) w_X11_75 rfl (by decide) (by decide) (by omega) (by omega) (Nat.le_of_ble_eq_true rfl) (ko_rt ?_)
  show T x 15 [(0, vR 200), (1, vI l), (2, vI a9)] [vI 1, vR 200] _ _ _
  refine st_if_eq (tgt := 22) C dX11_walk_15 (by decide) (fun c_15 => by omega) (fun c_15 => ?_)
  refine st_iconst C dX11_walk_18 (by decide) ?_
  refine st_goto (tgt := 23) C dX11_walk_19 (by decide) ?_
  refine st_iconst C dX11_walk_23 (by decide) ?_
  refine st_callV (st := []) C dX11_walk_24 [vI 1, vI 1] (k_no_t (p9 := 1) hm) hm w_X11_112 rfl (by decide) (by decide) (by omega) (by omega) (Nat.le_of_ble_eq_true rfl) (ko_rt ?_)
  show T x 27 [(0, vR 200), (1, vI l), (2, vI a9)] [vI 0] (hput h 200 (oO 10 [vR 201, vR 202, vR 203, vR 204, vR 205, vR 206, vR 207, vR 208, vR 209, vR 210, vR 211, vR 212, vR 213, vR 214, vR 215, vR 216, vR 217, vR 218, vI mv, vI mrc, vI mmc, vI mmk, vI mdv, vI mwl, vI mwa, vI mwp, vI 0])) _ _
  refine st_if_eq (tgt := 32) C dX11_walk_27 (by decide) (fun c_27 => ?_) (fun c_27 => by omega)
  refine st_aload_n C 0 dX11_walk_32 rfl rfl ?_
  refine st_iload_n C 1 dX11_walk_33 rfl rfl ?_
  refine st_putf C dX11_walk_34 fp_X11_65 (fun q => by cases q) hput_s (Nat.le_of_ble_eq_true rfl) fit_int ?_
  show T x 37 [(0, vR 200), (1, vI l), (2, vI a9)] [] (hput (hput h 200 (oO 10 [vR 201, vR 202, vR 203, vR 204, vR 205, vR 206, vR 207, vR 208, vR 209, vR 210, vR 211, vR 212, vR 213, vR 214, vR 215, vR 216, vR 217, vR 218, vI mv, vI mrc, vI mmc, vI mmk, vI mdv, vI mwl, vI mwa, vI mwp, vI 0])) 200 (oO 10 [vR 201, vR 202, vR 203, vR 204, vR 205, vR 206, vR 207, vR 208, vR 209, vR 210, vR 211, vR 212, vR 213, vR 214, vR 215, vR 216, vR 217, vR 218, vI mv, vI mrc, vI mmc, vI mmk, vI mdv, vI l, vI mwa, vI mwp, vI 0])) _ _
  refine st_aload_n C 0 dX11_walk_37 rfl rfl ?_
  refine st_iload_n C 2 dX11_walk_38 rfl rfl ?_
  refine st_putf C dX11_walk_39 fp_X11_193 (fun q => by cases q) hput_s (Nat.le_of_ble_eq_true rfl) fit_int ?_
  show T x 42 [(0, vR 200), (1, vI l), (2, vI a9)] [] (hput (hput (hput h 200 (oO 10 [vR 201, vR 202, vR 203, vR 204, vR 205, vR 206, vR 207, vR 208, vR 209, vR 210, vR 211, vR 212, vR 213, vR 214, vR 215, vR 216, vR 217, vR 218, vI mv, vI mrc, vI mmc, vI mmk, vI mdv, vI mwl, vI mwa, vI mwp, vI 0])) 200 (oO 10 [vR 201, vR 202, vR 203, vR 204, vR 205, vR 206, vR 207, vR 208, vR 209, vR 210, vR 211, vR 212, vR 213, vR 214, vR 215, vR 216, vR 217, vR 218, vI mv, vI mrc, vI mmc, vI mmk, vI mdv, vI l, vI mwa, vI mwp, vI 0])) 200 (oO 10 [vR 201, vR 202, vR 203, vR 204, vR 205, vR 206, vR 207, vR 208, vR 209, vR 210, vR 211, vR 212, vR 213, vR 214, vR 215, vR 216, vR 217, vR 218, vI mv, vI mrc, vI mmc, vI mmk, vI mdv, vI l, vI a9, vI mwp, vI 0])) _ _
  refine st_aload_n C 0 dX11_walk_42 rfl rfl ?_
  refine st_iconst C dX11_walk_43 (by decide) ?_
  refine st_putf C dX11_walk_44 fp_X11_196 (fun q => by cases q) hput_s (Nat.le_of_ble_eq_true rfl) fit_int ?_
  show T x 47 [(0, vR 200), (1, vI l), (2, vI a9)] [] (hput (hput (hput (hput h 200 (oO 10 [vR 201, vR 202, vR 203, vR 204, vR 205, vR 206, vR 207, vR 208, vR 209, vR 210, vR 211, vR 212, vR 213, vR 214, vR 215, vR 216, vR 217, vR 218, vI mv, vI mrc, vI mmc, vI mmk, vI mdv, vI mwl, vI mwa, vI mwp, vI 0])) 200 (oO 10 [vR 201, vR 202, vR 203, vR 204, vR 205, vR 206, vR 207, vR 208, vR 209, vR 210, vR 211, vR 212, vR 213, vR 214, vR 215, vR 216, vR 217, vR 218, vI mv, vI mrc, vI mmc, vI mmk, vI mdv, vI l, vI mwa, vI mwp, vI 0])) 200 (oO 10 [vR 201, vR 202, vR 203, vR 204, vR 205, vR 206, vR 207, vR 208, vR 209, vR 210, vR 211, vR 212, vR 213, vR 214, vR 215, vR 216, vR 217, vR 218, vI mv, vI mrc, vI mmc, vI mmk, vI mdv, vI l, vI a9, vI mwp, vI 0])) 200 (oO 10 [vR 201, vR 202, vR 203, vR 204, vR 205, vR 206, vR 207, vR 208, vR 209, vR 210, vR 211, vR 212, vR 213, vR 214, vR 215, vR 216, vR 217, vR 218, vI mv, vI mrc, vI mmc, vI mmk, vI mdv, vI l, vI a9, vI (-1), vI 0])) _ _
  refine st_aload_n C 0 dX11_walk_47 rfl rfl ?_
  refine st_iload_n C 1 dX11_walk_48 rfl rfl ?_
  refine st_iload_n C 2 dX11_walk_49 rfl rfl ?_
  refine st_callV (st := []) C dX11_walk_50 [vI l, vI a9] (k_sizeOf (l := l) (a9 := a9) hput_s (hput_o (by omega) (hput_o (by omega) (hput_o (by omega) (hput_o (by omega) hmm)))) hv (by omega)) hput_s w_X11_190 rfl (by decide) (by decide) (by omega) (by omega) (Nat.le_of_ble_eq_true rfl) (ko_rt ?_)
  show T x 53 [(0, vR 200), (1, vI l), (2, vI a9)] [vI (cnt (fun j => mm (304 * mv + (64 * l + j)) = a9) 64)] _ _ _
  exact st_ireturn C F dX11_walk_53 rfl (by first | exact ⟨by with_reducible rfl, by with_reducible rfl⟩ | (exfalso; omega)) (by omega) (by omega)
set_option maxRecDepth 20000 in
set_option maxHeartbeats 4000000 in
theorem m_hasNext_0 {g : Gx} {h : HP} {mv mrc mmc mmk mdv mwl mwa mwp mth : Int} (hm : mO h mv mrc mmc mmk mdv mwl mwa mwp mth) (hwl : mwl < 0) : Ct g yX11_hasNext (.code yX11_hasNext cX11_hasNext 1 (some .boolean)) 3 0 0 [vR 200] h (Rt (some (vI 0)) h) := by
  refine Ct.of (by decide) (Nat.le_of_ble_eq_true rfl) (fun x hg C F => ?_)
  subst hg
  show T x 0 [(0, vR 200)] [] h 0 0
  refine st_aload_n C 0 dX11_hasNext_0 rfl rfl ?_
  refine st_callV (st := []) C dX11_hasNext_1 [] (k_nextPlace_0 hm hwl) hm w_X11_199 rfl (by decide) (by decide) (by omega) (by omega) (Nat.le_of_ble_eq_true rfl) (ko_rt ?_)
  show T x 4 [(0, vR 200)] [vI (-1)] _ _ _
  refine st_if_lt (tgt := 11) C dX11_hasNext_4 (by decide) (fun c_4 => ?_) (fun c_4 => by omega)
  refine st_iconst C dX11_hasNext_11 (by decide) ?_
  exact st_zreturn C F dX11_hasNext_12 rfl (by omega) (by first | exact ⟨by with_reducible rfl, by with_reducible rfl⟩ | (exfalso; omega)) (by omega) (by omega)
set_option maxRecDepth 20000 in
set_option maxHeartbeats 4000000 in
theorem m_hasNext_f {g : Gx} {h : HP} {mv mrc mmc mmk mdv mwl mwa mwp mth : Int} {mm : Int → Int} {r9 : Int} (hm : mO h mv mrc mmc mmk mdv mwl mwa mwp mth) (hmm : h 201 = some (oI 12464 mm)) (hv : 0 ≤ mv ∧ mv ≤ 40) (hwl : 0 ≤ mwl ∧ mwl ≤ 2) (hwp : -1 ≤ mwp ∧ mwp ≤ 63) (hr : IsNext (fun j => mm (304 * mv + (64 * mwl + j)) = mwa) (mwp + 1) r9) (hQ : r9 = -1) : Ct g yX11_hasNext (.code yX11_hasNext cX11_hasNext 1 (some .boolean)) 3 0 0 [vR 200] h (Rt (some (vI 0)) h) := by
  refine Ct.of (by decide) (Nat.le_of_ble_eq_true rfl) (fun x hg C F => ?_)
  subst hg
  show T x 0 [(0, vR 200)] [] h 0 0
  refine st_aload_n C 0 dX11_hasNext_0 rfl rfl ?_
  refine st_callV (st := []) C dX11_hasNext_1 [] (k_nextPlace (r9 := r9) hm hmm hv hwl hwp hr) hm w_X11_199 rfl (by decide) (by decide) (by omega) (by omega) (Nat.le_of_ble_eq_true rfl) (ko_rt ?_)
  show T x 4 [(0, vR 200)] [vI r9] _ _ _
  refine st_if_lt (tgt := 11) C dX11_hasNext_4 (by decide) (fun c_4 => ?_) (fun c_4 => by omega)
  refine st_iconst C dX11_hasNext_11 (by decide) ?_
  exact st_zreturn C F dX11_hasNext_12 rfl (by omega) (by first | exact ⟨by with_reducible rfl, by with_reducible rfl⟩ | (exfalso; omega)) (by omega) (by omega)
set_option maxRecDepth 20000 in
set_option maxHeartbeats 4000000 in
theorem m_hasNext_t {g : Gx} {h : HP} {mv mrc mmc mmk mdv mwl mwa mwp mth : Int} {mm : Int → Int} {r9 : Int} (hm : mO h mv mrc mmc mmk mdv mwl mwa mwp mth) (hmm : h 201 = some (oI 12464 mm)) (hv : 0 ≤ mv ∧ mv ≤ 40) (hwl : 0 ≤ mwl ∧ mwl ≤ 2) (hwp : -1 ≤ mwp ∧ mwp ≤ 63) (hr : IsNext (fun j => mm (304 * mv + (64 * mwl + j)) = mwa) (mwp + 1) r9) (hQ : 0 ≤ r9) : Ct g yX11_hasNext (.code yX11_hasNext cX11_hasNext 1 (some .boolean)) 3 0 0 [vR 200] h (Rt (some (vI 1)) h) := by
  refine Ct.of (by decide) (Nat.le_of_ble_eq_true rfl) (fun x hg C F => ?_)
  subst hg
  show T x 0 [(0, vR 200)] [] h 0 0
  refine st_aload_n C 0 dX11_hasNext_0 rfl rfl ?_
  refine st_callV (st := []) C dX11_hasNext_1 [] (k_nextPlace (r9 := r9) hm hmm hv hwl hwp hr) hm w_X11_199 rfl (by decide) (by decide) (by omega) (by omega) (Nat.le_of_ble_eq_true rfl) (ko_rt ?_)
  show T x 4 [(0, vR 200)] [vI r9] _ _ _
  refine st_if_lt (tgt := 11) C dX11_hasNext_4 (by decide) (fun c_4 => by omega) (fun c_4 => ?_)
  refine st_iconst C dX11_hasNext_7 (by decide) ?_
  refine st_goto (tgt := 12) C dX11_hasNext_8 (by decide) ?_
  exact st_zreturn C F dX11_hasNext_12 rfl (by omega) (by first | exact ⟨by with_reducible rfl, by with_reducible rfl⟩ | (exfalso; omega)) (by omega) (by omega)
set_option maxRecDepth 20000 in
set_option maxHeartbeats 4000000 in
theorem m_next_x1 {g : Gx} {h : HP} {mv mrc mmc mmk mdv mwl mwa mwp mth : Int} (hm : mO h mv mrc mmc mmk mdv mwl mwa mwp mth) (hwl : mwl < 0) : Ct g yX11_next (.code yX11_next cX11_next 1 (some .int)) 3 0 0 [vR 200] h (Rt (some (vI 0)) (hput h 200 (oO 10 [vR 201, vR 202, vR 203, vR 204, vR 205, vR 206, vR 207, vR 208, vR 209, vR 210, vR 211, vR 212, vR 213, vR 214, vR 215, vR 216, vR 217, vR 218, vI mv, vI mrc, vI mmc, vI mmk, vI mdv, vI mwl, vI mwa, vI mwp, vI 1]))) := by
  refine Ct.of (by decide) (Nat.le_of_ble_eq_true rfl) (fun x hg C F => ?_)
  subst hg
  show T x 0 [(0, vR 200)] [] h 0 0
  refine st_aload_n C 0 dX11_next_0 rfl rfl ?_
  refine st_aload_n C 0 dX11_next_1 rfl rfl ?_
  refine st_getf C dX11_next_2 fl_X11_65 hm rfl ?_
  refine st_if_lt (tgt := 12) C dX11_next_5 (by decide) (fun c_5 => ?_) (fun c_5 => by omega)
  refine st_iconst C dX11_next_12 (by decide) ?_
  refine st_iconst C dX11_next_13 (by decide) ?_
  refine st_callV (st := []) C dX11_next_14 [vI 0, vI 1] (k_no_f (p9 := 1) hm) hm w_X11_112 rfl (by decide) (by decide) (by omega) (by omega) (Nat.le_of_ble_eq_true rfl) (ko_rt ?_)
  show T x 17 [(0, vR 200)] [vI 1] (hput h 200 (oO 10 [vR 201, vR 202, vR 203, vR 204, vR 205, vR 206, vR 207, vR 208, vR 209, vR 210, vR 211, vR 212, vR 213, vR 214, vR 215, vR 216, vR 217, vR 218, vI mv, vI mrc, vI mmc, vI mmk, vI mdv, vI mwl, vI mwa, vI mwp, vI 1])) _ _
  refine st_if_ne (tgt := 40) C dX11_next_17 (by decide) (fun c_17 => ?_) (fun c_17 => by omega)
  refine st_iconst C dX11_next_40 (by decide) ?_
  exact st_ireturn C F dX11_next_41 rfl (by first | exact ⟨by with_reducible rfl, by with_reducible rfl⟩ | (exfalso; omega)) (by omega) (by omega)
set_option maxRecDepth 20000 in
set_option maxHeartbeats 4000000 in
theorem m_next_x2 {g : Gx} {h : HP} {mv mrc mmc mmk mdv mwl mwa mwp mth : Int} {mm : Int → Int} {r9 : Int} (hm : mO h mv mrc mmc mmk mdv mwl mwa mwp mth) (hmm : h 201 = some (oI 12464 mm)) (hv : 0 ≤ mv ∧ mv ≤ 40) (hwl : 0 ≤ mwl ∧ mwl ≤ 2) (hwp : -1 ≤ mwp ∧ mwp ≤ 63) (hr : IsNext (fun j => mm (304 * mv + (64 * mwl + j)) = mwa) (mwp + 1) r9) (hQ : r9 = -1) : Ct g yX11_next (.code yX11_next cX11_next 1 (some .int)) 3 0 0 [vR 200] h (Rt (some (vI 0)) (hput (hput h 200 (oO 10 [vR 201, vR 202, vR 203, vR 204, vR 205, vR 206, vR 207, vR 208, vR 209, vR 210, vR 211, vR 212, vR 213, vR 214, vR 215, vR 216, vR 217, vR 218, vI mv, vI mrc, vI mmc, vI mmk, vI mdv, vI mwl, vI mwa, vI mwp, vI 0])) 200 (oO 10 [vR 201, vR 202, vR 203, vR 204, vR 205, vR 206, vR 207, vR 208, vR 209, vR 210, vR 211, vR 212, vR 213, vR 214, vR 215, vR 216, vR 217, vR 218, vI mv, vI mrc, vI mmc, vI mmk, vI mdv, vI mwl, vI mwa, vI mwp, vI 2]))) := by
  refine Ct.of (by decide) (Nat.le_of_ble_eq_true rfl) (fun x hg C F => ?_)
  subst hg
  show T x 0 [(0, vR 200)] [] h 0 0
  refine st_aload_n C 0 dX11_next_0 rfl rfl ?_
  refine st_aload_n C 0 dX11_next_1 rfl rfl ?_
  refine st_getf C dX11_next_2 fl_X11_65 hm rfl ?_
  refine st_if_lt (tgt := 12) C dX11_next_5 (by decide) (fun c_5 => by omega) (fun c_5 => ?_)
  refine st_iconst C dX11_next_8 (by decide) ?_
  refine st_goto (tgt := 13) C dX11_next_9 (by decide) ?_
  refine st_iconst C dX11_next_13 (by decide) ?_
  refine st_callV (st := []) C dX11_next_14 [vI 1, vI 1] (k_no_t (p9 := 1) hm) hm w_X11_112 rfl (by decide) (by decide) (by omega) (by omega) (Nat.le_of_ble_eq_true rfl) (ko_rt ?_)
  show T x 17 [(0, vR 200)] [vI 0] (hput h 200 (oO 10 [vR 201, vR 202, vR 203, vR 204, vR 205, vR 206, vR 207, vR 208, vR 209, vR 210, vR 211, vR 212, vR 213, vR 214, vR 215, vR 216, vR 217, vR 218, vI mv, vI mrc, vI mmc, vI mmk, vI mdv, vI mwl, vI mwa, vI mwp, vI 0])) _ _
  refine st_if_ne (tgt := 40) C dX11_next_17 (by decide) (fun c_17 => by omega) (fun c_17 => ?_)
  refine st_aload_n C 0 dX11_next_20 rfl rfl ?_
  refine st_aload_n C 0 dX11_next_21 rfl rfl ?_
  refine st_callV (st := [vR 200]) C dX11_next_22 [] (k_nextPlace (r9 := r9) hput_s (hput_o (by omega) hmm) hv hwl hwp hr) hput_s w_X11_199 rfl (by decide) (by decide) (by omega) (by omega) (Nat.le_of_ble_eq_true rfl) (ko_rt ?_)
  show T x 25 [(0, vR 200)] [vI r9, vR 200] _ _ _
  refine st_if_lt (tgt := 32) C dX11_next_25 (by decide) (fun c_25 => ?_) (fun c_25 => by omega)
  refine st_iconst C dX11_next_32 (by decide) ?_
  refine st_iconst C dX11_next_33 (by decide) ?_
  refine st_callV (st := []) C dX11_next_34 [vI 0, vI 2] (k_no_f (p9 := 2) hput_s) hput_s w_X11_112 rfl (by decide) (by decide) (by omega) (by omega) (Nat.le_of_ble_eq_true rfl) (ko_rt ?_)
  show T x 37 [(0, vR 200)] [vI 1] (hput (hput h 200 (oO 10 [vR 201, vR 202, vR 203, vR 204, vR 205, vR 206, vR 207, vR 208, vR 209, vR 210, vR 211, vR 212, vR 213, vR 214, vR 215, vR 216, vR 217, vR 218, vI mv, vI mrc, vI mmc, vI mmk, vI mdv, vI mwl, vI mwa, vI mwp, vI 0])) 200 (oO 10 [vR 201, vR 202, vR 203, vR 204, vR 205, vR 206, vR 207, vR 208, vR 209, vR 210, vR 211, vR 212, vR 213, vR 214, vR 215, vR 216, vR 217, vR 218, vI mv, vI mrc, vI mmc, vI mmk, vI mdv, vI mwl, vI mwa, vI mwp, vI 2])) _ _
  refine st_if_eq (tgt := 42) C dX11_next_37 (by decide) (fun c_37 => by omega) (fun c_37 => ?_)
  refine st_iconst C dX11_next_40 (by decide) ?_
  exact st_ireturn C F dX11_next_41 rfl (by first | exact ⟨by with_reducible rfl, by with_reducible rfl⟩ | (exfalso; omega)) (by omega) (by omega)
set_option maxRecDepth 20000 in
set_option maxHeartbeats 4000000 in
theorem m_next {g : Gx} {h : HP} {mv mrc mmc mmk mdv mwl mwa mwp mth : Int} {mm : Int → Int} {r9 : Int} (hm : mO h mv mrc mmc mmk mdv mwl mwa mwp mth) (hmm : h 201 = some (oI 12464 mm)) (hv : 0 ≤ mv ∧ mv ≤ 40) (hwl : 0 ≤ mwl ∧ mwl ≤ 2) (hwp : -1 ≤ mwp ∧ mwp ≤ 63) (hr : IsNext (fun j => mm (304 * mv + (64 * mwl + j)) = mwa) (mwp + 1) r9) (hQ : 0 ≤ r9) : Ct g yX11_next (.code yX11_next cX11_next 1 (some .int)) 3 0 0 [vR 200] h (Rt (some (vI r9)) (hput (hput (hput h 200 (oO 10 [vR 201, vR 202, vR 203, vR 204, vR 205, vR 206, vR 207, vR 208, vR 209, vR 210, vR 211, vR 212, vR 213, vR 214, vR 215, vR 216, vR 217, vR 218, vI mv, vI mrc, vI mmc, vI mmk, vI mdv, vI mwl, vI mwa, vI mwp, vI 0])) 200 (oO 10 [vR 201, vR 202, vR 203, vR 204, vR 205, vR 206, vR 207, vR 208, vR 209, vR 210, vR 211, vR 212, vR 213, vR 214, vR 215, vR 216, vR 217, vR 218, vI mv, vI mrc, vI mmc, vI mmk, vI mdv, vI mwl, vI mwa, vI mwp, vI 0])) 200 (oO 10 [vR 201, vR 202, vR 203, vR 204, vR 205, vR 206, vR 207, vR 208, vR 209, vR 210, vR 211, vR 212, vR 213, vR 214, vR 215, vR 216, vR 217, vR 218, vI mv, vI mrc, vI mmc, vI mmk, vI mdv, vI mwl, vI mwa, vI r9, vI 0]))) := by
  refine Ct.of (by decide) (Nat.le_of_ble_eq_true rfl) (fun x hg C F => ?_)
  subst hg
  show T x 0 [(0, vR 200)] [] h 0 0
  refine st_aload_n C 0 dX11_next_0 rfl rfl ?_
  refine st_aload_n C 0 dX11_next_1 rfl rfl ?_
  refine st_getf C dX11_next_2 fl_X11_65 hm rfl ?_
  refine st_if_lt (tgt := 12) C dX11_next_5 (by decide) (fun c_5 => by omega) (fun c_5 => ?_)
  refine st_iconst C dX11_next_8 (by decide) ?_
  refine st_goto (tgt := 13) C dX11_next_9 (by decide) ?_
  refine st_iconst C dX11_next_13 (by decide) ?_
  refine st_callV (st := []) C dX11_next_14 [vI 1, vI 1] (k_no_t (p9 := 1) hm) hm w_X11_112 rfl (by decide) (by decide) (by omega) (by omega) (Nat.le_of_ble_eq_true rfl) (ko_rt ?_)
  show T x 17 [(0, vR 200)] [vI 0] (hput h 200 (oO 10 [vR 201, vR 202, vR 203, vR 204, vR 205, vR 206, vR 207, vR 208, vR 209, vR 210, vR 211, vR 212, vR 213, vR 214, vR 215, vR 216, vR 217, vR 218, vI mv, vI mrc, vI mmc, vI mmk, vI mdv, vI mwl, vI mwa, vI mwp, vI 0])) _ _
  refine st_if_ne (tgt := 40) C dX11_next_17 (by decide) (fun c_17 => by omega) (fun c_17 => ?_)
  refine st_aload_n C 0 dX11_next_20 rfl rfl ?_
  refine st_aload_n C 0 dX11_next_21 rfl rfl ?_
  refine st_callV (st := [vR 200]) C dX11_next_22 [] (k_nextPlace (r9 := r9) hput_s (hput_o (by omega) hmm) hv hwl hwp hr) hput_s w_X11_199 rfl (by decide) (by decide) (by omega) (by omega) (Nat.le_of_ble_eq_true rfl) (ko_rt ?_)
  show T x 25 [(0, vR 200)] [vI r9, vR 200] _ _ _
  refine st_if_lt (tgt := 32) C dX11_next_25 (by decide) (fun c_25 => by omega) (fun c_25 => ?_)
  refine st_iconst C dX11_next_28 (by decide) ?_
  refine st_goto (tgt := 33) C dX11_next_29 (by decide) ?_
  refine st_iconst C dX11_next_33 (by decide) ?_
  refine st_callV (st := []) C dX11_next_34 [vI 1, vI 2] (k_no_t (p9 := 2) hput_s) hput_s w_X11_112 rfl (by decide) (by decide) (by omega) (by omega) (Nat.le_of_ble_eq_true rfl) (ko_rt ?_)
  show T x 37 [(0, vR 200)] [vI 0] (hput (hput h 200 (oO 10 [vR 201, vR 202, vR 203, vR 204, vR 205, vR 206, vR 207, vR 208, vR 209, vR 210, vR 211, vR 212, vR 213, vR 214, vR 215, vR 216, vR 217, vR 218, vI mv, vI mrc, vI mmc, vI mmk, vI mdv, vI mwl, vI mwa, vI mwp, vI 0])) 200 (oO 10 [vR 201, vR 202, vR 203, vR 204, vR 205, vR 206, vR 207, vR 208, vR 209, vR 210, vR 211, vR 212, vR 213, vR 214, vR 215, vR 216, vR 217, vR 218, vI mv, vI mrc, vI mmc, vI mmk, vI mdv, vI mwl, vI mwa, vI mwp, vI 0])) _ _
  refine st_if_eq (tgt := 42) C dX11_next_37 (by decide) (fun c_37 => ?_) (fun c_37 => by omega)
  refine st_aload_n C 0 dX11_next_42 rfl rfl ?_
  refine st_aload_n C 0 dX11_next_43 rfl rfl ?_
  refine st_callV (st := [vR 200]) C dX11_next_44 [] (k_nextPlace (r9 := r9) hput_s (hput_o (by omega) (hput_o (by omega) hmm)) hv hwl hwp hr) hput_s w_X11_199 rfl (by decide) (by decide) (by omega) (by omega) (Nat.le_of_ble_eq_true rfl) (ko_rt ?_)
  show T x 47 [(0, vR 200)] [vI r9, vR 200] _ _ _
  refine st_putf C dX11_next_47 fp_X11_196 (fun q => by cases q) hput_s (Nat.le_of_ble_eq_true rfl) fit_int ?_
  show T x 50 [(0, vR 200)] [] (hput (hput (hput h 200 (oO 10 [vR 201, vR 202, vR 203, vR 204, vR 205, vR 206, vR 207, vR 208, vR 209, vR 210, vR 211, vR 212, vR 213, vR 214, vR 215, vR 216, vR 217, vR 218, vI mv, vI mrc, vI mmc, vI mmk, vI mdv, vI mwl, vI mwa, vI mwp, vI 0])) 200 (oO 10 [vR 201, vR 202, vR 203, vR 204, vR 205, vR 206, vR 207, vR 208, vR 209, vR 210, vR 211, vR 212, vR 213, vR 214, vR 215, vR 216, vR 217, vR 218, vI mv, vI mrc, vI mmc, vI mmk, vI mdv, vI mwl, vI mwa, vI mwp, vI 0])) 200 (oO 10 [vR 201, vR 202, vR 203, vR 204, vR 205, vR 206, vR 207, vR 208, vR 209, vR 210, vR 211, vR 212, vR 213, vR 214, vR 215, vR 216, vR 217, vR 218, vI mv, vI mrc, vI mmc, vI mmk, vI mdv, vI mwl, vI mwa, vI r9, vI 0])) _ _
  refine st_aload_n C 0 dX11_next_50 rfl rfl ?_
  refine st_getf C dX11_next_51 fl_X11_196 hput_s rfl ?_
  exact st_ireturn C F dX11_next_54 rfl (by first | exact ⟨by with_reducible rfl, by with_reducible rfl⟩ | (exfalso; omega)) (by omega) (by omega)
set_option maxRecDepth 20000 in
set_option maxHeartbeats 4000000 in
theorem m_device_x1 {g : Gx} {h : HP} {mv mrc mmc mmk mdv mwl mwa mwp mth : Int} (hm : mO h mv mrc mmc mmk mdv mwl mwa mwp mth) (hdv : 0 ≤ mdv ∧ mdv ≤ 3) (hQ : 3 ≤ mdv) : Ct g yX11_device (.code yX11_device cX11_device 1 (some .int)) 2 0 0 [vR 200] h (Rt (some (vI 0)) (hput h 200 (oO 10 [vR 201, vR 202, vR 203, vR 204, vR 205, vR 206, vR 207, vR 208, vR 209, vR 210, vR 211, vR 212, vR 213, vR 214, vR 215, vR 216, vR 217, vR 218, vI mv, vI mrc, vI mmc, vI mmk, vI mdv, vI mwl, vI mwa, vI mwp, vI 1]))) := by
  refine Ct.of (by decide) (Nat.le_of_ble_eq_true rfl) (fun x hg C F => ?_)
  subst hg
  show T x 0 [(0, vR 200)] [] h 0 0
  refine st_aload_n C 0 dX11_device_0 rfl rfl ?_
  refine st_aload_n C 0 dX11_device_1 rfl rfl ?_
  refine st_getf C dX11_device_2 fl_X11_202 hm rfl ?_
  refine st_iconst C dX11_device_5 (by decide) ?_
  refine st_icmp_ge (tgt := 13) C dX11_device_6 (by decide) (fun c_6 => ?_) (fun c_6 => by omega)
  refine st_iconst C dX11_device_13 (by decide) ?_
  refine st_iconst C dX11_device_14 (by decide) ?_
  refine st_callV (st := []) C dX11_device_15 [vI 0, vI 1] (k_no_f (p9 := 1) hm) hm w_X11_112 rfl (by decide) (by decide) (by omega) (by omega) (Nat.le_of_ble_eq_true rfl) (ko_rt ?_)
  show T x 18 [(0, vR 200)] [vI 1] (hput h 200 (oO 10 [vR 201, vR 202, vR 203, vR 204, vR 205, vR 206, vR 207, vR 208, vR 209, vR 210, vR 211, vR 212, vR 213, vR 214, vR 215, vR 216, vR 217, vR 218, vI mv, vI mrc, vI mmc, vI mmk, vI mdv, vI mwl, vI mwa, vI mwp, vI 1])) _ _
  refine st_if_eq (tgt := 23) C dX11_device_18 (by decide) (fun c_18 => by omega) (fun c_18 => ?_)
  refine st_iconst C dX11_device_21 (by decide) ?_
  exact st_ireturn C F dX11_device_22 rfl (by first | exact ⟨by with_reducible rfl, by with_reducible rfl⟩ | (exfalso; omega)) (by omega) (by omega)
set_option maxRecDepth 20000 in
set_option maxHeartbeats 4000000 in
theorem m_device {g : Gx} {h : HP} {mv mrc mmc mmk mdv mwl mwa mwp mth : Int} (hm : mO h mv mrc mmc mmk mdv mwl mwa mwp mth) (hdv : 0 ≤ mdv ∧ mdv ≤ 3) (hQ : mdv ≤ 2) : Ct g yX11_device (.code yX11_device cX11_device 1 (some .int)) 2 0 0 [vR 200] h (Rt (some (vI mdv)) (hput (hput h 200 (oO 10 [vR 201, vR 202, vR 203, vR 204, vR 205, vR 206, vR 207, vR 208, vR 209, vR 210, vR 211, vR 212, vR 213, vR 214, vR 215, vR 216, vR 217, vR 218, vI mv, vI mrc, vI mmc, vI mmk, vI mdv, vI mwl, vI mwa, vI mwp, vI 0])) 200 (oO 10 [vR 201, vR 202, vR 203, vR 204, vR 205, vR 206, vR 207, vR 208, vR 209, vR 210, vR 211, vR 212, vR 213, vR 214, vR 215, vR 216, vR 217, vR 218, vI mv, vI mrc, vI mmc, vI mmk, vI (mdv + 1), vI mwl, vI mwa, vI mwp, vI 0]))) := by
  refine Ct.of (by decide) (Nat.le_of_ble_eq_true rfl) (fun x hg C F => ?_)
  subst hg
  show T x 0 [(0, vR 200)] [] h 0 0
  refine st_aload_n C 0 dX11_device_0 rfl rfl ?_
  refine st_aload_n C 0 dX11_device_1 rfl rfl ?_
  refine st_getf C dX11_device_2 fl_X11_202 hm rfl ?_
  refine st_iconst C dX11_device_5 (by decide) ?_
  refine st_icmp_ge (tgt := 13) C dX11_device_6 (by decide) (fun c_6 => by omega) (fun c_6 => ?_)
  refine st_iconst C dX11_device_9 (by decide) ?_
  refine st_goto (tgt := 14) C dX11_device_10 (by decide) ?_
  refine st_iconst C dX11_device_14 (by decide) ?_
  refine st_callV (st := []) C dX11_device_15 [vI 1, vI 1] (k_no_t (p9 := 1) hm) hm w_X11_112 rfl (by decide) (by decide) (by omega) (by omega) (Nat.le_of_ble_eq_true rfl) (ko_rt ?_)
  show T x 18 [(0, vR 200)] [vI 0] (hput h 200 (oO 10 [vR 201, vR 202, vR 203, vR 204, vR 205, vR 206, vR 207, vR 208, vR 209, vR 210, vR 211, vR 212, vR 213, vR 214, vR 215, vR 216, vR 217, vR 218, vI mv, vI mrc, vI mmc, vI mmk, vI mdv, vI mwl, vI mwa, vI mwp, vI 0])) _ _
  refine st_if_eq (tgt := 23) C dX11_device_18 (by decide) (fun c_18 => ?_) (fun c_18 => by omega)
  refine st_aload_n C 0 dX11_device_23 rfl rfl ?_
  refine st_dup C dX11_device_24 rfl ?_
  refine st_getf C dX11_device_25 fl_X11_202 hput_s rfl ?_
  refine st_iconst C dX11_device_28 (by decide) ?_
  refine st_iadd C dX11_device_29 ⟨(by omega), (by omega)⟩ ?_
  refine st_putf C dX11_device_30 fp_X11_202 (fun q => by cases q) hput_s (Nat.le_of_ble_eq_true rfl) fit_int ?_
  show T x 33 [(0, vR 200)] [] (hput (hput h 200 (oO 10 [vR 201, vR 202, vR 203, vR 204, vR 205, vR 206, vR 207, vR 208, vR 209, vR 210, vR 211, vR 212, vR 213, vR 214, vR 215, vR 216, vR 217, vR 218, vI mv, vI mrc, vI mmc, vI mmk, vI mdv, vI mwl, vI mwa, vI mwp, vI 0])) 200 (oO 10 [vR 201, vR 202, vR 203, vR 204, vR 205, vR 206, vR 207, vR 208, vR 209, vR 210, vR 211, vR 212, vR 213, vR 214, vR 215, vR 216, vR 217, vR 218, vI mv, vI mrc, vI mmc, vI mmk, vI (mdv + 1), vI mwl, vI mwa, vI mwp, vI 0])) _ _
  refine st_aload_n C 0 dX11_device_33 rfl rfl ?_
  refine st_getf C dX11_device_34 fl_X11_202 hput_s rfl ?_
  refine st_iconst C dX11_device_37 (by decide) ?_
  refine st_isub C dX11_device_38 ⟨(by omega), (by omega)⟩ ?_
  exact st_ireturn C F dX11_device_39 rfl (by rw [show mdv + 1 - 1 = mdv by omega]; exact ⟨by with_reducible rfl, by with_reducible rfl⟩) (by omega) (by omega)
set_option maxRecDepth 20000 in
set_option maxHeartbeats 4000000 in
theorem m_ahead_x1 {g : Gx} {h : HP} {mv mrc mmc mmk mdv mwl mwa mwp mth : Int} {d9 : Int} (hm : mO h mv mrc mmc mmk mdv mwl mwa mwp mth) (hdv : 0 ≤ mdv ∧ mdv ≤ 3) (hD : ¬ (0 ≤ d9 ∧ d9 < mdv)) : Ct g yX11_ahead (.code yX11_ahead cX11_ahead 2 (some .int)) 3 0 0 [vR 200, vI d9] h (Rt (some (vI 0)) (hput h 200 (oO 10 [vR 201, vR 202, vR 203, vR 204, vR 205, vR 206, vR 207, vR 208, vR 209, vR 210, vR 211, vR 212, vR 213, vR 214, vR 215, vR 216, vR 217, vR 218, vI mv, vI mrc, vI mmc, vI mmk, vI mdv, vI mwl, vI mwa, vI mwp, vI 1]))) := by
  refine Ct.of (by decide) (Nat.le_of_ble_eq_true rfl) (fun x hg C F => ?_)
  subst hg
  show T x 0 [(0, vR 200), (1, vI d9)] [] h 0 0
  refine st_aload_n C 0 dX11_ahead_0 rfl rfl ?_
  refine st_aload_n C 0 dX11_ahead_1 rfl rfl ?_
  refine st_iload_n C 1 dX11_ahead_2 rfl rfl ?_
  refine st_callV (st := [vR 200]) C dX11_ahead_3 [vI d9] (k_isDevice_f (d9 := d9) hm hdv hD) hm w_X11_205 rfl (by decide) (by decide) (by omega) (by omega) (Nat.le_of_ble_eq_true rfl) (ko_rt ?_)
  show T x 6 [(0, vR 200), (1, vI d9)] [vI 0, vR 200] _ _ _
  refine st_iconst C dX11_ahead_6 (by decide) ?_
  refine st_callV (st := []) C dX11_ahead_7 [vI 0, vI 1] (k_no_f (p9 := 1) hm) hm w_X11_112 rfl (by decide) (by decide) (by omega) (by omega) (Nat.le_of_ble_eq_true rfl) (ko_rt ?_)
  show T x 10 [(0, vR 200), (1, vI d9)] [vI 1] (hput h 200 (oO 10 [vR 201, vR 202, vR 203, vR 204, vR 205, vR 206, vR 207, vR 208, vR 209, vR 210, vR 211, vR 212, vR 213, vR 214, vR 215, vR 216, vR 217, vR 218, vI mv, vI mrc, vI mmc, vI mmk, vI mdv, vI mwl, vI mwa, vI mwp, vI 1])) _ _
  refine st_if_eq (tgt := 17) C dX11_ahead_10 (by decide) (fun c_10 => by omega) (fun c_10 => ?_)
  refine st_iconst C dX11_ahead_13 (by decide) ?_
  refine st_goto (tgt := 23) C dX11_ahead_14 (by decide) ?_
  exact st_ireturn C F dX11_ahead_23 rfl (by first | exact ⟨by with_reducible rfl, by with_reducible rfl⟩ | (exfalso; omega)) (by omega) (by omega)
set_option maxRecDepth 20000 in
set_option maxHeartbeats 4000000 in
theorem m_ahead {g : Gx} {h : HP} {mv mrc mmc mmk mdv mwl mwa mwp mth : Int} {mh : Int → Int} {d9 : Int} (hm : mO h mv mrc mmc mmk mdv mwl mwa mwp mth) (h215 : h 215 = some (oI 3 mh)) (hdv : 0 ≤ mdv ∧ mdv ≤ 3) (hD : 0 ≤ d9 ∧ d9 < mdv) : Ct g yX11_ahead (.code yX11_ahead cX11_ahead 2 (some .int)) 3 0 0 [vR 200, vI d9] h (Rt (some (vI (mh d9))) (hput h 200 (oO 10 [vR 201, vR 202, vR 203, vR 204, vR 205, vR 206, vR 207, vR 208, vR 209, vR 210, vR 211, vR 212, vR 213, vR 214, vR 215, vR 216, vR 217, vR 218, vI mv, vI mrc, vI mmc, vI mmk, vI mdv, vI mwl, vI mwa, vI mwp, vI 0]))) := by
  refine Ct.of (by decide) (Nat.le_of_ble_eq_true rfl) (fun x hg C F => ?_)
  subst hg
  show T x 0 [(0, vR 200), (1, vI d9)] [] h 0 0
  refine st_aload_n C 0 dX11_ahead_0 rfl rfl ?_
  refine st_aload_n C 0 dX11_ahead_1 rfl rfl ?_
  refine st_iload_n C 1 dX11_ahead_2 rfl rfl ?_
  refine st_callV (st := [vR 200]) C dX11_ahead_3 [vI d9] (k_isDevice_t (d9 := d9) hm hdv hD) hm w_X11_205 rfl (by decide) (by decide) (by omega) (by omega) (Nat.le_of_ble_eq_true rfl) (ko_rt ?_)
  show T x 6 [(0, vR 200), (1, vI d9)] [vI 1, vR 200] _ _ _
  refine st_iconst C dX11_ahead_6 (by decide) ?_
  refine st_callV (st := []) C dX11_ahead_7 [vI 1, vI 1] (k_no_t (p9 := 1) hm) hm w_X11_112 rfl (by decide) (by decide) (by omega) (by omega) (Nat.le_of_ble_eq_true rfl) (ko_rt ?_)
  show T x 10 [(0, vR 200), (1, vI d9)] [vI 0] (hput h 200 (oO 10 [vR 201, vR 202, vR 203, vR 204, vR 205, vR 206, vR 207, vR 208, vR 209, vR 210, vR 211, vR 212, vR 213, vR 214, vR 215, vR 216, vR 217, vR 218, vI mv, vI mrc, vI mmc, vI mmk, vI mdv, vI mwl, vI mwa, vI mwp, vI 0])) _ _
  refine st_if_eq (tgt := 17) C dX11_ahead_10 (by decide) (fun c_10 => ?_) (fun c_10 => by omega)
  refine st_aload_n C 0 dX11_ahead_17 rfl rfl ?_
  refine st_getf C dX11_ahead_18 fl_X11_53 hput_s rfl ?_
  refine st_iload_n C 1 dX11_ahead_21 rfl rfl ?_
  refine st_iald C dX11_ahead_22 (hput_o (by omega) h215) (by omega) (by omega) ?_
  exact st_ireturn C F dX11_ahead_23 rfl (by first | exact ⟨by with_reducible rfl, by with_reducible rfl⟩ | (exfalso; omega)) (by omega) (by omega)
set_option maxRecDepth 20000 in
set_option maxHeartbeats 4000000 in
theorem m_note_x1 {g : Gx} {h : HP} {mv mrc mmc mmk mdv mwl mwa mwp mth : Int} {mn : Int → Int} {my : Int → Int} {d9 : Int} {t9 l9 x9 y9 v9 : Int} (hm : mO h mv mrc mmc mmk mdv mwl mwa mwp mth) (h213 : h 213 = some (oI 180 mn)) (h214 : h 214 = some (oI 3 my)) (hdv : 0 ≤ mdv ∧ mdv ≤ 3) (hD : ¬ (0 ≤ d9 ∧ d9 < mdv)) : Ct g yX11_note (.code yX11_note cX11_note 9 (some .int)) 4 0 0 [vR 200, vI d9, vI t9, vI l9, vI x9, vI y9, vI v9] h (Rt (some (vI 0)) (hput h 200 (oO 10 [vR 201, vR 202, vR 203, vR 204, vR 205, vR 206, vR 207, vR 208, vR 209, vR 210, vR 211, vR 212, vR 213, vR 214, vR 215, vR 216, vR 217, vR 218, vI mv, vI mrc, vI mmc, vI mmk, vI mdv, vI mwl, vI mwa, vI mwp, vI 1]))) := by
  refine Ct.of (by decide) (Nat.le_of_ble_eq_true rfl) (fun x hg C F => ?_)
  subst hg
  show T x 0 [(0, vR 200), (1, vI d9), (2, vI t9), (3, vI l9), (4, vI x9), (5, vI y9), (6, vI v9)] [] h 0 0
  refine st_iload_n C 2 dX11_note_0 rfl rfl ?_
  refine st_iconst C dX11_note_1 (by decide) ?_
  refine st_sipush C dX11_note_2 (by decide) (by decide) ?_
  by_cases b_5 : 0 ≤ t9 ∧ t9 ≤ 9999
  · refine st_callS (st := []) C dX11_note_5 [vI t9, vI 0, vI 9999] (k_isIn_t (v9 := t9) (l9 := 0) (u9 := 9999)  b_5) w_X11_75 rfl (by decide) (by decide) (by omega) (by omega) (Nat.le_of_ble_eq_true rfl) (ko_rt ?_)
    show T x 8 [(0, vR 200), (1, vI d9), (2, vI t9), (3, vI l9), (4, vI x9), (5, vI y9), (6, vI v9)] [vI 1] _ _ _
    refine st_if_eq (tgt := 37) C dX11_note_8 (by decide) (fun c_8 => by omega) (fun c_8 => ?_)
    refine st_iload_n C 3 dX11_note_11 rfl rfl ?_
    refine st_iload C dX11_note_12 rfl ?_
    refine st_iload C dX11_note_14 rfl ?_
    by_cases b_16 : 0 ≤ l9 ∧ l9 ≤ 2 ∧ 0 ≤ x9 ∧ x9 ≤ 7 ∧ 0 ≤ y9 ∧ y9 ≤ 7
    · refine st_callS (st := []) C dX11_note_16 [vI l9, vI x9, vI y9] (k_mPlace_t (v9 := l9) (x9 := x9) (y9 := y9)  b_16) w_X11_132 rfl (by decide) (by decide) (by omega) (by omega) (Nat.le_of_ble_eq_true rfl) (ko_rt ?_)
      show T x 19 [(0, vR 200), (1, vI d9), (2, vI t9), (3, vI l9), (4, vI x9), (5, vI y9), (6, vI v9)] [vI 1] _ _ _
      refine st_if_eq (tgt := 37) C dX11_note_19 (by decide) (fun c_19 => by omega) (fun c_19 => ?_)
      refine st_iload C dX11_note_22 rfl ?_
      refine st_iconst C dX11_note_24 (by decide) ?_
      refine st_bipush C dX11_note_25 (by decide) (by decide) ?_
      by_cases b_27 : 0 ≤ v9 ∧ v9 ≤ 9
      · refine st_callS (st := []) C dX11_note_27 [vI v9, vI 0, vI 9] (k_isIn_t (v9 := v9) (l9 := 0) (u9 := 9)  b_27) w_X11_75 rfl (by decide) (by decide) (by omega) (by omega) (Nat.le_of_ble_eq_true rfl) (ko_rt ?_)
        show T x 30 [(0, vR 200), (1, vI d9), (2, vI t9), (3, vI l9), (4, vI x9), (5, vI y9), (6, vI v9)] [vI 1] _ _ _
        refine st_if_eq (tgt := 37) C dX11_note_30 (by decide) (fun c_30 => by omega) (fun c_30 => ?_)
        refine st_iconst C dX11_note_33 (by decide) ?_
        refine st_goto (tgt := 38) C dX11_note_34 (by decide) ?_
        refine st_istore C dX11_note_38 (by decide) rfl ?_
        show T x 40 [(0, vR 200), (1, vI d9), (2, vI t9), (3, vI l9), (4, vI x9), (5, vI y9), (6, vI v9), (7, vI 1)] [] _ _ _
        refine st_aload_n C 0 dX11_note_40 rfl rfl ?_
        refine st_aload_n C 0 dX11_note_41 rfl rfl ?_
        refine st_iload_n C 1 dX11_note_42 rfl rfl ?_
        refine st_callV (st := [vR 200]) C dX11_note_43 [vI d9] (k_isDevice_f (d9 := d9) hm hdv hD) hm w_X11_205 rfl (by decide) (by decide) (by omega) (by omega) (Nat.le_of_ble_eq_true rfl) (ko_rt ?_)
        show T x 46 [(0, vR 200), (1, vI d9), (2, vI t9), (3, vI l9), (4, vI x9), (5, vI y9), (6, vI v9), (7, vI 1)] [vI 0, vR 200] _ _ _
        refine st_iconst C dX11_note_46 (by decide) ?_
        refine st_callV (st := []) C dX11_note_47 [vI 0, vI 1] (k_no_f (p9 := 1) hm) hm w_X11_112 rfl (by decide) (by decide) (by omega) (by omega) (Nat.le_of_ble_eq_true rfl) (ko_rt ?_)
        show T x 50 [(0, vR 200), (1, vI d9), (2, vI t9), (3, vI l9), (4, vI x9), (5, vI y9), (6, vI v9), (7, vI 1)] [vI 1] (hput h 200 (oO 10 [vR 201, vR 202, vR 203, vR 204, vR 205, vR 206, vR 207, vR 208, vR 209, vR 210, vR 211, vR 212, vR 213, vR 214, vR 215, vR 216, vR 217, vR 218, vI mv, vI mrc, vI mmc, vI mmk, vI mdv, vI mwl, vI mwa, vI mwp, vI 1])) _ _
        refine st_if_ne (tgt := 87) C dX11_note_50 (by decide) (fun c_50 => ?_) (fun c_50 => by omega)
        refine st_iconst C dX11_note_87 (by decide) ?_
        exact st_ireturn C F dX11_note_88 rfl (by first | exact ⟨by with_reducible rfl, by with_reducible rfl⟩ | (exfalso; omega)) (by omega) (by omega)
      · refine st_callS (st := []) C dX11_note_27 [vI v9, vI 0, vI 9] (k_isIn_f (v9 := v9) (l9 := 0) (u9 := 9)  b_27) w_X11_75 rfl (by decide) (by decide) (by omega) (by omega) (Nat.le_of_ble_eq_true rfl) (ko_rt ?_)
        show T x 30 [(0, vR 200), (1, vI d9), (2, vI t9), (3, vI l9), (4, vI x9), (5, vI y9), (6, vI v9)] [vI 0] _ _ _
        refine st_if_eq (tgt := 37) C dX11_note_30 (by decide) (fun c_30 => ?_) (fun c_30 => by omega)
        refine st_iconst C dX11_note_37 (by decide) ?_
        refine st_istore C dX11_note_38 (by decide) rfl ?_
        show T x 40 [(0, vR 200), (1, vI d9), (2, vI t9), (3, vI l9), (4, vI x9), (5, vI y9), (6, vI v9), (7, vI 0)] [] _ _ _
        refine st_aload_n C 0 dX11_note_40 rfl rfl ?_
        refine st_aload_n C 0 dX11_note_41 rfl rfl ?_
        refine st_iload_n C 1 dX11_note_42 rfl rfl ?_
        refine st_callV (st := [vR 200]) C dX11_note_43 [vI d9] (k_isDevice_f (d9 := d9) hm hdv hD) hm w_X11_205 rfl (by decide) (by decide) (by omega) (by omega) (Nat.le_of_ble_eq_true rfl) (ko_rt ?_)
        show T x 46 [(0, vR 200), (1, vI d9), (2, vI t9), (3, vI l9), (4, vI x9), (5, vI y9), (6, vI v9), (7, vI 0)] [vI 0, vR 200] _ _ _
        refine st_iconst C dX11_note_46 (by decide) ?_
        refine st_callV (st := []) C dX11_note_47 [vI 0, vI 1] (k_no_f (p9 := 1) hm) hm w_X11_112 rfl (by decide) (by decide) (by omega) (by omega) (Nat.le_of_ble_eq_true rfl) (ko_rt ?_)
        show T x 50 [(0, vR 200), (1, vI d9), (2, vI t9), (3, vI l9), (4, vI x9), (5, vI y9), (6, vI v9), (7, vI 0)] [vI 1] (hput h 200 (oO 10 [vR 201, vR 202, vR 203, vR 204, vR 205, vR 206, vR 207, vR 208, vR 209, vR 210, vR 211, vR 212, vR 213, vR 214, vR 215, vR 216, vR 217, vR 218, vI mv, vI mrc, vI mmc, vI mmk, vI mdv, vI mwl, vI mwa, vI mwp, vI 1])) _ _
        refine st_if_ne (tgt := 87) C dX11_note_50 (by decide) (fun c_50 => ?_) (fun c_50 => by omega)
        refine st_iconst C dX11_note_87 (by decide) ?_
        exact st_ireturn C F dX11_note_88 rfl (by first | exact ⟨by with_reducible rfl, by with_reducible rfl⟩ | (exfalso; omega)) (by omega) (by omega)
    · refine st_callS (st := []) C dX11_note_16 [vI l9, vI x9, vI y9] (k_mPlace_f (v9 := l9) (x9 := x9) (y9 := y9)  b_16) w_X11_132 rfl (by decide) (by decide) (by omega) (by omega) (Nat.le_of_ble_eq_true rfl) (ko_rt ?_)
      show T x 19 [(0, vR 200), (1, vI d9), (2, vI t9), (3, vI l9), (4, vI x9), (5, vI y9), (6, vI v9)] [vI 0] _ _ _
      refine st_if_eq (tgt := 37) C dX11_note_19 (by decide) (fun c_19 => ?_) (fun c_19 => by omega)
      refine st_iconst C dX11_note_37 (by decide) ?_
      refine st_istore C dX11_note_38 (by decide) rfl ?_
      show T x 40 [(0, vR 200), (1, vI d9), (2, vI t9), (3, vI l9), (4, vI x9), (5, vI y9), (6, vI v9), (7, vI 0)] [] _ _ _
      refine st_aload_n C 0 dX11_note_40 rfl rfl ?_
      refine st_aload_n C 0 dX11_note_41 rfl rfl ?_
      refine st_iload_n C 1 dX11_note_42 rfl rfl ?_
      refine st_callV (st := [vR 200]) C dX11_note_43 [vI d9] (k_isDevice_f (d9 := d9) hm hdv hD) hm w_X11_205 rfl (by decide) (by decide) (by omega) (by omega) (Nat.le_of_ble_eq_true rfl) (ko_rt ?_)
      show T x 46 [(0, vR 200), (1, vI d9), (2, vI t9), (3, vI l9), (4, vI x9), (5, vI y9), (6, vI v9), (7, vI 0)] [vI 0, vR 200] _ _ _
      refine st_iconst C dX11_note_46 (by decide) ?_
      refine st_callV (st := []) C dX11_note_47 [vI 0, vI 1] (k_no_f (p9 := 1) hm) hm w_X11_112 rfl (by decide) (by decide) (by omega) (by omega) (Nat.le_of_ble_eq_true rfl) (ko_rt ?_)
      show T x 50 [(0, vR 200), (1, vI d9), (2, vI t9), (3, vI l9), (4, vI x9), (5, vI y9), (6, vI v9), (7, vI 0)] [vI 1] (hput h 200 (oO 10 [vR 201, vR 202, vR 203, vR 204, vR 205, vR 206, vR 207, vR 208, vR 209, vR 210, vR 211, vR 212, vR 213, vR 214, vR 215, vR 216, vR 217, vR 218, vI mv, vI mrc, vI mmc, vI mmk, vI mdv, vI mwl, vI mwa, vI mwp, vI 1])) _ _
      refine st_if_ne (tgt := 87) C dX11_note_50 (by decide) (fun c_50 => ?_) (fun c_50 => by omega)
      refine st_iconst C dX11_note_87 (by decide) ?_
      exact st_ireturn C F dX11_note_88 rfl (by first | exact ⟨by with_reducible rfl, by with_reducible rfl⟩ | (exfalso; omega)) (by omega) (by omega)
  · refine st_callS (st := []) C dX11_note_5 [vI t9, vI 0, vI 9999] (k_isIn_f (v9 := t9) (l9 := 0) (u9 := 9999)  b_5) w_X11_75 rfl (by decide) (by decide) (by omega) (by omega) (Nat.le_of_ble_eq_true rfl) (ko_rt ?_)
    show T x 8 [(0, vR 200), (1, vI d9), (2, vI t9), (3, vI l9), (4, vI x9), (5, vI y9), (6, vI v9)] [vI 0] _ _ _
    refine st_if_eq (tgt := 37) C dX11_note_8 (by decide) (fun c_8 => ?_) (fun c_8 => by omega)
    refine st_iconst C dX11_note_37 (by decide) ?_
    refine st_istore C dX11_note_38 (by decide) rfl ?_
    show T x 40 [(0, vR 200), (1, vI d9), (2, vI t9), (3, vI l9), (4, vI x9), (5, vI y9), (6, vI v9), (7, vI 0)] [] _ _ _
    refine st_aload_n C 0 dX11_note_40 rfl rfl ?_
    refine st_aload_n C 0 dX11_note_41 rfl rfl ?_
    refine st_iload_n C 1 dX11_note_42 rfl rfl ?_
    refine st_callV (st := [vR 200]) C dX11_note_43 [vI d9] (k_isDevice_f (d9 := d9) hm hdv hD) hm w_X11_205 rfl (by decide) (by decide) (by omega) (by omega) (Nat.le_of_ble_eq_true rfl) (ko_rt ?_)
    show T x 46 [(0, vR 200), (1, vI d9), (2, vI t9), (3, vI l9), (4, vI x9), (5, vI y9), (6, vI v9), (7, vI 0)] [vI 0, vR 200] _ _ _
    refine st_iconst C dX11_note_46 (by decide) ?_
    refine st_callV (st := []) C dX11_note_47 [vI 0, vI 1] (k_no_f (p9 := 1) hm) hm w_X11_112 rfl (by decide) (by decide) (by omega) (by omega) (Nat.le_of_ble_eq_true rfl) (ko_rt ?_)
    show T x 50 [(0, vR 200), (1, vI d9), (2, vI t9), (3, vI l9), (4, vI x9), (5, vI y9), (6, vI v9), (7, vI 0)] [vI 1] (hput h 200 (oO 10 [vR 201, vR 202, vR 203, vR 204, vR 205, vR 206, vR 207, vR 208, vR 209, vR 210, vR 211, vR 212, vR 213, vR 214, vR 215, vR 216, vR 217, vR 218, vI mv, vI mrc, vI mmc, vI mmk, vI mdv, vI mwl, vI mwa, vI mwp, vI 1])) _ _
    refine st_if_ne (tgt := 87) C dX11_note_50 (by decide) (fun c_50 => ?_) (fun c_50 => by omega)
    refine st_iconst C dX11_note_87 (by decide) ?_
    exact st_ireturn C F dX11_note_88 rfl (by first | exact ⟨by with_reducible rfl, by with_reducible rfl⟩ | (exfalso; omega)) (by omega) (by omega)
set_option maxRecDepth 20000 in
set_option maxHeartbeats 4000000 in
theorem m_note_x2 {g : Gx} {h : HP} {mv mrc mmc mmk mdv mwl mwa mwp mth : Int} {mn : Int → Int} {my : Int → Int} {d9 : Int} {t9 l9 x9 y9 v9 : Int} (hm : mO h mv mrc mmc mmk mdv mwl mwa mwp mth) (h213 : h 213 = some (oI 180 mn)) (h214 : h 214 = some (oI 3 my)) (hdv : 0 ≤ mdv ∧ mdv ≤ 3) (hD : 0 ≤ d9 ∧ d9 < mdv) (hQ : ¬ ((0 ≤ t9 ∧ t9 ≤ 9999) ∧ (0 ≤ l9 ∧ l9 ≤ 2 ∧ 0 ≤ x9 ∧ x9 ≤ 7 ∧ 0 ≤ y9 ∧ y9 ≤ 7) ∧ 0 ≤ v9 ∧ v9 ≤ 9)) : Ct g yX11_note (.code yX11_note cX11_note 9 (some .int)) 4 0 0 [vR 200, vI d9, vI t9, vI l9, vI x9, vI y9, vI v9] h (Rt (some (vI 0)) (hput (hput h 200 (oO 10 [vR 201, vR 202, vR 203, vR 204, vR 205, vR 206, vR 207, vR 208, vR 209, vR 210, vR 211, vR 212, vR 213, vR 214, vR 215, vR 216, vR 217, vR 218, vI mv, vI mrc, vI mmc, vI mmk, vI mdv, vI mwl, vI mwa, vI mwp, vI 0])) 200 (oO 10 [vR 201, vR 202, vR 203, vR 204, vR 205, vR 206, vR 207, vR 208, vR 209, vR 210, vR 211, vR 212, vR 213, vR 214, vR 215, vR 216, vR 217, vR 218, vI mv, vI mrc, vI mmc, vI mmk, vI mdv, vI mwl, vI mwa, vI mwp, vI 2]))) := by
  refine Ct.of (by decide) (Nat.le_of_ble_eq_true rfl) (fun x hg C F => ?_)
  subst hg
  show T x 0 [(0, vR 200), (1, vI d9), (2, vI t9), (3, vI l9), (4, vI x9), (5, vI y9), (6, vI v9)] [] h 0 0
  refine st_iload_n C 2 dX11_note_0 rfl rfl ?_
  refine st_iconst C dX11_note_1 (by decide) ?_
  refine st_sipush C dX11_note_2 (by decide) (by decide) ?_
  by_cases b_5 : 0 ≤ t9 ∧ t9 ≤ 9999
  · refine st_callS (st := []) C dX11_note_5 [vI t9, vI 0, vI 9999] (k_isIn_t (v9 := t9) (l9 := 0) (u9 := 9999)  b_5) w_X11_75 rfl (by decide) (by decide) (by omega) (by omega) (Nat.le_of_ble_eq_true rfl) (ko_rt ?_)
    show T x 8 [(0, vR 200), (1, vI d9), (2, vI t9), (3, vI l9), (4, vI x9), (5, vI y9), (6, vI v9)] [vI 1] _ _ _
    refine st_if_eq (tgt := 37) C dX11_note_8 (by decide) (fun c_8 => by omega) (fun c_8 => ?_)
    refine st_iload_n C 3 dX11_note_11 rfl rfl ?_
    refine st_iload C dX11_note_12 rfl ?_
    refine st_iload C dX11_note_14 rfl ?_
    by_cases b_16 : 0 ≤ l9 ∧ l9 ≤ 2 ∧ 0 ≤ x9 ∧ x9 ≤ 7 ∧ 0 ≤ y9 ∧ y9 ≤ 7
    · refine st_callS (st := []) C dX11_note_16 [vI l9, vI x9, vI y9] (k_mPlace_t (v9 := l9) (x9 := x9) (y9 := y9)  b_16) w_X11_132 rfl (by decide) (by decide) (by omega) (by omega) (Nat.le_of_ble_eq_true rfl) (ko_rt ?_)
      show T x 19 [(0, vR 200), (1, vI d9), (2, vI t9), (3, vI l9), (4, vI x9), (5, vI y9), (6, vI v9)] [vI 1] _ _ _
      refine st_if_eq (tgt := 37) C dX11_note_19 (by decide) (fun c_19 => by omega) (fun c_19 => ?_)
      refine st_iload C dX11_note_22 rfl ?_
      refine st_iconst C dX11_note_24 (by decide) ?_
      refine st_bipush C dX11_note_25 (by decide) (by decide) ?_
      by_cases b_27 : 0 ≤ v9 ∧ v9 ≤ 9
      · refine st_callS (st := []) C dX11_note_27 [vI v9, vI 0, vI 9] (k_isIn_t (v9 := v9) (l9 := 0) (u9 := 9)  b_27) w_X11_75 rfl (by decide) (by decide) (by omega) (by omega) (Nat.le_of_ble_eq_true rfl) (ko_rt ?_)
        show T x 30 [(0, vR 200), (1, vI d9), (2, vI t9), (3, vI l9), (4, vI x9), (5, vI y9), (6, vI v9)] [vI 1] _ _ _
        refine st_if_eq (tgt := 37) C dX11_note_30 (by decide) (fun c_30 => by omega) (fun c_30 => ?_)
        refine st_iconst C dX11_note_33 (by decide) ?_
        refine st_goto (tgt := 38) C dX11_note_34 (by decide) ?_
        refine st_istore C dX11_note_38 (by decide) rfl ?_
        show T x 40 [(0, vR 200), (1, vI d9), (2, vI t9), (3, vI l9), (4, vI x9), (5, vI y9), (6, vI v9), (7, vI 1)] [] _ _ _
        refine st_aload_n C 0 dX11_note_40 rfl rfl ?_
        refine st_aload_n C 0 dX11_note_41 rfl rfl ?_
        refine st_iload_n C 1 dX11_note_42 rfl rfl ?_
        refine st_callV (st := [vR 200]) C dX11_note_43 [vI d9] (k_isDevice_t (d9 := d9) hm hdv hD) hm w_X11_205 rfl (by decide) (by decide) (by omega) (by omega) (Nat.le_of_ble_eq_true rfl) (ko_rt ?_)
        show T x 46 [(0, vR 200), (1, vI d9), (2, vI t9), (3, vI l9), (4, vI x9), (5, vI y9), (6, vI v9), (7, vI 1)] [vI 1, vR 200] _ _ _
        refine st_iconst C dX11_note_46 (by decide) ?_
        refine st_callV (st := []) C dX11_note_47 [vI 1, vI 1] (k_no_t (p9 := 1) hm) hm w_X11_112 rfl (by decide) (by decide) (by omega) (by omega) (Nat.le_of_ble_eq_true rfl) (ko_rt ?_)
        show T x 50 [(0, vR 200), (1, vI d9), (2, vI t9), (3, vI l9), (4, vI x9), (5, vI y9), (6, vI v9), (7, vI 1)] [vI 0] (hput h 200 (oO 10 [vR 201, vR 202, vR 203, vR 204, vR 205, vR 206, vR 207, vR 208, vR 209, vR 210, vR 211, vR 212, vR 213, vR 214, vR 215, vR 216, vR 217, vR 218, vI mv, vI mrc, vI mmc, vI mmk, vI mdv, vI mwl, vI mwa, vI mwp, vI 0])) _ _
        refine st_if_ne (tgt := 87) C dX11_note_50 (by decide) (fun c_50 => by omega) (fun c_50 => ?_)
        refine st_aload_n C 0 dX11_note_53 rfl rfl ?_
        refine st_iload C dX11_note_54 rfl ?_
        refine st_iconst C dX11_note_56 (by decide) ?_
        exfalso; omega
      · refine st_callS (st := []) C dX11_note_27 [vI v9, vI 0, vI 9] (k_isIn_f (v9 := v9) (l9 := 0) (u9 := 9)  b_27) w_X11_75 rfl (by decide) (by decide) (by omega) (by omega) (Nat.le_of_ble_eq_true rfl) (ko_rt ?_)
        show T x 30 [(0, vR 200), (1, vI d9), (2, vI t9), (3, vI l9), (4, vI x9), (5, vI y9), (6, vI v9)] [vI 0] _ _ _
        refine st_if_eq (tgt := 37) C dX11_note_30 (by decide) (fun c_30 => ?_) (fun c_30 => by omega)
        refine st_iconst C dX11_note_37 (by decide) ?_
        refine st_istore C dX11_note_38 (by decide) rfl ?_
        show T x 40 [(0, vR 200), (1, vI d9), (2, vI t9), (3, vI l9), (4, vI x9), (5, vI y9), (6, vI v9), (7, vI 0)] [] _ _ _
        refine st_aload_n C 0 dX11_note_40 rfl rfl ?_
        refine st_aload_n C 0 dX11_note_41 rfl rfl ?_
        refine st_iload_n C 1 dX11_note_42 rfl rfl ?_
        refine st_callV (st := [vR 200]) C dX11_note_43 [vI d9] (k_isDevice_t (d9 := d9) hm hdv hD) hm w_X11_205 rfl (by decide) (by decide) (by omega) (by omega) (Nat.le_of_ble_eq_true rfl) (ko_rt ?_)
        show T x 46 [(0, vR 200), (1, vI d9), (2, vI t9), (3, vI l9), (4, vI x9), (5, vI y9), (6, vI v9), (7, vI 0)] [vI 1, vR 200] _ _ _
        refine st_iconst C dX11_note_46 (by decide) ?_
        refine st_callV (st := []) C dX11_note_47 [vI 1, vI 1] (k_no_t (p9 := 1) hm) hm w_X11_112 rfl (by decide) (by decide) (by omega) (by omega) (Nat.le_of_ble_eq_true rfl) (ko_rt ?_)
        show T x 50 [(0, vR 200), (1, vI d9), (2, vI t9), (3, vI l9), (4, vI x9), (5, vI y9), (6, vI v9), (7, vI 0)] [vI 0] (hput h 200 (oO 10 [vR 201, vR 202, vR 203, vR 204, vR 205, vR 206, vR 207, vR 208, vR 209, vR 210, vR 211, vR 212, vR 213, vR 214, vR 215, vR 216, vR 217, vR 218, vI mv, vI mrc, vI mmc, vI mmk, vI mdv, vI mwl, vI mwa, vI mwp, vI 0])) _ _
        refine st_if_ne (tgt := 87) C dX11_note_50 (by decide) (fun c_50 => by omega) (fun c_50 => ?_)
        refine st_aload_n C 0 dX11_note_53 rfl rfl ?_
        refine st_iload C dX11_note_54 rfl ?_
        refine st_iconst C dX11_note_56 (by decide) ?_
        refine st_callV (st := []) C dX11_note_57 [vI 0, vI 2] (k_no_f (p9 := 2) hput_s) hput_s w_X11_112 rfl (by decide) (by decide) (by omega) (by omega) (Nat.le_of_ble_eq_true rfl) (ko_rt ?_)
        show T x 60 [(0, vR 200), (1, vI d9), (2, vI t9), (3, vI l9), (4, vI x9), (5, vI y9), (6, vI v9), (7, vI 0)] [vI 1] (hput (hput h 200 (oO 10 [vR 201, vR 202, vR 203, vR 204, vR 205, vR 206, vR 207, vR 208, vR 209, vR 210, vR 211, vR 212, vR 213, vR 214, vR 215, vR 216, vR 217, vR 218, vI mv, vI mrc, vI mmc, vI mmk, vI mdv, vI mwl, vI mwa, vI mwp, vI 0])) 200 (oO 10 [vR 201, vR 202, vR 203, vR 204, vR 205, vR 206, vR 207, vR 208, vR 209, vR 210, vR 211, vR 212, vR 213, vR 214, vR 215, vR 216, vR 217, vR 218, vI mv, vI mrc, vI mmc, vI mmk, vI mdv, vI mwl, vI mwa, vI mwp, vI 2])) _ _
        refine st_if_ne (tgt := 87) C dX11_note_60 (by decide) (fun c_60 => ?_) (fun c_60 => by omega)
        refine st_iconst C dX11_note_87 (by decide) ?_
        exact st_ireturn C F dX11_note_88 rfl (by first | (exfalso; omega) | exact ⟨by with_reducible rfl, by with_reducible rfl⟩) (by omega) (by omega)
    · refine st_callS (st := []) C dX11_note_16 [vI l9, vI x9, vI y9] (k_mPlace_f (v9 := l9) (x9 := x9) (y9 := y9)  b_16) w_X11_132 rfl (by decide) (by decide) (by omega) (by omega) (Nat.le_of_ble_eq_true rfl) (ko_rt ?_)
      show T x 19 [(0, vR 200), (1, vI d9), (2, vI t9), (3, vI l9), (4, vI x9), (5, vI y9), (6, vI v9)] [vI 0] _ _ _
      refine st_if_eq (tgt := 37) C dX11_note_19 (by decide) (fun c_19 => ?_) (fun c_19 => by omega)
      refine st_iconst C dX11_note_37 (by decide) ?_
      refine st_istore C dX11_note_38 (by decide) rfl ?_
      show T x 40 [(0, vR 200), (1, vI d9), (2, vI t9), (3, vI l9), (4, vI x9), (5, vI y9), (6, vI v9), (7, vI 0)] [] _ _ _
      refine st_aload_n C 0 dX11_note_40 rfl rfl ?_
      refine st_aload_n C 0 dX11_note_41 rfl rfl ?_
      refine st_iload_n C 1 dX11_note_42 rfl rfl ?_
      refine st_callV (st := [vR 200]) C dX11_note_43 [vI d9] (k_isDevice_t (d9 := d9) hm hdv hD) hm w_X11_205 rfl (by decide) (by decide) (by omega) (by omega) (Nat.le_of_ble_eq_true rfl) (ko_rt ?_)
      show T x 46 [(0, vR 200), (1, vI d9), (2, vI t9), (3, vI l9), (4, vI x9), (5, vI y9), (6, vI v9), (7, vI 0)] [vI 1, vR 200] _ _ _
      refine st_iconst C dX11_note_46 (by decide) ?_
      refine st_callV (st := []) C dX11_note_47 [vI 1, vI 1] (k_no_t (p9 := 1) hm) hm w_X11_112 rfl (by decide) (by decide) (by omega) (by omega) (Nat.le_of_ble_eq_true rfl) (ko_rt ?_)
      show T x 50 [(0, vR 200), (1, vI d9), (2, vI t9), (3, vI l9), (4, vI x9), (5, vI y9), (6, vI v9), (7, vI 0)] [vI 0] (hput h 200 (oO 10 [vR 201, vR 202, vR 203, vR 204, vR 205, vR 206, vR 207, vR 208, vR 209, vR 210, vR 211, vR 212, vR 213, vR 214, vR 215, vR 216, vR 217, vR 218, vI mv, vI mrc, vI mmc, vI mmk, vI mdv, vI mwl, vI mwa, vI mwp, vI 0])) _ _
      refine st_if_ne (tgt := 87) C dX11_note_50 (by decide) (fun c_50 => by omega) (fun c_50 => ?_)
      refine st_aload_n C 0 dX11_note_53 rfl rfl ?_
      refine st_iload C dX11_note_54 rfl ?_
      refine st_iconst C dX11_note_56 (by decide) ?_
      refine st_callV (st := []) C dX11_note_57 [vI 0, vI 2] (k_no_f (p9 := 2) hput_s) hput_s w_X11_112 rfl (by decide) (by decide) (by omega) (by omega) (Nat.le_of_ble_eq_true rfl) (ko_rt ?_)
      show T x 60 [(0, vR 200), (1, vI d9), (2, vI t9), (3, vI l9), (4, vI x9), (5, vI y9), (6, vI v9), (7, vI 0)] [vI 1] (hput (hput h 200 (oO 10 [vR 201, vR 202, vR 203, vR 204, vR 205, vR 206, vR 207, vR 208, vR 209, vR 210, vR 211, vR 212, vR 213, vR 214, vR 215, vR 216, vR 217, vR 218, vI mv, vI mrc, vI mmc, vI mmk, vI mdv, vI mwl, vI mwa, vI mwp, vI 0])) 200 (oO 10 [vR 201, vR 202, vR 203, vR 204, vR 205, vR 206, vR 207, vR 208, vR 209, vR 210, vR 211, vR 212, vR 213, vR 214, vR 215, vR 216, vR 217, vR 218, vI mv, vI mrc, vI mmc, vI mmk, vI mdv, vI mwl, vI mwa, vI mwp, vI 2])) _ _
      refine st_if_ne (tgt := 87) C dX11_note_60 (by decide) (fun c_60 => ?_) (fun c_60 => by omega)
      refine st_iconst C dX11_note_87 (by decide) ?_
      exact st_ireturn C F dX11_note_88 rfl (by first | (exfalso; omega) | exact ⟨by with_reducible rfl, by with_reducible rfl⟩) (by omega) (by omega)
  · refine st_callS (st := []) C dX11_note_5 [vI t9, vI 0, vI 9999] (k_isIn_f (v9 := t9) (l9 := 0) (u9 := 9999)  b_5) w_X11_75 rfl (by decide) (by decide) (by omega) (by omega) (Nat.le_of_ble_eq_true rfl) (ko_rt ?_)
    show T x 8 [(0, vR 200), (1, vI d9), (2, vI t9), (3, vI l9), (4, vI x9), (5, vI y9), (6, vI v9)] [vI 0] _ _ _
    refine st_if_eq (tgt := 37) C dX11_note_8 (by decide) (fun c_8 => ?_) (fun c_8 => by omega)
    refine st_iconst C dX11_note_37 (by decide) ?_
    refine st_istore C dX11_note_38 (by decide) rfl ?_
    show T x 40 [(0, vR 200), (1, vI d9), (2, vI t9), (3, vI l9), (4, vI x9), (5, vI y9), (6, vI v9), (7, vI 0)] [] _ _ _
    refine st_aload_n C 0 dX11_note_40 rfl rfl ?_
    refine st_aload_n C 0 dX11_note_41 rfl rfl ?_
    refine st_iload_n C 1 dX11_note_42 rfl rfl ?_
    refine st_callV (st := [vR 200]) C dX11_note_43 [vI d9] (k_isDevice_t (d9 := d9) hm hdv hD) hm w_X11_205 rfl (by decide) (by decide) (by omega) (by omega) (Nat.le_of_ble_eq_true rfl) (ko_rt ?_)
    show T x 46 [(0, vR 200), (1, vI d9), (2, vI t9), (3, vI l9), (4, vI x9), (5, vI y9), (6, vI v9), (7, vI 0)] [vI 1, vR 200] _ _ _
    refine st_iconst C dX11_note_46 (by decide) ?_
    refine st_callV (st := []) C dX11_note_47 [vI 1, vI 1] (k_no_t (p9 := 1) hm) hm w_X11_112 rfl (by decide) (by decide) (by omega) (by omega) (Nat.le_of_ble_eq_true rfl) (ko_rt ?_)
    show T x 50 [(0, vR 200), (1, vI d9), (2, vI t9), (3, vI l9), (4, vI x9), (5, vI y9), (6, vI v9), (7, vI 0)] [vI 0] (hput h 200 (oO 10 [vR 201, vR 202, vR 203, vR 204, vR 205, vR 206, vR 207, vR 208, vR 209, vR 210, vR 211, vR 212, vR 213, vR 214, vR 215, vR 216, vR 217, vR 218, vI mv, vI mrc, vI mmc, vI mmk, vI mdv, vI mwl, vI mwa, vI mwp, vI 0])) _ _
    refine st_if_ne (tgt := 87) C dX11_note_50 (by decide) (fun c_50 => by omega) (fun c_50 => ?_)
    refine st_aload_n C 0 dX11_note_53 rfl rfl ?_
    refine st_iload C dX11_note_54 rfl ?_
    refine st_iconst C dX11_note_56 (by decide) ?_
    refine st_callV (st := []) C dX11_note_57 [vI 0, vI 2] (k_no_f (p9 := 2) hput_s) hput_s w_X11_112 rfl (by decide) (by decide) (by omega) (by omega) (Nat.le_of_ble_eq_true rfl) (ko_rt ?_)
    show T x 60 [(0, vR 200), (1, vI d9), (2, vI t9), (3, vI l9), (4, vI x9), (5, vI y9), (6, vI v9), (7, vI 0)] [vI 1] (hput (hput h 200 (oO 10 [vR 201, vR 202, vR 203, vR 204, vR 205, vR 206, vR 207, vR 208, vR 209, vR 210, vR 211, vR 212, vR 213, vR 214, vR 215, vR 216, vR 217, vR 218, vI mv, vI mrc, vI mmc, vI mmk, vI mdv, vI mwl, vI mwa, vI mwp, vI 0])) 200 (oO 10 [vR 201, vR 202, vR 203, vR 204, vR 205, vR 206, vR 207, vR 208, vR 209, vR 210, vR 211, vR 212, vR 213, vR 214, vR 215, vR 216, vR 217, vR 218, vI mv, vI mrc, vI mmc, vI mmk, vI mdv, vI mwl, vI mwa, vI mwp, vI 2])) _ _
    refine st_if_ne (tgt := 87) C dX11_note_60 (by decide) (fun c_60 => ?_) (fun c_60 => by omega)
    refine st_iconst C dX11_note_87 (by decide) ?_
    exact st_ireturn C F dX11_note_88 rfl (by first | (exfalso; omega) | exact ⟨by with_reducible rfl, by with_reducible rfl⟩) (by omega) (by omega)
set_option maxRecDepth 20000 in
set_option maxHeartbeats 4000000 in
theorem m_note_x3 {g : Gx} {h : HP} {mv mrc mmc mmk mdv mwl mwa mwp mth : Int} {mn : Int → Int} {my : Int → Int} {d9 : Int} {t9 l9 x9 y9 v9 : Int} (hm : mO h mv mrc mmc mmk mdv mwl mwa mwp mth) (h213 : h 213 = some (oI 180 mn)) (h214 : h 214 = some (oI 3 my)) (hdv : 0 ≤ mdv ∧ mdv ≤ 3) (hD : 0 ≤ d9 ∧ d9 < mdv) (hQ : (0 ≤ t9 ∧ t9 ≤ 9999) ∧ (0 ≤ l9 ∧ l9 ≤ 2 ∧ 0 ≤ x9 ∧ x9 ≤ 7 ∧ 0 ≤ y9 ∧ y9 ≤ 7) ∧ 0 ≤ v9 ∧ v9 ≤ 9) (hf : 20 ≤ my d9) : Ct g yX11_note (.code yX11_note cX11_note 9 (some .int)) 4 0 0 [vR 200, vI d9, vI t9, vI l9, vI x9, vI y9, vI v9] h (Rt (some (vI 0)) (hput (hput (hput h 200 (oO 10 [vR 201, vR 202, vR 203, vR 204, vR 205, vR 206, vR 207, vR 208, vR 209, vR 210, vR 211, vR 212, vR 213, vR 214, vR 215, vR 216, vR 217, vR 218, vI mv, vI mrc, vI mmc, vI mmk, vI mdv, vI mwl, vI mwa, vI mwp, vI 0])) 200 (oO 10 [vR 201, vR 202, vR 203, vR 204, vR 205, vR 206, vR 207, vR 208, vR 209, vR 210, vR 211, vR 212, vR 213, vR 214, vR 215, vR 216, vR 217, vR 218, vI mv, vI mrc, vI mmc, vI mmk, vI mdv, vI mwl, vI mwa, vI mwp, vI 0])) 200 (oO 10 [vR 201, vR 202, vR 203, vR 204, vR 205, vR 206, vR 207, vR 208, vR 209, vR 210, vR 211, vR 212, vR 213, vR 214, vR 215, vR 216, vR 217, vR 218, vI mv, vI mrc, vI mmc, vI mmk, vI mdv, vI mwl, vI mwa, vI mwp, vI 3]))) := by
  refine Ct.of (by decide) (Nat.le_of_ble_eq_true rfl) (fun x hg C F => ?_)
  subst hg
  show T x 0 [(0, vR 200), (1, vI d9), (2, vI t9), (3, vI l9), (4, vI x9), (5, vI y9), (6, vI v9)] [] h 0 0
  refine st_iload_n C 2 dX11_note_0 rfl rfl ?_
  refine st_iconst C dX11_note_1 (by decide) ?_
  refine st_sipush C dX11_note_2 (by decide) (by decide) ?_
  have b_5 : 0 ≤ t9 ∧ t9 ≤ 9999 := by omega
  refine st_callS (st := []) C dX11_note_5 [vI t9, vI 0, vI 9999] (k_isIn_t (v9 := t9) (l9 := 0) (u9 := 9999)  b_5) w_X11_75 rfl (by decide) (by decide) (by omega) (by omega) (Nat.le_of_ble_eq_true rfl) (ko_rt ?_)
  show T x 8 [(0, vR 200), (1, vI d9), (2, vI t9), (3, vI l9), (4, vI x9), (5, vI y9), (6, vI v9)] [vI 1] _ _ _
  refine st_if_eq (tgt := 37) C dX11_note_8 (by decide) (fun c_8 => by omega) (fun c_8 => ?_)
  refine st_iload_n C 3 dX11_note_11 rfl rfl ?_
  refine st_iload C dX11_note_12 rfl ?_
  refine st_iload C dX11_note_14 rfl ?_
  have b_16 : 0 ≤ l9 ∧ l9 ≤ 2 ∧ 0 ≤ x9 ∧ x9 ≤ 7 ∧ 0 ≤ y9 ∧ y9 ≤ 7 := by omega
  refine st_callS (st := []) C dX11_note_16 [vI l9, vI x9, vI y9] (k_mPlace_t (v9 := l9) (x9 := x9) (y9 := y9)  b_16) w_X11_132 rfl (by decide) (by decide) (by omega) (by omega) (Nat.le_of_ble_eq_true rfl) (ko_rt ?_)
  show T x 19 [(0, vR 200), (1, vI d9), (2, vI t9), (3, vI l9), (4, vI x9), (5, vI y9), (6, vI v9)] [vI 1] _ _ _
  refine st_if_eq (tgt := 37) C dX11_note_19 (by decide) (fun c_19 => by omega) (fun c_19 => ?_)
  refine st_iload C dX11_note_22 rfl ?_
  refine st_iconst C dX11_note_24 (by decide) ?_
  refine st_bipush C dX11_note_25 (by decide) (by decide) ?_
  have b_27 : 0 ≤ v9 ∧ v9 ≤ 9 := by omega
  refine st_callS (st := []) C dX11_note_27 [vI v9, vI 0, vI 9] (k_isIn_t (v9 := v9) (l9 := 0) (u9 := 9)  b_27) w_X11_75 rfl (by decide) (by decide) (by omega) (by omega) (Nat.le_of_ble_eq_true rfl) (ko_rt ?_)
  show T x 30 [(0, vR 200), (1, vI d9), (2, vI t9), (3, vI l9), (4, vI x9), (5, vI y9), (6, vI v9)] [vI 1] _ _ _
  refine st_if_eq (tgt := 37) C dX11_note_30 (by decide) (fun c_30 => by omega) (fun c_30 => ?_)
  refine st_iconst C dX11_note_33 (by decide) ?_
  refine st_goto (tgt := 38) C dX11_note_34 (by decide) ?_
  refine st_istore C dX11_note_38 (by decide) rfl ?_
  show T x 40 [(0, vR 200), (1, vI d9), (2, vI t9), (3, vI l9), (4, vI x9), (5, vI y9), (6, vI v9), (7, vI 1)] [] _ _ _
  refine st_aload_n C 0 dX11_note_40 rfl rfl ?_
  refine st_aload_n C 0 dX11_note_41 rfl rfl ?_
  refine st_iload_n C 1 dX11_note_42 rfl rfl ?_
  refine st_callV (st := [vR 200]) C dX11_note_43 [vI d9] (k_isDevice_t (d9 := d9) hm hdv hD) hm w_X11_205 rfl (by decide) (by decide) (by omega) (by omega) (Nat.le_of_ble_eq_true rfl) (ko_rt ?_)
  show T x 46 [(0, vR 200), (1, vI d9), (2, vI t9), (3, vI l9), (4, vI x9), (5, vI y9), (6, vI v9), (7, vI 1)] [vI 1, vR 200] _ _ _
  refine st_iconst C dX11_note_46 (by decide) ?_
  refine st_callV (st := []) C dX11_note_47 [vI 1, vI 1] (k_no_t (p9 := 1) hm) hm w_X11_112 rfl (by decide) (by decide) (by omega) (by omega) (Nat.le_of_ble_eq_true rfl) (ko_rt ?_)
  show T x 50 [(0, vR 200), (1, vI d9), (2, vI t9), (3, vI l9), (4, vI x9), (5, vI y9), (6, vI v9), (7, vI 1)] [vI 0] (hput h 200 (oO 10 [vR 201, vR 202, vR 203, vR 204, vR 205, vR 206, vR 207, vR 208, vR 209, vR 210, vR 211, vR 212, vR 213, vR 214, vR 215, vR 216, vR 217, vR 218, vI mv, vI mrc, vI mmc, vI mmk, vI mdv, vI mwl, vI mwa, vI mwp, vI 0])) _ _
  refine st_if_ne (tgt := 87) C dX11_note_50 (by decide) (fun c_50 => by omega) (fun c_50 => ?_)
  refine st_aload_n C 0 dX11_note_53 rfl rfl ?_
  refine st_iload C dX11_note_54 rfl ?_
  refine st_iconst C dX11_note_56 (by decide) ?_
  refine st_callV (st := []) C dX11_note_57 [vI 1, vI 2] (k_no_t (p9 := 2) hput_s) hput_s w_X11_112 rfl (by decide) (by decide) (by omega) (by omega) (Nat.le_of_ble_eq_true rfl) (ko_rt ?_)
  show T x 60 [(0, vR 200), (1, vI d9), (2, vI t9), (3, vI l9), (4, vI x9), (5, vI y9), (6, vI v9), (7, vI 1)] [vI 0] (hput (hput h 200 (oO 10 [vR 201, vR 202, vR 203, vR 204, vR 205, vR 206, vR 207, vR 208, vR 209, vR 210, vR 211, vR 212, vR 213, vR 214, vR 215, vR 216, vR 217, vR 218, vI mv, vI mrc, vI mmc, vI mmk, vI mdv, vI mwl, vI mwa, vI mwp, vI 0])) 200 (oO 10 [vR 201, vR 202, vR 203, vR 204, vR 205, vR 206, vR 207, vR 208, vR 209, vR 210, vR 211, vR 212, vR 213, vR 214, vR 215, vR 216, vR 217, vR 218, vI mv, vI mrc, vI mmc, vI mmk, vI mdv, vI mwl, vI mwa, vI mwp, vI 0])) _ _
  refine st_if_ne (tgt := 87) C dX11_note_60 (by decide) (fun c_60 => by omega) (fun c_60 => ?_)
  refine st_aload_n C 0 dX11_note_63 rfl rfl ?_
  refine st_aload_n C 0 dX11_note_64 rfl rfl ?_
  refine st_getf C dX11_note_65 fl_X11_50 hput_s rfl ?_
  refine st_iload_n C 1 dX11_note_68 rfl rfl ?_
  refine st_iald C dX11_note_69 (hput_o (by omega) (hput_o (by omega) h214)) (by omega) (by omega) ?_
  refine st_bipush C dX11_note_70 (by decide) (by decide) ?_
  refine st_icmp_ge (tgt := 79) C dX11_note_72 (by decide) (fun c_72 => ?_) (fun c_72 => by omega)
  refine st_iconst C dX11_note_79 (by decide) ?_
  refine st_iconst C dX11_note_80 (by decide) ?_
  refine st_callV (st := []) C dX11_note_81 [vI 0, vI 3] (k_no_f (p9 := 3) hput_s) hput_s w_X11_112 rfl (by decide) (by decide) (by omega) (by omega) (Nat.le_of_ble_eq_true rfl) (ko_rt ?_)
  show T x 84 [(0, vR 200), (1, vI d9), (2, vI t9), (3, vI l9), (4, vI x9), (5, vI y9), (6, vI v9), (7, vI 1)] [vI 1] (hput (hput (hput h 200 (oO 10 [vR 201, vR 202, vR 203, vR 204, vR 205, vR 206, vR 207, vR 208, vR 209, vR 210, vR 211, vR 212, vR 213, vR 214, vR 215, vR 216, vR 217, vR 218, vI mv, vI mrc, vI mmc, vI mmk, vI mdv, vI mwl, vI mwa, vI mwp, vI 0])) 200 (oO 10 [vR 201, vR 202, vR 203, vR 204, vR 205, vR 206, vR 207, vR 208, vR 209, vR 210, vR 211, vR 212, vR 213, vR 214, vR 215, vR 216, vR 217, vR 218, vI mv, vI mrc, vI mmc, vI mmk, vI mdv, vI mwl, vI mwa, vI mwp, vI 0])) 200 (oO 10 [vR 201, vR 202, vR 203, vR 204, vR 205, vR 206, vR 207, vR 208, vR 209, vR 210, vR 211, vR 212, vR 213, vR 214, vR 215, vR 216, vR 217, vR 218, vI mv, vI mrc, vI mmc, vI mmk, vI mdv, vI mwl, vI mwa, vI mwp, vI 3])) _ _
  refine st_if_eq (tgt := 89) C dX11_note_84 (by decide) (fun c_84 => by omega) (fun c_84 => ?_)
  refine st_iconst C dX11_note_87 (by decide) ?_
  exact st_ireturn C F dX11_note_88 rfl (by first | exact ⟨by with_reducible rfl, by with_reducible rfl⟩ | (exfalso; omega)) (by omega) (by omega)
set_option maxRecDepth 20000 in
set_option maxHeartbeats 4000000 in
theorem m_note {g : Gx} {h : HP} {mv mrc mmc mmk mdv mwl mwa mwp mth : Int} {mn : Int → Int} {my : Int → Int} {d9 : Int} {t9 l9 x9 y9 v9 : Int} (hm : mO h mv mrc mmc mmk mdv mwl mwa mwp mth) (h213 : h 213 = some (oI 180 mn)) (h214 : h 214 = some (oI 3 my)) (hdv : 0 ≤ mdv ∧ mdv ≤ 3) (hD : 0 ≤ d9 ∧ d9 < mdv) (hQ : (0 ≤ t9 ∧ t9 ≤ 9999) ∧ (0 ≤ l9 ∧ l9 ≤ 2 ∧ 0 ≤ x9 ∧ x9 ≤ 7 ∧ 0 ≤ y9 ∧ y9 ≤ 7) ∧ 0 ≤ v9 ∧ v9 ≤ 9) (hf : 0 ≤ my d9 ∧ my d9 ≤ 19) : Ct g yX11_note (.code yX11_note cX11_note 9 (some .int)) 4 0 0 [vR 200, vI d9, vI t9, vI l9, vI x9, vI y9, vI v9] h (Rt (some (vI (my d9 + 1))) (hput (hput (hput (hput (hput (hput (hput h 200 (oO 10 [vR 201, vR 202, vR 203, vR 204, vR 205, vR 206, vR 207, vR 208, vR 209, vR 210, vR 211, vR 212, vR 213, vR 214, vR 215, vR 216, vR 217, vR 218, vI mv, vI mrc, vI mmc, vI mmk, vI mdv, vI mwl, vI mwa, vI mwp, vI 0])) 200 (oO 10 [vR 201, vR 202, vR 203, vR 204, vR 205, vR 206, vR 207, vR 208, vR 209, vR 210, vR 211, vR 212, vR 213, vR 214, vR 215, vR 216, vR 217, vR 218, vI mv, vI mrc, vI mmc, vI mmk, vI mdv, vI mwl, vI mwa, vI mwp, vI 0])) 200 (oO 10 [vR 201, vR 202, vR 203, vR 204, vR 205, vR 206, vR 207, vR 208, vR 209, vR 210, vR 211, vR 212, vR 213, vR 214, vR 215, vR 216, vR 217, vR 218, vI mv, vI mrc, vI mmc, vI mmk, vI mdv, vI mwl, vI mwa, vI mwp, vI 0])) 213 (oI 180 (fput mn (60 * d9 + 3 * my d9) t9))) 213 (oI 180 (fput (fput mn (60 * d9 + 3 * my d9) t9) (60 * d9 + 3 * my d9 + 1) (64 * l9 + 8 * y9 + x9)))) 213 (oI 180 (fput (fput (fput mn (60 * d9 + 3 * my d9) t9) (60 * d9 + 3 * my d9 + 1) (64 * l9 + 8 * y9 + x9)) (60 * d9 + 3 * my d9 + 2) v9))) 214 (oI 3 (fput my d9 (my d9 + 1))))) := by
  refine Ct.of (by decide) (Nat.le_of_ble_eq_true rfl) (fun x hg C F => ?_)
  subst hg
  show T x 0 [(0, vR 200), (1, vI d9), (2, vI t9), (3, vI l9), (4, vI x9), (5, vI y9), (6, vI v9)] [] h 0 0
  refine st_iload_n C 2 dX11_note_0 rfl rfl ?_
  refine st_iconst C dX11_note_1 (by decide) ?_
  refine st_sipush C dX11_note_2 (by decide) (by decide) ?_
  have b_5 : 0 ≤ t9 ∧ t9 ≤ 9999 := by omega
  refine st_callS (st := []) C dX11_note_5 [vI t9, vI 0, vI 9999] (k_isIn_t (v9 := t9) (l9 := 0) (u9 := 9999)  b_5) w_X11_75 rfl (by decide) (by decide) (by omega) (by omega) (Nat.le_of_ble_eq_true rfl) (ko_rt ?_)
  show T x 8 [(0, vR 200), (1, vI d9), (2, vI t9), (3, vI l9), (4, vI x9), (5, vI y9), (6, vI v9)] [vI 1] _ _ _
  refine st_if_eq (tgt := 37) C dX11_note_8 (by decide) (fun c_8 => by omega) (fun c_8 => ?_)
  refine st_iload_n C 3 dX11_note_11 rfl rfl ?_
  refine st_iload C dX11_note_12 rfl ?_
  refine st_iload C dX11_note_14 rfl ?_
  have b_16 : 0 ≤ l9 ∧ l9 ≤ 2 ∧ 0 ≤ x9 ∧ x9 ≤ 7 ∧ 0 ≤ y9 ∧ y9 ≤ 7 := by omega
  refine st_callS (st := []) C dX11_note_16 [vI l9, vI x9, vI y9] (k_mPlace_t (v9 := l9) (x9 := x9) (y9 := y9)  b_16) w_X11_132 rfl (by decide) (by decide) (by omega) (by omega) (Nat.le_of_ble_eq_true rfl) (ko_rt ?_)
  show T x 19 [(0, vR 200), (1, vI d9), (2, vI t9), (3, vI l9), (4, vI x9), (5, vI y9), (6, vI v9)] [vI 1] _ _ _
  refine st_if_eq (tgt := 37) C dX11_note_19 (by decide) (fun c_19 => by omega) (fun c_19 => ?_)
  refine st_iload C dX11_note_22 rfl ?_
  refine st_iconst C dX11_note_24 (by decide) ?_
  refine st_bipush C dX11_note_25 (by decide) (by decide) ?_
  have b_27 : 0 ≤ v9 ∧ v9 ≤ 9 := by omega
  refine st_callS (st := []) C dX11_note_27 [vI v9, vI 0, vI 9] (k_isIn_t (v9 := v9) (l9 := 0) (u9 := 9)  b_27) w_X11_75 rfl (by decide) (by decide) (by omega) (by omega) (Nat.le_of_ble_eq_true rfl) (ko_rt ?_)
  show T x 30 [(0, vR 200), (1, vI d9), (2, vI t9), (3, vI l9), (4, vI x9), (5, vI y9), (6, vI v9)] [vI 1] _ _ _
  refine st_if_eq (tgt := 37) C dX11_note_30 (by decide) (fun c_30 => by omega) (fun c_30 => ?_)
  refine st_iconst C dX11_note_33 (by decide) ?_
  refine st_goto (tgt := 38) C dX11_note_34 (by decide) ?_
  refine st_istore C dX11_note_38 (by decide) rfl ?_
  show T x 40 [(0, vR 200), (1, vI d9), (2, vI t9), (3, vI l9), (4, vI x9), (5, vI y9), (6, vI v9), (7, vI 1)] [] _ _ _
  refine st_aload_n C 0 dX11_note_40 rfl rfl ?_
  refine st_aload_n C 0 dX11_note_41 rfl rfl ?_
  refine st_iload_n C 1 dX11_note_42 rfl rfl ?_
  refine st_callV (st := [vR 200]) C dX11_note_43 [vI d9] (k_isDevice_t (d9 := d9) hm hdv hD) hm w_X11_205 rfl (by decide) (by decide) (by omega) (by omega) (Nat.le_of_ble_eq_true rfl) (ko_rt ?_)
  show T x 46 [(0, vR 200), (1, vI d9), (2, vI t9), (3, vI l9), (4, vI x9), (5, vI y9), (6, vI v9), (7, vI 1)] [vI 1, vR 200] _ _ _
  refine st_iconst C dX11_note_46 (by decide) ?_
  refine st_callV (st := []) C dX11_note_47 [vI 1, vI 1] (k_no_t (p9 := 1) hm) hm w_X11_112 rfl (by decide) (by decide) (by omega) (by omega) (Nat.le_of_ble_eq_true rfl) (ko_rt ?_)
  show T x 50 [(0, vR 200), (1, vI d9), (2, vI t9), (3, vI l9), (4, vI x9), (5, vI y9), (6, vI v9), (7, vI 1)] [vI 0] (hput h 200 (oO 10 [vR 201, vR 202, vR 203, vR 204, vR 205, vR 206, vR 207, vR 208, vR 209, vR 210, vR 211, vR 212, vR 213, vR 214, vR 215, vR 216, vR 217, vR 218, vI mv, vI mrc, vI mmc, vI mmk, vI mdv, vI mwl, vI mwa, vI mwp, vI 0])) _ _
  refine st_if_ne (tgt := 87) C dX11_note_50 (by decide) (fun c_50 => by omega) (fun c_50 => ?_)
  refine st_aload_n C 0 dX11_note_53 rfl rfl ?_
  refine st_iload C dX11_note_54 rfl ?_
  refine st_iconst C dX11_note_56 (by decide) ?_
  refine st_callV (st := []) C dX11_note_57 [vI 1, vI 2] (k_no_t (p9 := 2) hput_s) hput_s w_X11_112 rfl (by decide) (by decide) (by omega) (by omega) (Nat.le_of_ble_eq_true rfl) (ko_rt ?_)
  show T x 60 [(0, vR 200), (1, vI d9), (2, vI t9), (3, vI l9), (4, vI x9), (5, vI y9), (6, vI v9), (7, vI 1)] [vI 0] (hput (hput h 200 (oO 10 [vR 201, vR 202, vR 203, vR 204, vR 205, vR 206, vR 207, vR 208, vR 209, vR 210, vR 211, vR 212, vR 213, vR 214, vR 215, vR 216, vR 217, vR 218, vI mv, vI mrc, vI mmc, vI mmk, vI mdv, vI mwl, vI mwa, vI mwp, vI 0])) 200 (oO 10 [vR 201, vR 202, vR 203, vR 204, vR 205, vR 206, vR 207, vR 208, vR 209, vR 210, vR 211, vR 212, vR 213, vR 214, vR 215, vR 216, vR 217, vR 218, vI mv, vI mrc, vI mmc, vI mmk, vI mdv, vI mwl, vI mwa, vI mwp, vI 0])) _ _
  refine st_if_ne (tgt := 87) C dX11_note_60 (by decide) (fun c_60 => by omega) (fun c_60 => ?_)
  refine st_aload_n C 0 dX11_note_63 rfl rfl ?_
  refine st_aload_n C 0 dX11_note_64 rfl rfl ?_
  refine st_getf C dX11_note_65 fl_X11_50 hput_s rfl ?_
  refine st_iload_n C 1 dX11_note_68 rfl rfl ?_
  refine st_iald C dX11_note_69 (hput_o (by omega) (hput_o (by omega) h214)) (by omega) (by omega) ?_
  refine st_bipush C dX11_note_70 (by decide) (by decide) ?_
  refine st_icmp_ge (tgt := 79) C dX11_note_72 (by decide) (fun c_72 => by omega) (fun c_72 => ?_)
  refine st_iconst C dX11_note_75 (by decide) ?_
  refine st_goto (tgt := 80) C dX11_note_76 (by decide) ?_
  refine st_iconst C dX11_note_80 (by decide) ?_
  refine st_callV (st := []) C dX11_note_81 [vI 1, vI 3] (k_no_t (p9 := 3) hput_s) hput_s w_X11_112 rfl (by decide) (by decide) (by omega) (by omega) (Nat.le_of_ble_eq_true rfl) (ko_rt ?_)
  show T x 84 [(0, vR 200), (1, vI d9), (2, vI t9), (3, vI l9), (4, vI x9), (5, vI y9), (6, vI v9), (7, vI 1)] [vI 0] (hput (hput (hput h 200 (oO 10 [vR 201, vR 202, vR 203, vR 204, vR 205, vR 206, vR 207, vR 208, vR 209, vR 210, vR 211, vR 212, vR 213, vR 214, vR 215, vR 216, vR 217, vR 218, vI mv, vI mrc, vI mmc, vI mmk, vI mdv, vI mwl, vI mwa, vI mwp, vI 0])) 200 (oO 10 [vR 201, vR 202, vR 203, vR 204, vR 205, vR 206, vR 207, vR 208, vR 209, vR 210, vR 211, vR 212, vR 213, vR 214, vR 215, vR 216, vR 217, vR 218, vI mv, vI mrc, vI mmc, vI mmk, vI mdv, vI mwl, vI mwa, vI mwp, vI 0])) 200 (oO 10 [vR 201, vR 202, vR 203, vR 204, vR 205, vR 206, vR 207, vR 208, vR 209, vR 210, vR 211, vR 212, vR 213, vR 214, vR 215, vR 216, vR 217, vR 218, vI mv, vI mrc, vI mmc, vI mmk, vI mdv, vI mwl, vI mwa, vI mwp, vI 0])) _ _
  refine st_if_eq (tgt := 89) C dX11_note_84 (by decide) (fun c_84 => ?_) (fun c_84 => by omega)
  refine st_bipush C dX11_note_89 (by decide) (by decide) ?_
  refine st_iload_n C 1 dX11_note_91 rfl rfl ?_
  refine st_imul C dX11_note_92 ⟨(by omega), (by omega)⟩ ?_
  refine st_iconst C dX11_note_93 (by decide) ?_
  refine st_aload_n C 0 dX11_note_94 rfl rfl ?_
  refine st_getf C dX11_note_95 fl_X11_50 hput_s rfl ?_
  refine st_iload_n C 1 dX11_note_98 rfl rfl ?_
  refine st_iald C dX11_note_99 (hput_o (by omega) (hput_o (by omega) (hput_o (by omega) h214))) (by omega) (by omega) ?_
  refine st_imul C dX11_note_100 ⟨(by omega), (by omega)⟩ ?_
  refine st_iadd C dX11_note_101 ⟨(by omega), (by omega)⟩ ?_
  refine st_istore C dX11_note_102 (by decide) rfl ?_
  show T x 104 [(0, vR 200), (1, vI d9), (2, vI t9), (3, vI l9), (4, vI x9), (5, vI y9), (6, vI v9), (7, vI 1), (8, vI (60 * d9 + (3 * (my d9))))] [] _ _ _
  refine st_aload_n C 0 dX11_note_104 rfl rfl ?_
  refine st_getf C dX11_note_105 fl_X11_47 hput_s rfl ?_
  refine st_iload C dX11_note_108 rfl ?_
  refine st_iload_n C 2 dX11_note_110 rfl rfl ?_
  refine st_iast C dX11_note_111 (hput_o (by omega) (hput_o (by omega) (hput_o (by omega) h213))) (by omega) (by omega) ?_
  refine st_aload_n C 0 dX11_note_112 rfl rfl ?_
  refine st_getf C dX11_note_113 fl_X11_47 (hput_o (by omega) hput_s) rfl ?_
  refine st_iload C dX11_note_116 rfl ?_
  refine st_iconst C dX11_note_118 (by decide) ?_
  refine st_iadd C dX11_note_119 ⟨(by omega), (by omega)⟩ ?_
  refine st_bipush C dX11_note_120 (by decide) (by decide) ?_
  refine st_iload_n C 3 dX11_note_122 rfl rfl ?_
  refine st_imul C dX11_note_123 ⟨(by omega), (by omega)⟩ ?_
  refine st_bipush C dX11_note_124 (by decide) (by decide) ?_
  refine st_iload C dX11_note_126 rfl ?_
  refine st_imul C dX11_note_128 ⟨(by omega), (by omega)⟩ ?_
  refine st_iadd C dX11_note_129 ⟨(by omega), (by omega)⟩ ?_
  refine st_iload C dX11_note_130 rfl ?_
  refine st_iadd C dX11_note_132 ⟨(by omega), (by omega)⟩ ?_
  refine st_iast C dX11_note_133 hput_s (by omega) (by omega) ?_
  refine st_aload_n C 0 dX11_note_134 rfl rfl ?_
  refine st_getf C dX11_note_135 fl_X11_47 (hput_o (by omega) (hput_o (by omega) hput_s)) rfl ?_
  refine st_iload C dX11_note_138 rfl ?_
  refine st_iconst C dX11_note_140 (by decide) ?_
  refine st_iadd C dX11_note_141 ⟨(by omega), (by omega)⟩ ?_
  refine st_iload C dX11_note_142 rfl ?_
  refine st_iast C dX11_note_144 hput_s (by omega) (by omega) ?_
  refine st_aload_n C 0 dX11_note_145 rfl rfl ?_
  refine st_getf C dX11_note_146 fl_X11_50 (hput_o (by omega) (hput_o (by omega) (hput_o (by omega) hput_s))) rfl ?_
  refine st_iload_n C 1 dX11_note_149 rfl rfl ?_
  refine st_dup2 C dX11_note_150 rfl rfl ?_
  refine st_iald C dX11_note_151 (hput_o (by omega) (hput_o (by omega) (hput_o (by omega) (hput_o (by omega) (hput_o (by omega) (hput_o (by omega) h214)))))) (by omega) (by omega) ?_
  refine st_iconst C dX11_note_152 (by decide) ?_
  refine st_iadd C dX11_note_153 ⟨(by omega), (by omega)⟩ ?_
  refine st_iast C dX11_note_154 (hput_o (by omega) (hput_o (by omega) (hput_o (by omega) (hput_o (by omega) (hput_o (by omega) (hput_o (by omega) h214)))))) (by omega) (by omega) ?_
  refine st_aload_n C 0 dX11_note_155 rfl rfl ?_
  refine st_getf C dX11_note_156 fl_X11_50 (hput_o (by omega) (hput_o (by omega) (hput_o (by omega) (hput_o (by omega) hput_s)))) rfl ?_
  refine st_iload_n C 1 dX11_note_159 rfl rfl ?_
  refine st_iald C dX11_note_160 hput_s (by omega) (by omega) ?_
  exact st_ireturn C F dX11_note_161 rfl (by first | (rw [fput_s]; exact ⟨by with_reducible rfl, by with_reducible rfl⟩) | (exfalso; omega)) (by omega) (by omega)
