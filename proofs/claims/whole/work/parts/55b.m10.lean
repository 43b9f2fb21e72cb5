theorem b4_e_z : True := trivial
set_option maxRecDepth 20000 in
set_option maxHeartbeats 4000000 in
theorem m_rule_x1 {g : Gx} {h : HP} {mv mrc mmc mmk mdv mwl mwa mwp mth : Int} {k9 a9 b9 : Int} (hm : mO h mv mrc mmc mmk mdv mwl mwa mwp mth) (hQ : ¬ RuleOk k9 a9 b9) : Ct g yX11_rule (.code yX11_rule cX11_rule 9 (some .int)) 7 0 0 [vR 200, vI k9, vI a9, vI b9] h (Rt (some (vI 0)) (hput h 200 (oO 10 [vR 201, vR 202, vR 203, vR 204, vR 205, vR 206, vR 207, vR 208, vR 209, vR 210, vR 211, vR 212, vR 213, vR 214, vR 215, vR 216, vR 217, vR 218, vI mv, vI mrc, vI mmc, vI mmk, vI mdv, vI mwl, vI mwa, vI mwp, vI 1]))) := by
  refine Ct.of (by decide) (Nat.le_of_ble_eq_true rfl) (fun x hg C F => ?_)
  subst hg
  show T x 0 [(0, vR 200), (1, vI k9), (2, vI a9), (3, vI b9)] [] h 0 0
  refine st_iload_n C 1 dX11_rule_0 rfl rfl ?_
  refine st_bipush C dX11_rule_1 (by decide) (by decide) ?_
  refine st_icmp_eq (tgt := 12) C dX11_rule_3 (by decide) (fun c_3 => ?_) (fun c_3 => ?_)
  · refine st_iconst C dX11_rule_12 (by decide) ?_
    refine st_goto (tgt := 17) C dX11_rule_13 (by decide) ?_
    refine st_istore C dX11_rule_17 (by decide) rfl ?_
    show T x 19 [(0, vR 200), (1, vI k9), (2, vI a9), (3, vI b9), (4, vI 1)] [] _ _ _
    refine st_iload_n C 1 dX11_rule_19 rfl rfl ?_
    refine st_bipush C dX11_rule_20 (by decide) (by decide) ?_
    refine st_icmp_eq (tgt := 31) C dX11_rule_22 (by decide) (fun c_22 => by omega) (fun c_22 => ?_)
    refine st_iload_n C 1 dX11_rule_25 rfl rfl ?_
    refine st_bipush C dX11_rule_26 (by decide) (by decide) ?_
    refine st_icmp_ne (tgt := 35) C dX11_rule_28 (by decide) (fun c_28 => ?_) (fun c_28 => by omega)
    refine st_iconst C dX11_rule_35 (by decide) ?_
    refine st_istore C dX11_rule_36 (by decide) rfl ?_
    show T x 38 [(0, vR 200), (1, vI k9), (2, vI a9), (3, vI b9), (4, vI 1), (5, vI 0)] [] _ _ _
    refine st_iload_n C 1 dX11_rule_38 rfl rfl ?_
    refine st_bipush C dX11_rule_39 (by decide) (by decide) ?_
    refine st_icmp_eq (tgt := 80) C dX11_rule_41 (by decide) (fun c_41 => by omega) (fun c_41 => ?_)
    refine st_iload C dX11_rule_44 rfl ?_
    refine st_if_eq (tgt := 56) C dX11_rule_46 (by decide) (fun c_46 => ?_) (fun c_46 => by omega)
    refine st_iload C dX11_rule_56 rfl ?_
    refine st_if_eq (tgt := 84) C dX11_rule_58 (by decide) (fun c_58 => by omega) (fun c_58 => ?_)
    refine st_iload_n C 2 dX11_rule_61 rfl rfl ?_
    by_cases b_62 : 0 ≤ a9 ∧ a9 ≤ 2
    · refine st_callS (st := []) C dX11_rule_62 [vI a9] (k_mLayer_t (v9 := a9)  b_62) w_X11_108 rfl (by decide) (by decide) (by omega) (by omega) (Nat.le_of_ble_eq_true rfl) (ko_rt ?_)
      show T x 65 [(0, vR 200), (1, vI k9), (2, vI a9), (3, vI b9), (4, vI 1), (5, vI 0)] [vI 1] _ _ _
      refine st_if_eq (tgt := 84) C dX11_rule_65 (by decide) (fun c_65 => by omega) (fun c_65 => ?_)
      refine st_iload_n C 3 dX11_rule_68 rfl rfl ?_
      by_cases b_69 : 0 ≤ b9 ∧ b9 ≤ 2
      · refine st_callS (st := []) C dX11_rule_69 [vI b9] (k_mLayer_t (v9 := b9)  b_69) w_X11_108 rfl (by decide) (by decide) (by omega) (by omega) (Nat.le_of_ble_eq_true rfl) (ko_rt ?_)
        show T x 72 [(0, vR 200), (1, vI k9), (2, vI a9), (3, vI b9), (4, vI 1), (5, vI 0)] [vI 1] _ _ _
        refine st_if_eq (tgt := 84) C dX11_rule_72 (by decide) (fun c_72 => by omega) (fun c_72 => ?_)
        refine st_iload_n C 2 dX11_rule_75 rfl rfl ?_
        refine st_iload_n C 3 dX11_rule_76 rfl rfl ?_
        refine st_icmp_eq (tgt := 84) C dX11_rule_77 (by decide) (fun c_77 => ?_) (fun c_77 => ?_)
        · refine st_iconst C dX11_rule_84 (by decide) ?_
          refine st_istore C dX11_rule_85 (by decide) rfl ?_
          show T x 87 [(0, vR 200), (1, vI k9), (2, vI a9), (3, vI b9), (4, vI 1), (5, vI 0), (6, vI 0)] [] _ _ _
          refine st_aload_n C 0 dX11_rule_87 rfl rfl ?_
          refine st_iload C dX11_rule_88 rfl ?_
          refine st_iconst C dX11_rule_90 (by decide) ?_
          refine st_callV (st := []) C dX11_rule_91 [vI 0, vI 1] (k_no_f (p9 := 1) hm) hm w_X11_112 rfl (by decide) (by decide) (by omega) (by omega) (Nat.le_of_ble_eq_true rfl) (ko_rt ?_)
          show T x 94 [(0, vR 200), (1, vI k9), (2, vI a9), (3, vI b9), (4, vI 1), (5, vI 0), (6, vI 0)] [vI 1] (hput h 200 (oO 10 [vR 201, vR 202, vR 203, vR 204, vR 205, vR 206, vR 207, vR 208, vR 209, vR 210, vR 211, vR 212, vR 213, vR 214, vR 215, vR 216, vR 217, vR 218, vI mv, vI mrc, vI mmc, vI mmk, vI mdv, vI mwl, vI mwa, vI mwp, vI 1])) _ _
          refine st_if_eq (tgt := 99) C dX11_rule_94 (by decide) (fun c_94 => by omega) (fun c_94 => ?_)
          refine st_iconst C dX11_rule_97 (by decide) ?_
          exact st_ireturn C F dX11_rule_98 rfl (by first | exact ⟨by with_reducible rfl, by with_reducible rfl⟩ | (exfalso; omega)) (by omega) (by omega)
        · refine st_iconst C dX11_rule_80 (by decide) ?_
          refine st_goto (tgt := 85) C dX11_rule_81 (by decide) ?_
          refine st_istore C dX11_rule_85 (by decide) rfl ?_
          show T x 87 [(0, vR 200), (1, vI k9), (2, vI a9), (3, vI b9), (4, vI 1), (5, vI 0), (6, vI 1)] [] _ _ _
          refine st_aload_n C 0 dX11_rule_87 rfl rfl ?_
          refine st_iload C dX11_rule_88 rfl ?_
          refine st_iconst C dX11_rule_90 (by decide) ?_
          exfalso; unfold RuleOk at hQ; omega
      · refine st_callS (st := []) C dX11_rule_69 [vI b9] (k_mLayer_f (v9 := b9)  b_69) w_X11_108 rfl (by decide) (by decide) (by omega) (by omega) (Nat.le_of_ble_eq_true rfl) (ko_rt ?_)
        show T x 72 [(0, vR 200), (1, vI k9), (2, vI a9), (3, vI b9), (4, vI 1), (5, vI 0)] [vI 0] _ _ _
        refine st_if_eq (tgt := 84) C dX11_rule_72 (by decide) (fun c_72 => ?_) (fun c_72 => by omega)
        refine st_iconst C dX11_rule_84 (by decide) ?_
        refine st_istore C dX11_rule_85 (by decide) rfl ?_
        show T x 87 [(0, vR 200), (1, vI k9), (2, vI a9), (3, vI b9), (4, vI 1), (5, vI 0), (6, vI 0)] [] _ _ _
        refine st_aload_n C 0 dX11_rule_87 rfl rfl ?_
        refine st_iload C dX11_rule_88 rfl ?_
        refine st_iconst C dX11_rule_90 (by decide) ?_
        refine st_callV (st := []) C dX11_rule_91 [vI 0, vI 1] (k_no_f (p9 := 1) hm) hm w_X11_112 rfl (by decide) (by decide) (by omega) (by omega) (Nat.le_of_ble_eq_true rfl) (ko_rt ?_)
        show T x 94 [(0, vR 200), (1, vI k9), (2, vI a9), (3, vI b9), (4, vI 1), (5, vI 0), (6, vI 0)] [vI 1] (hput h 200 (oO 10 [vR 201, vR 202, vR 203, vR 204, vR 205, vR 206, vR 207, vR 208, vR 209, vR 210, vR 211, vR 212, vR 213, vR 214, vR 215, vR 216, vR 217, vR 218, vI mv, vI mrc, vI mmc, vI mmk, vI mdv, vI mwl, vI mwa, vI mwp, vI 1])) _ _
        refine st_if_eq (tgt := 99) C dX11_rule_94 (by decide) (fun c_94 => by omega) (fun c_94 => ?_)
        refine st_iconst C dX11_rule_97 (by decide) ?_
        exact st_ireturn C F dX11_rule_98 rfl (by first | exact ⟨by with_reducible rfl, by with_reducible rfl⟩ | (exfalso; omega)) (by omega) (by omega)
    · refine st_callS (st := []) C dX11_rule_62 [vI a9] (k_mLayer_f (v9 := a9)  b_62) w_X11_108 rfl (by decide) (by decide) (by omega) (by omega) (Nat.le_of_ble_eq_true rfl) (ko_rt ?_)
      show T x 65 [(0, vR 200), (1, vI k9), (2, vI a9), (3, vI b9), (4, vI 1), (5, vI 0)] [vI 0] _ _ _
      refine st_if_eq (tgt := 84) C dX11_rule_65 (by decide) (fun c_65 => ?_) (fun c_65 => by omega)
      refine st_iconst C dX11_rule_84 (by decide) ?_
      refine st_istore C dX11_rule_85 (by decide) rfl ?_
      show T x 87 [(0, vR 200), (1, vI k9), (2, vI a9), (3, vI b9), (4, vI 1), (5, vI 0), (6, vI 0)] [] _ _ _
      refine st_aload_n C 0 dX11_rule_87 rfl rfl ?_
      refine st_iload C dX11_rule_88 rfl ?_
      refine st_iconst C dX11_rule_90 (by decide) ?_
      refine st_callV (st := []) C dX11_rule_91 [vI 0, vI 1] (k_no_f (p9 := 1) hm) hm w_X11_112 rfl (by decide) (by decide) (by omega) (by omega) (Nat.le_of_ble_eq_true rfl) (ko_rt ?_)
      show T x 94 [(0, vR 200), (1, vI k9), (2, vI a9), (3, vI b9), (4, vI 1), (5, vI 0), (6, vI 0)] [vI 1] (hput h 200 (oO 10 [vR 201, vR 202, vR 203, vR 204, vR 205, vR 206, vR 207, vR 208, vR 209, vR 210, vR 211, vR 212, vR 213, vR 214, vR 215, vR 216, vR 217, vR 218, vI mv, vI mrc, vI mmc, vI mmk, vI mdv, vI mwl, vI mwa, vI mwp, vI 1])) _ _
      refine st_if_eq (tgt := 99) C dX11_rule_94 (by decide) (fun c_94 => by omega) (fun c_94 => ?_)
      refine st_iconst C dX11_rule_97 (by decide) ?_
      exact st_ireturn C F dX11_rule_98 rfl (by first | exact ⟨by with_reducible rfl, by with_reducible rfl⟩ | (exfalso; omega)) (by omega) (by omega)
  · refine st_iload_n C 1 dX11_rule_6 rfl rfl ?_
    refine st_bipush C dX11_rule_7 (by decide) (by decide) ?_
    refine st_icmp_ne (tgt := 16) C dX11_rule_9 (by decide) (fun c_9 => ?_) (fun c_9 => ?_)
    · refine st_iconst C dX11_rule_16 (by decide) ?_
      refine st_istore C dX11_rule_17 (by decide) rfl ?_
      show T x 19 [(0, vR 200), (1, vI k9), (2, vI a9), (3, vI b9), (4, vI 0)] [] _ _ _
      refine st_iload_n C 1 dX11_rule_19 rfl rfl ?_
      refine st_bipush C dX11_rule_20 (by decide) (by decide) ?_
      refine st_icmp_eq (tgt := 31) C dX11_rule_22 (by decide) (fun c_22 => ?_) (fun c_22 => ?_)
      · refine st_iconst C dX11_rule_31 (by decide) ?_
        refine st_goto (tgt := 36) C dX11_rule_32 (by decide) ?_
        refine st_istore C dX11_rule_36 (by decide) rfl ?_
        show T x 38 [(0, vR 200), (1, vI k9), (2, vI a9), (3, vI b9), (4, vI 0), (5, vI 1)] [] _ _ _
        refine st_iload_n C 1 dX11_rule_38 rfl rfl ?_
        refine st_bipush C dX11_rule_39 (by decide) (by decide) ?_
        refine st_icmp_eq (tgt := 80) C dX11_rule_41 (by decide) (fun c_41 => by omega) (fun c_41 => ?_)
        refine st_iload C dX11_rule_44 rfl ?_
        refine st_if_eq (tgt := 56) C dX11_rule_46 (by decide) (fun c_46 => by omega) (fun c_46 => ?_)
        refine st_iload_n C 2 dX11_rule_49 rfl rfl ?_
        by_cases b_50 : 0 ≤ a9 ∧ a9 ≤ 2
        · refine st_callS (st := []) C dX11_rule_50 [vI a9] (k_mLayer_t (v9 := a9)  b_50) w_X11_108 rfl (by decide) (by decide) (by omega) (by omega) (Nat.le_of_ble_eq_true rfl) (ko_rt ?_)
          show T x 53 [(0, vR 200), (1, vI k9), (2, vI a9), (3, vI b9), (4, vI 0), (5, vI 1)] [vI 1] _ _ _
          refine st_if_ne (tgt := 80) C dX11_rule_53 (by decide) (fun c_53 => ?_) (fun c_53 => by omega)
          refine st_iconst C dX11_rule_80 (by decide) ?_
          refine st_goto (tgt := 85) C dX11_rule_81 (by decide) ?_
          refine st_istore C dX11_rule_85 (by decide) rfl ?_
          show T x 87 [(0, vR 200), (1, vI k9), (2, vI a9), (3, vI b9), (4, vI 0), (5, vI 1), (6, vI 1)] [] _ _ _
          refine st_aload_n C 0 dX11_rule_87 rfl rfl ?_
          refine st_iload C dX11_rule_88 rfl ?_
          refine st_iconst C dX11_rule_90 (by decide) ?_
          exfalso; unfold RuleOk at hQ; omega
        · refine st_callS (st := []) C dX11_rule_50 [vI a9] (k_mLayer_f (v9 := a9)  b_50) w_X11_108 rfl (by decide) (by decide) (by omega) (by omega) (Nat.le_of_ble_eq_true rfl) (ko_rt ?_)
          show T x 53 [(0, vR 200), (1, vI k9), (2, vI a9), (3, vI b9), (4, vI 0), (5, vI 1)] [vI 0] _ _ _
          refine st_if_ne (tgt := 80) C dX11_rule_53 (by decide) (fun c_53 => by omega) (fun c_53 => ?_)
          refine st_iload C dX11_rule_56 rfl ?_
          refine st_if_eq (tgt := 84) C dX11_rule_58 (by decide) (fun c_58 => ?_) (fun c_58 => by omega)
          refine st_iconst C dX11_rule_84 (by decide) ?_
          refine st_istore C dX11_rule_85 (by decide) rfl ?_
          show T x 87 [(0, vR 200), (1, vI k9), (2, vI a9), (3, vI b9), (4, vI 0), (5, vI 1), (6, vI 0)] [] _ _ _
          refine st_aload_n C 0 dX11_rule_87 rfl rfl ?_
          refine st_iload C dX11_rule_88 rfl ?_
          refine st_iconst C dX11_rule_90 (by decide) ?_
          refine st_callV (st := []) C dX11_rule_91 [vI 0, vI 1] (k_no_f (p9 := 1) hm) hm w_X11_112 rfl (by decide) (by decide) (by omega) (by omega) (Nat.le_of_ble_eq_true rfl) (ko_rt ?_)
          show T x 94 [(0, vR 200), (1, vI k9), (2, vI a9), (3, vI b9), (4, vI 0), (5, vI 1), (6, vI 0)] [vI 1] (hput h 200 (oO 10 [vR 201, vR 202, vR 203, vR 204, vR 205, vR 206, vR 207, vR 208, vR 209, vR 210, vR 211, vR 212, vR 213, vR 214, vR 215, vR 216, vR 217, vR 218, vI mv, vI mrc, vI mmc, vI mmk, vI mdv, vI mwl, vI mwa, vI mwp, vI 1])) _ _
          refine st_if_eq (tgt := 99) C dX11_rule_94 (by decide) (fun c_94 => by omega) (fun c_94 => ?_)
          refine st_iconst C dX11_rule_97 (by decide) ?_
          exact st_ireturn C F dX11_rule_98 rfl (by first | exact ⟨by with_reducible rfl, by with_reducible rfl⟩ | (exfalso; omega)) (by omega) (by omega)
      · refine st_iload_n C 1 dX11_rule_25 rfl rfl ?_
        refine st_bipush C dX11_rule_26 (by decide) (by decide) ?_
        refine st_icmp_ne (tgt := 35) C dX11_rule_28 (by decide) (fun c_28 => ?_) (fun c_28 => ?_)
        · refine st_iconst C dX11_rule_35 (by decide) ?_
          refine st_istore C dX11_rule_36 (by decide) rfl ?_
          show T x 38 [(0, vR 200), (1, vI k9), (2, vI a9), (3, vI b9), (4, vI 0), (5, vI 0)] [] _ _ _
          refine st_iload_n C 1 dX11_rule_38 rfl rfl ?_
          refine st_bipush C dX11_rule_39 (by decide) (by decide) ?_
          refine st_icmp_eq (tgt := 80) C dX11_rule_41 (by decide) (fun c_41 => ?_) (fun c_41 => ?_)
          · refine st_iconst C dX11_rule_80 (by decide) ?_
            refine st_goto (tgt := 85) C dX11_rule_81 (by decide) ?_
            refine st_istore C dX11_rule_85 (by decide) rfl ?_
            show T x 87 [(0, vR 200), (1, vI k9), (2, vI a9), (3, vI b9), (4, vI 0), (5, vI 0), (6, vI 1)] [] _ _ _
            refine st_aload_n C 0 dX11_rule_87 rfl rfl ?_
            refine st_iload C dX11_rule_88 rfl ?_
            refine st_iconst C dX11_rule_90 (by decide) ?_
            exfalso; unfold RuleOk at hQ; omega
          · refine st_iload C dX11_rule_44 rfl ?_
            refine st_if_eq (tgt := 56) C dX11_rule_46 (by decide) (fun c_46 => ?_) (fun c_46 => by omega)
            refine st_iload C dX11_rule_56 rfl ?_
            refine st_if_eq (tgt := 84) C dX11_rule_58 (by decide) (fun c_58 => ?_) (fun c_58 => by omega)
            refine st_iconst C dX11_rule_84 (by decide) ?_
            refine st_istore C dX11_rule_85 (by decide) rfl ?_
            show T x 87 [(0, vR 200), (1, vI k9), (2, vI a9), (3, vI b9), (4, vI 0), (5, vI 0), (6, vI 0)] [] _ _ _
            refine st_aload_n C 0 dX11_rule_87 rfl rfl ?_
            refine st_iload C dX11_rule_88 rfl ?_
            refine st_iconst C dX11_rule_90 (by decide) ?_
            refine st_callV (st := []) C dX11_rule_91 [vI 0, vI 1] (k_no_f (p9 := 1) hm) hm w_X11_112 rfl (by decide) (by decide) (by omega) (by omega) (Nat.le_of_ble_eq_true rfl) (ko_rt ?_)
            show T x 94 [(0, vR 200), (1, vI k9), (2, vI a9), (3, vI b9), (4, vI 0), (5, vI 0), (6, vI 0)] [vI 1] (hput h 200 (oO 10 [vR 201, vR 202, vR 203, vR 204, vR 205, vR 206, vR 207, vR 208, vR 209, vR 210, vR 211, vR 212, vR 213, vR 214, vR 215, vR 216, vR 217, vR 218, vI mv, vI mrc, vI mmc, vI mmk, vI mdv, vI mwl, vI mwa, vI mwp, vI 1])) _ _
            refine st_if_eq (tgt := 99) C dX11_rule_94 (by decide) (fun c_94 => by omega) (fun c_94 => ?_)
            refine st_iconst C dX11_rule_97 (by decide) ?_
            exact st_ireturn C F dX11_rule_98 rfl (by first | exact ⟨by with_reducible rfl, by with_reducible rfl⟩ | (exfalso; omega)) (by omega) (by omega)
        · refine st_iconst C dX11_rule_31 (by decide) ?_
          refine st_goto (tgt := 36) C dX11_rule_32 (by decide) ?_
          refine st_istore C dX11_rule_36 (by decide) rfl ?_
          show T x 38 [(0, vR 200), (1, vI k9), (2, vI a9), (3, vI b9), (4, vI 0), (5, vI 1)] [] _ _ _
          refine st_iload_n C 1 dX11_rule_38 rfl rfl ?_
          refine st_bipush C dX11_rule_39 (by decide) (by decide) ?_
          refine st_icmp_eq (tgt := 80) C dX11_rule_41 (by decide) (fun c_41 => by omega) (fun c_41 => ?_)
          refine st_iload C dX11_rule_44 rfl ?_
          refine st_if_eq (tgt := 56) C dX11_rule_46 (by decide) (fun c_46 => by omega) (fun c_46 => ?_)
          refine st_iload_n C 2 dX11_rule_49 rfl rfl ?_
          by_cases b_50 : 0 ≤ a9 ∧ a9 ≤ 2
          · refine st_callS (st := []) C dX11_rule_50 [vI a9] (k_mLayer_t (v9 := a9)  b_50) w_X11_108 rfl (by decide) (by decide) (by omega) (by omega) (Nat.le_of_ble_eq_true rfl) (ko_rt ?_)
            show T x 53 [(0, vR 200), (1, vI k9), (2, vI a9), (3, vI b9), (4, vI 0), (5, vI 1)] [vI 1] _ _ _
            refine st_if_ne (tgt := 80) C dX11_rule_53 (by decide) (fun c_53 => ?_) (fun c_53 => by omega)
            refine st_iconst C dX11_rule_80 (by decide) ?_
            refine st_goto (tgt := 85) C dX11_rule_81 (by decide) ?_
            refine st_istore C dX11_rule_85 (by decide) rfl ?_
            show T x 87 [(0, vR 200), (1, vI k9), (2, vI a9), (3, vI b9), (4, vI 0), (5, vI 1), (6, vI 1)] [] _ _ _
            refine st_aload_n C 0 dX11_rule_87 rfl rfl ?_
            refine st_iload C dX11_rule_88 rfl ?_
            refine st_iconst C dX11_rule_90 (by decide) ?_
            exfalso; unfold RuleOk at hQ; omega
          · refine st_callS (st := []) C dX11_rule_50 [vI a9] (k_mLayer_f (v9 := a9)  b_50) w_X11_108 rfl (by decide) (by decide) (by omega) (by omega) (Nat.le_of_ble_eq_true rfl) (ko_rt ?_)
            show T x 53 [(0, vR 200), (1, vI k9), (2, vI a9), (3, vI b9), (4, vI 0), (5, vI 1)] [vI 0] _ _ _
            refine st_if_ne (tgt := 80) C dX11_rule_53 (by decide) (fun c_53 => by omega) (fun c_53 => ?_)
            refine st_iload C dX11_rule_56 rfl ?_
            refine st_if_eq (tgt := 84) C dX11_rule_58 (by decide) (fun c_58 => ?_) (fun c_58 => by omega)
            refine st_iconst C dX11_rule_84 (by decide) ?_
            refine st_istore C dX11_rule_85 (by decide) rfl ?_
            show T x 87 [(0, vR 200), (1, vI k9), (2, vI a9), (3, vI b9), (4, vI 0), (5, vI 1), (6, vI 0)] [] _ _ _
            refine st_aload_n C 0 dX11_rule_87 rfl rfl ?_
            refine st_iload C dX11_rule_88 rfl ?_
            refine st_iconst C dX11_rule_90 (by decide) ?_
            refine st_callV (st := []) C dX11_rule_91 [vI 0, vI 1] (k_no_f (p9 := 1) hm) hm w_X11_112 rfl (by decide) (by decide) (by omega) (by omega) (Nat.le_of_ble_eq_true rfl) (ko_rt ?_)
            show T x 94 [(0, vR 200), (1, vI k9), (2, vI a9), (3, vI b9), (4, vI 0), (5, vI 1), (6, vI 0)] [vI 1] (hput h 200 (oO 10 [vR 201, vR 202, vR 203, vR 204, vR 205, vR 206, vR 207, vR 208, vR 209, vR 210, vR 211, vR 212, vR 213, vR 214, vR 215, vR 216, vR 217, vR 218, vI mv, vI mrc, vI mmc, vI mmk, vI mdv, vI mwl, vI mwa, vI mwp, vI 1])) _ _
            refine st_if_eq (tgt := 99) C dX11_rule_94 (by decide) (fun c_94 => by omega) (fun c_94 => ?_)
            refine st_iconst C dX11_rule_97 (by decide) ?_
            exact st_ireturn C F dX11_rule_98 rfl (by first | exact ⟨by with_reducible rfl, by with_reducible rfl⟩ | (exfalso; omega)) (by omega) (by omega)
    · refine st_iconst C dX11_rule_12 (by decide) ?_
      refine st_goto (tgt := 17) C dX11_rule_13 (by decide) ?_
      refine st_istore C dX11_rule_17 (by decide) rfl ?_
      show T x 19 [(0, vR 200), (1, vI k9), (2, vI a9), (3, vI b9), (4, vI 1)] [] _ _ _
      refine st_iload_n C 1 dX11_rule_19 rfl rfl ?_
      refine st_bipush C dX11_rule_20 (by decide) (by decide) ?_
      refine st_icmp_eq (tgt := 31) C dX11_rule_22 (by decide) (fun c_22 => by omega) (fun c_22 => ?_)
      refine st_iload_n C 1 dX11_rule_25 rfl rfl ?_
      refine st_bipush C dX11_rule_26 (by decide) (by decide) ?_
      refine st_icmp_ne (tgt := 35) C dX11_rule_28 (by decide) (fun c_28 => ?_) (fun c_28 => by omega)
      refine st_iconst C dX11_rule_35 (by decide) ?_
      refine st_istore C dX11_rule_36 (by decide) rfl ?_
      show T x 38 [(0, vR 200), (1, vI k9), (2, vI a9), (3, vI b9), (4, vI 1), (5, vI 0)] [] _ _ _
      refine st_iload_n C 1 dX11_rule_38 rfl rfl ?_
      refine st_bipush C dX11_rule_39 (by decide) (by decide) ?_
      refine st_icmp_eq (tgt := 80) C dX11_rule_41 (by decide) (fun c_41 => by omega) (fun c_41 => ?_)
      refine st_iload C dX11_rule_44 rfl ?_
      refine st_if_eq (tgt := 56) C dX11_rule_46 (by decide) (fun c_46 => ?_) (fun c_46 => by omega)
      refine st_iload C dX11_rule_56 rfl ?_
      refine st_if_eq (tgt := 84) C dX11_rule_58 (by decide) (fun c_58 => by omega) (fun c_58 => ?_)
      refine st_iload_n C 2 dX11_rule_61 rfl rfl ?_
      by_cases b_62 : 0 ≤ a9 ∧ a9 ≤ 2
      · refine st_callS (st := []) C dX11_rule_62 [vI a9] (k_mLayer_t (v9 := a9)  b_62) w_X11_108 rfl (by decide) (by decide) (by omega) (by omega) (Nat.le_of_ble_eq_true rfl) (ko_rt ?_)
        show T x 65 [(0, vR 200), (1, vI k9), (2, vI a9), (3, vI b9), (4, vI 1), (5, vI 0)] [vI 1] _ _ _
        refine st_if_eq (tgt := 84) C dX11_rule_65 (by decide) (fun c_65 => by omega) (fun c_65 => ?_)
        refine st_iload_n C 3 dX11_rule_68 rfl rfl ?_
        by_cases b_69 : 0 ≤ b9 ∧ b9 ≤ 2
        · refine st_callS (st := []) C dX11_rule_69 [vI b9] (k_mLayer_t (v9 := b9)  b_69) w_X11_108 rfl (by decide) (by decide) (by omega) (by omega) (Nat.le_of_ble_eq_true rfl) (ko_rt ?_)
          show T x 72 [(0, vR 200), (1, vI k9), (2, vI a9), (3, vI b9), (4, vI 1), (5, vI 0)] [vI 1] _ _ _
          refine st_if_eq (tgt := 84) C dX11_rule_72 (by decide) (fun c_72 => by omega) (fun c_72 => ?_)
          refine st_iload_n C 2 dX11_rule_75 rfl rfl ?_
          refine st_iload_n C 3 dX11_rule_76 rfl rfl ?_
          refine st_icmp_eq (tgt := 84) C dX11_rule_77 (by decide) (fun c_77 => ?_) (fun c_77 => ?_)
          · refine st_iconst C dX11_rule_84 (by decide) ?_
            refine st_istore C dX11_rule_85 (by decide) rfl ?_
            show T x 87 [(0, vR 200), (1, vI k9), (2, vI a9), (3, vI b9), (4, vI 1), (5, vI 0), (6, vI 0)] [] _ _ _
            refine st_aload_n C 0 dX11_rule_87 rfl rfl ?_
            refine st_iload C dX11_rule_88 rfl ?_
            refine st_iconst C dX11_rule_90 (by decide) ?_
            refine st_callV (st := []) C dX11_rule_91 [vI 0, vI 1] (k_no_f (p9 := 1) hm) hm w_X11_112 rfl (by decide) (by decide) (by omega) (by omega) (Nat.le_of_ble_eq_true rfl) (ko_rt ?_)
            show T x 94 [(0, vR 200), (1, vI k9), (2, vI a9), (3, vI b9), (4, vI 1), (5, vI 0), (6, vI 0)] [vI 1] (hput h 200 (oO 10 [vR 201, vR 202, vR 203, vR 204, vR 205, vR 206, vR 207, vR 208, vR 209, vR 210, vR 211, vR 212, vR 213, vR 214, vR 215, vR 216, vR 217, vR 218, vI mv, vI mrc, vI mmc, vI mmk, vI mdv, vI mwl, vI mwa, vI mwp, vI 1])) _ _
            refine st_if_eq (tgt := 99) C dX11_rule_94 (by decide) (fun c_94 => by omega) (fun c_94 => ?_)
            refine st_iconst C dX11_rule_97 (by decide) ?_
            exact st_ireturn C F dX11_rule_98 rfl (by first | exact ⟨by with_reducible rfl, by with_reducible rfl⟩ | (exfalso; omega)) (by omega) (by omega)
          · refine st_iconst C dX11_rule_80 (by decide) ?_
            refine st_goto (tgt := 85) C dX11_rule_81 (by decide) ?_
            refine st_istore C dX11_rule_85 (by decide) rfl ?_
            show T x 87 [(0, vR 200), (1, vI k9), (2, vI a9), (3, vI b9), (4, vI 1), (5, vI 0), (6, vI 1)] [] _ _ _
            refine st_aload_n C 0 dX11_rule_87 rfl rfl ?_
            refine st_iload C dX11_rule_88 rfl ?_
            refine st_iconst C dX11_rule_90 (by decide) ?_
            exfalso; unfold RuleOk at hQ; omega
        · refine st_callS (st := []) C dX11_rule_69 [vI b9] (k_mLayer_f (v9 := b9)  b_69) w_X11_108 rfl (by decide) (by decide) (by omega) (by omega) (Nat.le_of_ble_eq_true rfl) (ko_rt ?_)
          show T x 72 [(0, vR 200), (1, vI k9), (2, vI a9), (3, vI b9), (4, vI 1), (5, vI 0)] [vI 0] _ _ _
          refine st_if_eq (tgt := 84) C dX11_rule_72 (by decide) (fun c_72 => ?_) (fun c_72 => by omega)
          refine st_iconst C dX11_rule_84 (by decide) ?_
          refine st_istore C dX11_rule_85 (by decide) rfl ?_
          show T x 87 [(0, vR 200), (1, vI k9), (2, vI a9), (3, vI b9), (4, vI 1), (5, vI 0), (6, vI 0)] [] _ _ _
          refine st_aload_n C 0 dX11_rule_87 rfl rfl ?_
          refine st_iload C dX11_rule_88 rfl ?_
          refine st_iconst C dX11_rule_90 (by decide) ?_
          refine st_callV (st := []) C dX11_rule_91 [vI 0, vI 1] (k_no_f (p9 := 1) hm) hm w_X11_112 rfl (by decide) (by decide) (by omega) (by omega) (Nat.le_of_ble_eq_true rfl) (ko_rt ?_)
          show T x 94 [(0, vR 200), (1, vI k9), (2, vI a9), (3, vI b9), (4, vI 1), (5, vI 0), (6, vI 0)] [vI 1] (hput h 200 (oO 10 [vR 201, vR 202, vR 203, vR 204, vR 205, vR 206, vR 207, vR 208, vR 209, vR 210, vR 211, vR 212, vR 213, vR 214, vR 215, vR 216, vR 217, vR 218, vI mv, vI mrc, vI mmc, vI mmk, vI mdv, vI mwl, vI mwa, vI mwp, vI 1])) _ _
          refine st_if_eq (tgt := 99) C dX11_rule_94 (by decide) (fun c_94 => by omega) (fun c_94 => ?_)
          refine st_iconst C dX11_rule_97 (by decide) ?_
          exact st_ireturn C F dX11_rule_98 rfl (by first | exact ⟨by with_reducible rfl, by with_reducible rfl⟩ | (exfalso; omega)) (by omega) (by omega)
      · refine st_callS (st := []) C dX11_rule_62 [vI a9] (k_mLayer_f (v9 := a9)  b_62) w_X11_108 rfl (by decide) (by decide) (by omega) (by omega) (Nat.le_of_ble_eq_true rfl) (ko_rt ?_)
        show T x 65 [(0, vR 200), (1, vI k9), (2, vI a9), (3, vI b9), (4, vI 1), (5, vI 0)] [vI 0] _ _ _
        refine st_if_eq (tgt := 84) C dX11_rule_65 (by decide) (fun c_65 => ?_) (fun c_65 => by omega)
        refine st_iconst C dX11_rule_84 (by decide) ?_
        refine st_istore C dX11_rule_85 (by decide) rfl ?_
        show T x 87 [(0, vR 200), (1, vI k9), (2, vI a9), (3, vI b9), (4, vI 1), (5, vI 0), (6, vI 0)] [] _ _ _
        refine st_aload_n C 0 dX11_rule_87 rfl rfl ?_
        refine st_iload C dX11_rule_88 rfl ?_
        refine st_iconst C dX11_rule_90 (by decide) ?_
        refine st_callV (st := []) C dX11_rule_91 [vI 0, vI 1] (k_no_f (p9 := 1) hm) hm w_X11_112 rfl (by decide) (by decide) (by omega) (by omega) (Nat.le_of_ble_eq_true rfl) (ko_rt ?_)
        show T x 94 [(0, vR 200), (1, vI k9), (2, vI a9), (3, vI b9), (4, vI 1), (5, vI 0), (6, vI 0)] [vI 1] (hput h 200 (oO 10 [vR 201, vR 202, vR 203, vR 204, vR 205, vR 206, vR 207, vR 208, vR 209, vR 210, vR 211, vR 212, vR 213, vR 214, vR 215, vR 216, vR 217, vR 218, vI mv, vI mrc, vI mmc, vI mmk, vI mdv, vI mwl, vI mwa, vI mwp, vI 1])) _ _
        refine st_if_eq (tgt := 99) C dX11_rule_94 (by decide) (fun c_94 => by omega) (fun c_94 => ?_)
        refine st_iconst C dX11_rule_97 (by decide) ?_
        exact st_ireturn C F dX11_rule_98 rfl (by first | exact ⟨by with_reducible rfl, by with_reducible rfl⟩ | (exfalso; omega)) (by omega) (by omega)
set_option maxRecDepth 20000 in
set_option maxHeartbeats 4000000 in
theorem m_rulec_x2 {g : Gx} {h : HP} {mv mrc mmc mmk mdv mwl mwa mwp mth : Int} {mm : Int → Int} {mw : Int → Int} {f0 : Int → Int} {kk : Int → Int} {ka : Int → Int} {kb : Int → Int} {a9 b9 : Int} (hm : mO h mv mrc mmc mmk mdv mwl mwa mwp mth) (hmm : h 201 = some (oI 12464 mm)) (h202 : h 202 = some (oI 304 mw)) (h216 : h 216 = some (oZ 64 f0)) (h203 : h 203 = some (oI 6 kk)) (h204 : h 204 = some (oI 6 ka)) (h205 : h 205 = some (oI 6 kb)) (hv : 0 ≤ mv ∧ mv ≤ 40) (hl : 0 ≤ a9 ∧ a9 ≤ 2 ∧ 0 ≤ b9 ∧ b9 ≤ 2 ∧ a9 ≠ b9) (hwv : RowV (fmix (fun s => mm (304 * mv + s)) mw 304)) (hP : ¬ RuleHolds 99 a9 b9 (fmix (fun s => mm (304 * mv + s)) mw 304)) : Ct g yX11_rule (.code yX11_rule cX11_rule 9 (some .int)) 7 0 0 [vR 200, vI 99, vI a9, vI b9] h ((fun r h' => r = .inl (some (vI 0)) ∧ ∃ f4 : Int → Int, h' = (hput (hput (hput (hput h 200 (oO 10 [vR 201, vR 202, vR 203, vR 204, vR 205, vR 206, vR 207, vR 208, vR 209, vR 210, vR 211, vR 212, vR 213, vR 214, vR 215, vR 216, vR 217, vR 218, vI mv, vI mrc, vI mmc, vI mmk, vI mdv, vI mwl, vI mwa, vI mwp, vI 0])) 202 (oI 304 (fmix (fun s => mm (304 * mv + s)) mw 304))) 216 (oZ 64 f4)) 200 (oO 10 [vR 201, vR 202, vR 203, vR 204, vR 205, vR 206, vR 207, vR 208, vR 209, vR 210, vR 211, vR 212, vR 213, vR 214, vR 215, vR 216, vR 217, vR 218, vI mv, vI mrc, vI mmc, vI mmk, vI mdv, vI mwl, vI mwa, vI mwp, vI 2])))) := by
  refine Ct.of (by decide) (Nat.le_of_ble_eq_true rfl) (fun x hg C F => ?_)
  subst hg
  show T x 0 [(0, vR 200), (1, vI 99), (2, vI a9), (3, vI b9)] [] h 0 0
  refine st_iload_n C 1 dX11_rule_0 rfl rfl ?_
  refine st_bipush C dX11_rule_1 (by decide) (by decide) ?_
  refine st_icmp_eq (tgt := 12) C dX11_rule_3 (by decide) (fun c_3 => ?_) (fun c_3 => by omega)
  refine st_iconst C dX11_rule_12 (by decide) ?_
  refine st_goto (tgt := 17) C dX11_rule_13 (by decide) ?_
  refine st_istore C dX11_rule_17 (by decide) rfl ?_
  show T x 19 [(0, vR 200), (1, vI 99), (2, vI a9), (3, vI b9), (4, vI 1)] [] _ _ _
  refine st_iload_n C 1 dX11_rule_19 rfl rfl ?_
  refine st_bipush C dX11_rule_20 (by decide) (by decide) ?_
  refine st_icmp_eq (tgt := 31) C dX11_rule_22 (by decide) (fun c_22 => by omega) (fun c_22 => ?_)
  refine st_iload_n C 1 dX11_rule_25 rfl rfl ?_
  refine st_bipush C dX11_rule_26 (by decide) (by decide) ?_
  refine st_icmp_ne (tgt := 35) C dX11_rule_28 (by decide) (fun c_28 => ?_) (fun c_28 => by omega)
  refine st_iconst C dX11_rule_35 (by decide) ?_
  refine st_istore C dX11_rule_36 (by decide) rfl ?_
  show T x 38 [(0, vR 200), (1, vI 99), (2, vI a9), (3, vI b9), (4, vI 1), (5, vI 0)] [] _ _ _
  refine st_iload_n C 1 dX11_rule_38 rfl rfl ?_
  refine st_bipush C dX11_rule_39 (by decide) (by decide) ?_
  refine st_icmp_eq (tgt := 80) C dX11_rule_41 (by decide) (fun c_41 => by omega) (fun c_41 => ?_)
  refine st_iload C dX11_rule_44 rfl ?_
  refine st_if_eq (tgt := 56) C dX11_rule_46 (by decide) (fun c_46 => ?_) (fun c_46 => by omega)
  refine st_iload C dX11_rule_56 rfl ?_
  refine st_if_eq (tgt := 84) C dX11_rule_58 (by decide) (fun c_58 => by omega) (fun c_58 => ?_)
  refine st_iload_n C 2 dX11_rule_61 rfl rfl ?_
  have b_62 : 0 ≤ a9 ∧ a9 ≤ 2 := by omega
  refine st_callS (st := []) C dX11_rule_62 [vI a9] (k_mLayer_t (v9 := a9)  b_62) w_X11_108 rfl (by decide) (by decide) (by omega) (by omega) (Nat.le_of_ble_eq_true rfl) (ko_rt ?_)
  show T x 65 [(0, vR 200), (1, vI 99), (2, vI a9), (3, vI b9), (4, vI 1), (5, vI 0)] [vI 1] _ _ _
  refine st_if_eq (tgt := 84) C dX11_rule_65 (by decide) (fun c_65 => by omega) (fun c_65 => ?_)
  refine st_iload_n C 3 dX11_rule_68 rfl rfl ?_
  have b_69 : 0 ≤ b9 ∧ b9 ≤ 2 := by omega
  refine st_callS (st := []) C dX11_rule_69 [vI b9] (k_mLayer_t (v9 := b9)  b_69) w_X11_108 rfl (by decide) (by decide) (by omega) (by omega) (Nat.le_of_ble_eq_true rfl) (ko_rt ?_)
  show T x 72 [(0, vR 200), (1, vI 99), (2, vI a9), (3, vI b9), (4, vI 1), (5, vI 0)] [vI 1] _ _ _
  refine st_if_eq (tgt := 84) C dX11_rule_72 (by decide) (fun c_72 => by omega) (fun c_72 => ?_)
  refine st_iload_n C 2 dX11_rule_75 rfl rfl ?_
  refine st_iload_n C 3 dX11_rule_76 rfl rfl ?_
  refine st_icmp_eq (tgt := 84) C dX11_rule_77 (by decide) (fun c_77 => ?_) (fun c_77 => ?_)
  · refine st_iconst C dX11_rule_84 (by decide) ?_
    refine st_istore C dX11_rule_85 (by decide) rfl ?_
    show T x 87 [(0, vR 200), (1, vI 99), (2, vI a9), (3, vI b9), (4, vI 1), (5, vI 0), (6, vI 0)] [] _ _ _
    refine st_aload_n C 0 dX11_rule_87 rfl rfl ?_
    refine st_iload C dX11_rule_88 rfl ?_
    refine st_iconst C dX11_rule_90 (by decide) ?_
    exfalso; omega
  · refine st_iconst C dX11_rule_80 (by decide) ?_
    refine st_goto (tgt := 85) C dX11_rule_81 (by decide) ?_
    refine st_istore C dX11_rule_85 (by decide) rfl ?_
    show T x 87 [(0, vR 200), (1, vI 99), (2, vI a9), (3, vI b9), (4, vI 1), (5, vI 0), (6, vI 1)] [] _ _ _
    refine st_aload_n C 0 dX11_rule_87 rfl rfl ?_
    refine st_iload C dX11_rule_88 rfl ?_
    refine st_iconst C dX11_rule_90 (by decide) ?_
    refine st_callV (st := []) C dX11_rule_91 [vI 1, vI 1] (k_no_t (p9 := 1) hm) hm w_X11_112 rfl (by decide) (by decide) (by omega) (by omega) (Nat.le_of_ble_eq_true rfl) (ko_rt ?_)
    show T x 94 [(0, vR 200), (1, vI 99), (2, vI a9), (3, vI b9), (4, vI 1), (5, vI 0), (6, vI 1)] [vI 0] (hput h 200 (oO 10 [vR 201, vR 202, vR 203, vR 204, vR 205, vR 206, vR 207, vR 208, vR 209, vR 210, vR 211, vR 212, vR 213, vR 214, vR 215, vR 216, vR 217, vR 218, vI mv, vI mrc, vI mmc, vI mmk, vI mdv, vI mwl, vI mwa, vI mwp, vI 0])) _ _
    refine st_if_eq (tgt := 99) C dX11_rule_94 (by decide) (fun c_94 => ?_) (fun c_94 => by omega)
    refine st_iload_n C 1 dX11_rule_99 rfl rfl ?_
    refine st_bipush C dX11_rule_100 (by decide) (by decide) ?_
    refine st_icmp_ne (tgt := 109) C dX11_rule_102 (by decide) (fun c_102 => ?_) (fun c_102 => by omega)
    refine st_iload_n C 2 dX11_rule_109 rfl rfl ?_
    refine st_istore C dX11_rule_110 (by decide) rfl ?_
    show T x 112 [(0, vR 200), (1, vI 99), (2, vI a9), (3, vI b9), (4, vI 1), (5, vI 0), (6, vI 1), (7, vI a9)] [] _ _ _
    refine st_iload C dX11_rule_112 rfl ?_
    refine st_if_eq (tgt := 121) C dX11_rule_114 (by decide) (fun c_114 => by omega) (fun c_114 => ?_)
    refine st_iload_n C 3 dX11_rule_117 rfl rfl ?_
    refine st_goto (tgt := 122) C dX11_rule_118 (by decide) ?_
    refine st_istore C dX11_rule_122 (by decide) rfl ?_
    show T x 124 [(0, vR 200), (1, vI 99), (2, vI a9), (3, vI b9), (4, vI 1), (5, vI 0), (6, vI 1), (7, vI a9), (8, vI b9)] [] _ _ _
    refine st_aload_n C 0 dX11_rule_124 rfl rfl ?_
    refine st_callV (st := []) C dX11_rule_125 [] (k_take (mm := mm) hput_s (hput_o (by omega) hmm) hv (hput_o (by omega) h202)) hput_s w_X11_116 rfl (by decide) (by decide) (by omega) (by omega) (Nat.le_of_ble_eq_true rfl) (ko_rn ?_)
    show T x 128 [(0, vR 200), (1, vI 99), (2, vI a9), (3, vI b9), (4, vI 1), (5, vI 0), (6, vI 1), (7, vI a9), (8, vI b9)] [] (hput (hput h 200 (oO 10 [vR 201, vR 202, vR 203, vR 204, vR 205, vR 206, vR 207, vR 208, vR 209, vR 210, vR 211, vR 212, vR 213, vR 214, vR 215, vR 216, vR 217, vR 218, vI mv, vI mrc, vI mmc, vI mmk, vI mdv, vI mwl, vI mwa, vI mwp, vI 0])) 202 (oI 304 (fmix (fun s => mm (304 * mv + s)) mw 304))) _ _
    refine st_aload_n C 0 dX11_rule_128 rfl rfl ?_
    refine st_aload_n C 0 dX11_rule_129 rfl rfl ?_
    refine st_iload_n C 1 dX11_rule_130 rfl rfl ?_
    refine st_iload C dX11_rule_131 rfl ?_
    refine st_iload C dX11_rule_133 rfl ?_
    refine st_callV (st := [vR 200]) C dX11_rule_135 [vI 99, vI a9, vI b9] (k_keeps_f (f0 := f0) (mw := (fmix (fun s => mm (304 * mv + s)) mw 304)) (a9 := a9) (b9 := b9) (k9 := 99) (hput_o (by omega) hput_s) hput_s (by omega) (by omega) hwv (hput_o (by omega) (hput_o (by omega) h216)) (by omega) hP) (hput_o (by omega) hput_s) w_X11_119 rfl (by decide) (by decide) (by omega) (by omega) (Nat.le_of_ble_eq_true rfl) (ko_rz (fun f4 _ => ?_))
    show T x 138 [(0, vR 200), (1, vI 99), (2, vI a9), (3, vI b9), (4, vI 1), (5, vI 0), (6, vI 1), (7, vI a9), (8, vI b9)] [vI 0, vR 200] _ _ _
    refine st_iconst C dX11_rule_138 (by decide) ?_
    refine st_callV (st := []) C dX11_rule_139 [vI 0, vI 2] (k_no_f (p9 := 2) (hput_o (by decide) (hput_o (by omega) hput_s))) (hput_o (by decide) (hput_o (by omega) hput_s)) w_X11_112 rfl (by decide) (by decide) (by omega) (by omega) (Nat.le_of_ble_eq_true rfl) (ko_rt ?_)
    show T x 142 [(0, vR 200), (1, vI 99), (2, vI a9), (3, vI b9), (4, vI 1), (5, vI 0), (6, vI 1), (7, vI a9), (8, vI b9)] [vI 1] (hput (hput (hput (hput h 200 (oO 10 [vR 201, vR 202, vR 203, vR 204, vR 205, vR 206, vR 207, vR 208, vR 209, vR 210, vR 211, vR 212, vR 213, vR 214, vR 215, vR 216, vR 217, vR 218, vI mv, vI mrc, vI mmc, vI mmk, vI mdv, vI mwl, vI mwa, vI mwp, vI 0])) 202 (oI 304 (fmix (fun s => mm (304 * mv + s)) mw 304))) 216 (oZ 64 f4)) 200 (oO 10 [vR 201, vR 202, vR 203, vR 204, vR 205, vR 206, vR 207, vR 208, vR 209, vR 210, vR 211, vR 212, vR 213, vR 214, vR 215, vR 216, vR 217, vR 218, vI mv, vI mrc, vI mmc, vI mmk, vI mdv, vI mwl, vI mwa, vI mwp, vI 2])) _ _
    refine st_if_ne (tgt := 167) C dX11_rule_142 (by decide) (fun c_142 => ?_) (fun c_142 => by omega)
    refine st_iconst C dX11_rule_167 (by decide) ?_
    exact st_ireturn C F dX11_rule_168 rfl (by first | exact ⟨by with_reducible rfl, f4, by with_reducible rfl⟩ | (exfalso; omega)) (by omega) (by omega)
set_option maxRecDepth 20000 in
set_option maxHeartbeats 4000000 in
theorem m_rulec_x3 {g : Gx} {h : HP} {mv mrc mmc mmk mdv mwl mwa mwp mth : Int} {mm : Int → Int} {mw : Int → Int} {f0 : Int → Int} {kk : Int → Int} {ka : Int → Int} {kb : Int → Int} {a9 b9 : Int} (hm : mO h mv mrc mmc mmk mdv mwl mwa mwp mth) (hmm : h 201 = some (oI 12464 mm)) (h202 : h 202 = some (oI 304 mw)) (h216 : h 216 = some (oZ 64 f0)) (h203 : h 203 = some (oI 6 kk)) (h204 : h 204 = some (oI 6 ka)) (h205 : h 205 = some (oI 6 kb)) (hv : 0 ≤ mv ∧ mv ≤ 40) (hl : 0 ≤ a9 ∧ a9 ≤ 2 ∧ 0 ≤ b9 ∧ b9 ≤ 2 ∧ a9 ≠ b9) (hwv : RowV (fmix (fun s => mm (304 * mv + s)) mw 304)) (hP : RuleHolds 99 a9 b9 (fmix (fun s => mm (304 * mv + s)) mw 304)) (hf : 6 ≤ mrc) : Ct g yX11_rule (.code yX11_rule cX11_rule 9 (some .int)) 7 0 0 [vR 200, vI 99, vI a9, vI b9] h ((fun r h' => r = .inl (some (vI 0)) ∧ ∃ f4 : Int → Int, h' = (hput (hput (hput (hput (hput h 200 (oO 10 [vR 201, vR 202, vR 203, vR 204, vR 205, vR 206, vR 207, vR 208, vR 209, vR 210, vR 211, vR 212, vR 213, vR 214, vR 215, vR 216, vR 217, vR 218, vI mv, vI mrc, vI mmc, vI mmk, vI mdv, vI mwl, vI mwa, vI mwp, vI 0])) 202 (oI 304 (fmix (fun s => mm (304 * mv + s)) mw 304))) 216 (oZ 64 f4)) 200 (oO 10 [vR 201, vR 202, vR 203, vR 204, vR 205, vR 206, vR 207, vR 208, vR 209, vR 210, vR 211, vR 212, vR 213, vR 214, vR 215, vR 216, vR 217, vR 218, vI mv, vI mrc, vI mmc, vI mmk, vI mdv, vI mwl, vI mwa, vI mwp, vI 0])) 200 (oO 10 [vR 201, vR 202, vR 203, vR 204, vR 205, vR 206, vR 207, vR 208, vR 209, vR 210, vR 211, vR 212, vR 213, vR 214, vR 215, vR 216, vR 217, vR 218, vI mv, vI mrc, vI mmc, vI mmk, vI mdv, vI mwl, vI mwa, vI mwp, vI 3])))) := by
  refine Ct.of (by decide) (Nat.le_of_ble_eq_true rfl) (fun x hg C F => ?_)
  subst hg
  show T x 0 [(0, vR 200), (1, vI 99), (2, vI a9), (3, vI b9)] [] h 0 0
  refine st_iload_n C 1 dX11_rule_0 rfl rfl ?_
  refine st_bipush C dX11_rule_1 (by decide) (by decide) ?_
  refine st_icmp_eq (tgt := 12) C dX11_rule_3 (by decide) (fun c_3 => ?_) (fun c_3 => by omega)
  refine st_iconst C dX11_rule_12 (by decide) ?_
  refine st_goto (tgt := 17) C dX11_rule_13 (by decide) ?_
  refine st_istore C dX11_rule_17 (by decide) rfl ?_
  show T x 19 [(0, vR 200), (1, vI 99), (2, vI a9), (3, vI b9), (4, vI 1)] [] _ _ _
  refine st_iload_n C 1 dX11_rule_19 rfl rfl ?_
  refine st_bipush C dX11_rule_20 (by decide) (by decide) ?_
  refine st_icmp_eq (tgt := 31) C dX11_rule_22 (by decide) (fun c_22 => by omega) (fun c_22 => ?_)
  refine st_iload_n C 1 dX11_rule_25 rfl rfl ?_
  refine st_bipush C dX11_rule_26 (by decide) (by decide) ?_
  refine st_icmp_ne (tgt := 35) C dX11_rule_28 (by decide) (fun c_28 => ?_) (fun c_28 => by omega)
  refine st_iconst C dX11_rule_35 (by decide) ?_
  refine st_istore C dX11_rule_36 (by decide) rfl ?_
  show T x 38 [(0, vR 200), (1, vI 99), (2, vI a9), (3, vI b9), (4, vI 1), (5, vI 0)] [] _ _ _
  refine st_iload_n C 1 dX11_rule_38 rfl rfl ?_
  refine st_bipush C dX11_rule_39 (by decide) (by decide) ?_
  refine st_icmp_eq (tgt := 80) C dX11_rule_41 (by decide) (fun c_41 => by omega) (fun c_41 => ?_)
  refine st_iload C dX11_rule_44 rfl ?_
  refine st_if_eq (tgt := 56) C dX11_rule_46 (by decide) (fun c_46 => ?_) (fun c_46 => by omega)
  refine st_iload C dX11_rule_56 rfl ?_
  refine st_if_eq (tgt := 84) C dX11_rule_58 (by decide) (fun c_58 => by omega) (fun c_58 => ?_)
  refine st_iload_n C 2 dX11_rule_61 rfl rfl ?_
  have b_62 : 0 ≤ a9 ∧ a9 ≤ 2 := by omega
  refine st_callS (st := []) C dX11_rule_62 [vI a9] (k_mLayer_t (v9 := a9)  b_62) w_X11_108 rfl (by decide) (by decide) (by omega) (by omega) (Nat.le_of_ble_eq_true rfl) (ko_rt ?_)
  show T x 65 [(0, vR 200), (1, vI 99), (2, vI a9), (3, vI b9), (4, vI 1), (5, vI 0)] [vI 1] _ _ _
  refine st_if_eq (tgt := 84) C dX11_rule_65 (by decide) (fun c_65 => by omega) (fun c_65 => ?_)
  refine st_iload_n C 3 dX11_rule_68 rfl rfl ?_
  have b_69 : 0 ≤ b9 ∧ b9 ≤ 2 := by omega
  refine st_callS (st := []) C dX11_rule_69 [vI b9] (k_mLayer_t (v9 := b9)  b_69) w_X11_108 rfl (by decide) (by decide) (by omega) (by omega) (Nat.le_of_ble_eq_true rfl) (ko_rt ?_)
  show T x 72 [(0, vR 200), (1, vI 99), (2, vI a9), (3, vI b9), (4, vI 1), (5, vI 0)] [vI 1] _ _ _
  refine st_if_eq (tgt := 84) C dX11_rule_72 (by decide) (fun c_72 => by omega) (fun c_72 => ?_)
  refine st_iload_n C 2 dX11_rule_75 rfl rfl ?_
  refine st_iload_n C 3 dX11_rule_76 rfl rfl ?_
  refine st_icmp_eq (tgt := 84) C dX11_rule_77 (by decide) (fun c_77 => ?_) (fun c_77 => ?_)
  · refine st_iconst C dX11_rule_84 (by decide) ?_
    refine st_istore C dX11_rule_85 (by decide) rfl ?_
    show T x 87 [(0, vR 200), (1, vI 99), (2, vI a9), (3, vI b9), (4, vI 1), (5, vI 0), (6, vI 0)] [] _ _ _
    refine st_aload_n C 0 dX11_rule_87 rfl rfl ?_
    refine st_iload C dX11_rule_88 rfl ?_
    refine st_iconst C dX11_rule_90 (by decide) ?_
    exfalso; omega
  · refine st_iconst C dX11_rule_80 (by decide) ?_
    refine st_goto (tgt := 85) C dX11_rule_81 (by decide) ?_
    refine st_istore C dX11_rule_85 (by decide) rfl ?_
    show T x 87 [(0, vR 200), (1, vI 99), (2, vI a9), (3, vI b9), (4, vI 1), (5, vI 0), (6, vI 1)] [] _ _ _
    refine st_aload_n C 0 dX11_rule_87 rfl rfl ?_
    refine st_iload C dX11_rule_88 rfl ?_
    refine st_iconst C dX11_rule_90 (by decide) ?_
    refine st_callV (st := []) C dX11_rule_91 [vI 1, vI 1] (k_no_t (p9 := 1) hm) hm w_X11_112 rfl (by decide) (by decide) (by omega) (by omega) (Nat.le_of_ble_eq_true rfl) (ko_rt ?_)
    show T x 94 [(0, vR 200), (1, vI 99), (2, vI a9), (3, vI b9), (4, vI 1), (5, vI 0), (6, vI 1)] [vI 0] (hput h 200 (oO 10 [vR 201, vR 202, vR 203, vR 204, vR 205, vR 206, vR 207, vR 208, vR 209, vR 210, vR 211, vR 212, vR 213, vR 214, vR 215, vR 216, vR 217, vR 218, vI mv, vI mrc, vI mmc, vI mmk, vI mdv, vI mwl, vI mwa, vI mwp, vI 0])) _ _
    refine st_if_eq (tgt := 99) C dX11_rule_94 (by decide) (fun c_94 => ?_) (fun c_94 => by omega)
    refine st_iload_n C 1 dX11_rule_99 rfl rfl ?_
    refine st_bipush C dX11_rule_100 (by decide) (by decide) ?_
    refine st_icmp_ne (tgt := 109) C dX11_rule_102 (by decide) (fun c_102 => ?_) (fun c_102 => by omega)
    refine st_iload_n C 2 dX11_rule_109 rfl rfl ?_
    refine st_istore C dX11_rule_110 (by decide) rfl ?_
    show T x 112 [(0, vR 200), (1, vI 99), (2, vI a9), (3, vI b9), (4, vI 1), (5, vI 0), (6, vI 1), (7, vI a9)] [] _ _ _
    refine st_iload C dX11_rule_112 rfl ?_
    refine st_if_eq (tgt := 121) C dX11_rule_114 (by decide) (fun c_114 => by omega) (fun c_114 => ?_)
    refine st_iload_n C 3 dX11_rule_117 rfl rfl ?_
    refine st_goto (tgt := 122) C dX11_rule_118 (by decide) ?_
    refine st_istore C dX11_rule_122 (by decide) rfl ?_
    show T x 124 [(0, vR 200), (1, vI 99), (2, vI a9), (3, vI b9), (4, vI 1), (5, vI 0), (6, vI 1), (7, vI a9), (8, vI b9)] [] _ _ _
    refine st_aload_n C 0 dX11_rule_124 rfl rfl ?_
    refine st_callV (st := []) C dX11_rule_125 [] (k_take (mm := mm) hput_s (hput_o (by omega) hmm) hv (hput_o (by omega) h202)) hput_s w_X11_116 rfl (by decide) (by decide) (by omega) (by omega) (Nat.le_of_ble_eq_true rfl) (ko_rn ?_)
    show T x 128 [(0, vR 200), (1, vI 99), (2, vI a9), (3, vI b9), (4, vI 1), (5, vI 0), (6, vI 1), (7, vI a9), (8, vI b9)] [] (hput (hput h 200 (oO 10 [vR 201, vR 202, vR 203, vR 204, vR 205, vR 206, vR 207, vR 208, vR 209, vR 210, vR 211, vR 212, vR 213, vR 214, vR 215, vR 216, vR 217, vR 218, vI mv, vI mrc, vI mmc, vI mmk, vI mdv, vI mwl, vI mwa, vI mwp, vI 0])) 202 (oI 304 (fmix (fun s => mm (304 * mv + s)) mw 304))) _ _
    refine st_aload_n C 0 dX11_rule_128 rfl rfl ?_
    refine st_aload_n C 0 dX11_rule_129 rfl rfl ?_
    refine st_iload_n C 1 dX11_rule_130 rfl rfl ?_
    refine st_iload C dX11_rule_131 rfl ?_
    refine st_iload C dX11_rule_133 rfl ?_
    refine st_callV (st := [vR 200]) C dX11_rule_135 [vI 99, vI a9, vI b9] (k_keeps_t (f0 := f0) (mw := (fmix (fun s => mm (304 * mv + s)) mw 304)) (a9 := a9) (b9 := b9) (k9 := 99) (hput_o (by omega) hput_s) hput_s (by omega) (by omega) hwv (hput_o (by omega) (hput_o (by omega) h216)) (by omega) hP) (hput_o (by omega) hput_s) w_X11_119 rfl (by decide) (by decide) (by omega) (by omega) (Nat.le_of_ble_eq_true rfl) (ko_rz (fun f4 _ => ?_))
    show T x 138 [(0, vR 200), (1, vI 99), (2, vI a9), (3, vI b9), (4, vI 1), (5, vI 0), (6, vI 1), (7, vI a9), (8, vI b9)] [vI 1, vR 200] _ _ _
    refine st_iconst C dX11_rule_138 (by decide) ?_
    refine st_callV (st := []) C dX11_rule_139 [vI 1, vI 2] (k_no_t (p9 := 2) (hput_o (by decide) (hput_o (by omega) hput_s))) (hput_o (by decide) (hput_o (by omega) hput_s)) w_X11_112 rfl (by decide) (by decide) (by omega) (by omega) (Nat.le_of_ble_eq_true rfl) (ko_rt ?_)
    show T x 142 [(0, vR 200), (1, vI 99), (2, vI a9), (3, vI b9), (4, vI 1), (5, vI 0), (6, vI 1), (7, vI a9), (8, vI b9)] [vI 0] (hput (hput (hput (hput h 200 (oO 10 [vR 201, vR 202, vR 203, vR 204, vR 205, vR 206, vR 207, vR 208, vR 209, vR 210, vR 211, vR 212, vR 213, vR 214, vR 215, vR 216, vR 217, vR 218, vI mv, vI mrc, vI mmc, vI mmk, vI mdv, vI mwl, vI mwa, vI mwp, vI 0])) 202 (oI 304 (fmix (fun s => mm (304 * mv + s)) mw 304))) 216 (oZ 64 f4)) 200 (oO 10 [vR 201, vR 202, vR 203, vR 204, vR 205, vR 206, vR 207, vR 208, vR 209, vR 210, vR 211, vR 212, vR 213, vR 214, vR 215, vR 216, vR 217, vR 218, vI mv, vI mrc, vI mmc, vI mmk, vI mdv, vI mwl, vI mwa, vI mwp, vI 0])) _ _
    refine st_if_ne (tgt := 167) C dX11_rule_142 (by decide) (fun c_142 => by omega) (fun c_142 => ?_)
    refine st_aload_n C 0 dX11_rule_145 rfl rfl ?_
    refine st_aload_n C 0 dX11_rule_146 rfl rfl ?_
    refine st_getf C dX11_rule_147 fl_X11_122 hput_s rfl ?_
    refine st_bipush C dX11_rule_150 (by decide) (by decide) ?_
    refine st_icmp_ge (tgt := 159) C dX11_rule_152 (by decide) (fun c_152 => ?_) (fun c_152 => by omega)
    refine st_iconst C dX11_rule_159 (by decide) ?_
    refine st_iconst C dX11_rule_160 (by decide) ?_
    refine st_callV (st := []) C dX11_rule_161 [vI 0, vI 3] (k_no_f (p9 := 3) hput_s) hput_s w_X11_112 rfl (by decide) (by decide) (by omega) (by omega) (Nat.le_of_ble_eq_true rfl) (ko_rt ?_)
    show T x 164 [(0, vR 200), (1, vI 99), (2, vI a9), (3, vI b9), (4, vI 1), (5, vI 0), (6, vI 1), (7, vI a9), (8, vI b9)] [vI 1] (hput (hput (hput (hput (hput h 200 (oO 10 [vR 201, vR 202, vR 203, vR 204, vR 205, vR 206, vR 207, vR 208, vR 209, vR 210, vR 211, vR 212, vR 213, vR 214, vR 215, vR 216, vR 217, vR 218, vI mv, vI mrc, vI mmc, vI mmk, vI mdv, vI mwl, vI mwa, vI mwp, vI 0])) 202 (oI 304 (fmix (fun s => mm (304 * mv + s)) mw 304))) 216 (oZ 64 f4)) 200 (oO 10 [vR 201, vR 202, vR 203, vR 204, vR 205, vR 206, vR 207, vR 208, vR 209, vR 210, vR 211, vR 212, vR 213, vR 214, vR 215, vR 216, vR 217, vR 218, vI mv, vI mrc, vI mmc, vI mmk, vI mdv, vI mwl, vI mwa, vI mwp, vI 0])) 200 (oO 10 [vR 201, vR 202, vR 203, vR 204, vR 205, vR 206, vR 207, vR 208, vR 209, vR 210, vR 211, vR 212, vR 213, vR 214, vR 215, vR 216, vR 217, vR 218, vI mv, vI mrc, vI mmc, vI mmk, vI mdv, vI mwl, vI mwa, vI mwp, vI 3])) _ _
    refine st_if_eq (tgt := 169) C dX11_rule_164 (by decide) (fun c_164 => by omega) (fun c_164 => ?_)
    refine st_iconst C dX11_rule_167 (by decide) ?_
    exact st_ireturn C F dX11_rule_168 rfl (by first | exact ⟨by with_reducible rfl, f4, by with_reducible rfl⟩ | (exfalso; omega)) (by omega) (by omega)
set_option maxRecDepth 20000 in
set_option maxHeartbeats 4000000 in
theorem m_rulec {g : Gx} {h : HP} {mv mrc mmc mmk mdv mwl mwa mwp mth : Int} {mm : Int → Int} {mw : Int → Int} {f0 : Int → Int} {kk : Int → Int} {ka : Int → Int} {kb : Int → Int} {a9 b9 : Int} (hm : mO h mv mrc mmc mmk mdv mwl mwa mwp mth) (hmm : h 201 = some (oI 12464 mm)) (h202 : h 202 = some (oI 304 mw)) (h216 : h 216 = some (oZ 64 f0)) (h203 : h 203 = some (oI 6 kk)) (h204 : h 204 = some (oI 6 ka)) (h205 : h 205 = some (oI 6 kb)) (hv : 0 ≤ mv ∧ mv ≤ 40) (hl : 0 ≤ a9 ∧ a9 ≤ 2 ∧ 0 ≤ b9 ∧ b9 ≤ 2 ∧ a9 ≠ b9) (hwv : RowV (fmix (fun s => mm (304 * mv + s)) mw 304)) (hP : RuleHolds 99 a9 b9 (fmix (fun s => mm (304 * mv + s)) mw 304)) (hf : 0 ≤ mrc ∧ mrc ≤ 5) : Ct g yX11_rule (.code yX11_rule cX11_rule 9 (some .int)) 7 0 0 [vR 200, vI 99, vI a9, vI b9] h ((fun r h' => r = .inl (some (vI mrc)) ∧ ∃ f4 : Int → Int, h' = (hput (hput (hput (hput (hput (hput (hput (hput (hput h 200 (oO 10 [vR 201, vR 202, vR 203, vR 204, vR 205, vR 206, vR 207, vR 208, vR 209, vR 210, vR 211, vR 212, vR 213, vR 214, vR 215, vR 216, vR 217, vR 218, vI mv, vI mrc, vI mmc, vI mmk, vI mdv, vI mwl, vI mwa, vI mwp, vI 0])) 202 (oI 304 (fmix (fun s => mm (304 * mv + s)) mw 304))) 216 (oZ 64 f4)) 200 (oO 10 [vR 201, vR 202, vR 203, vR 204, vR 205, vR 206, vR 207, vR 208, vR 209, vR 210, vR 211, vR 212, vR 213, vR 214, vR 215, vR 216, vR 217, vR 218, vI mv, vI mrc, vI mmc, vI mmk, vI mdv, vI mwl, vI mwa, vI mwp, vI 0])) 200 (oO 10 [vR 201, vR 202, vR 203, vR 204, vR 205, vR 206, vR 207, vR 208, vR 209, vR 210, vR 211, vR 212, vR 213, vR 214, vR 215, vR 216, vR 217, vR 218, vI mv, vI mrc, vI mmc, vI mmk, vI mdv, vI mwl, vI mwa, vI mwp, vI 0])) 203 (oI 6 (fput kk mrc 99))) 204 (oI 6 (fput ka mrc a9))) 205 (oI 6 (fput kb mrc b9))) 200 (oO 10 [vR 201, vR 202, vR 203, vR 204, vR 205, vR 206, vR 207, vR 208, vR 209, vR 210, vR 211, vR 212, vR 213, vR 214, vR 215, vR 216, vR 217, vR 218, vI mv, vI (mrc + 1), vI mmc, vI mmk, vI mdv, vI mwl, vI mwa, vI mwp, vI 0])))) := by
  refine Ct.of (by decide) (Nat.le_of_ble_eq_true rfl) (fun x hg C F => ?_)
  subst hg
  show T x 0 [(0, vR 200), (1, vI 99), (2, vI a9), (3, vI b9)] [] h 0 0
  refine st_iload_n C 1 dX11_rule_0 rfl rfl ?_
  refine st_bipush C dX11_rule_1 (by decide) (by decide) ?_
  refine st_icmp_eq (tgt := 12) C dX11_rule_3 (by decide) (fun c_3 => ?_) (fun c_3 => by omega)
  refine st_iconst C dX11_rule_12 (by decide) ?_
  refine st_goto (tgt := 17) C dX11_rule_13 (by decide) ?_
  refine st_istore C dX11_rule_17 (by decide) rfl ?_
  show T x 19 [(0, vR 200), (1, vI 99), (2, vI a9), (3, vI b9), (4, vI 1)] [] _ _ _
  refine st_iload_n C 1 dX11_rule_19 rfl rfl ?_
  refine st_bipush C dX11_rule_20 (by decide) (by decide) ?_
  refine st_icmp_eq (tgt := 31) C dX11_rule_22 (by decide) (fun c_22 => by omega) (fun c_22 => ?_)
  refine st_iload_n C 1 dX11_rule_25 rfl rfl ?_
  refine st_bipush C dX11_rule_26 (by decide) (by decide) ?_
  refine st_icmp_ne (tgt := 35) C dX11_rule_28 (by decide) (fun c_28 => ?_) (fun c_28 => by omega)
  refine st_iconst C dX11_rule_35 (by decide) ?_
  refine st_istore C dX11_rule_36 (by decide) rfl ?_
  show T x 38 [(0, vR 200), (1, vI 99), (2, vI a9), (3, vI b9), (4, vI 1), (5, vI 0)] [] _ _ _
  refine st_iload_n C 1 dX11_rule_38 rfl rfl ?_
  refine st_bipush C dX11_rule_39 (by decide) (by decide) ?_
  refine st_icmp_eq (tgt := 80) C dX11_rule_41 (by decide) (fun c_41 => by omega) (fun c_41 => ?_)
  refine st_iload C dX11_rule_44 rfl ?_
  refine st_if_eq (tgt := 56) C dX11_rule_46 (by decide) (fun c_46 => ?_) (fun c_46 => by omega)
  refine st_iload C dX11_rule_56 rfl ?_
  refine st_if_eq (tgt := 84) C dX11_rule_58 (by decide) (fun c_58 => by omega) (fun c_58 => ?_)
  refine st_iload_n C 2 dX11_rule_61 rfl rfl ?_
  have b_62 : 0 ≤ a9 ∧ a9 ≤ 2 := by omega
  refine st_callS (st := []) C dX11_rule_62 [vI a9] (k_mLayer_t (v9 := a9)  b_62) w_X11_108 rfl (by decide) (by decide) (by omega) (by omega) (Nat.le_of_ble_eq_true rfl) (ko_rt ?_)
  show T x 65 [(0, vR 200), (1, vI 99), (2, vI a9), (3, vI b9), (4, vI 1), (5, vI 0)] [vI 1] _ _ _
  refine st_if_eq (tgt := 84) C dX11_rule_65 (by decide) (fun c_65 => by omega) (fun c_65 => ?_)
  refine st_iload_n C 3 dX11_rule_68 rfl rfl ?_
  have b_69 : 0 ≤ b9 ∧ b9 ≤ 2 := by omega
  refine st_callS (st := []) C dX11_rule_69 [vI b9] (k_mLayer_t (v9 := b9)  b_69) w_X11_108 rfl (by decide) (by decide) (by omega) (by omega) (Nat.le_of_ble_eq_true rfl) (ko_rt ?_)
  show T x 72 [(0, vR 200), (1, vI 99), (2, vI a9), (3, vI b9), (4, vI 1), (5, vI 0)] [vI 1] _ _ _
  refine st_if_eq (tgt := 84) C dX11_rule_72 (by decide) (fun c_72 => by omega) (fun c_72 => ?_)
  refine st_iload_n C 2 dX11_rule_75 rfl rfl ?_
  refine st_iload_n C 3 dX11_rule_76 rfl rfl ?_
  refine st_icmp_eq (tgt := 84) C dX11_rule_77 (by decide) (fun c_77 => ?_) (fun c_77 => ?_)
  · refine st_iconst C dX11_rule_84 (by decide) ?_
    refine st_istore C dX11_rule_85 (by decide) rfl ?_
    show T x 87 [(0, vR 200), (1, vI 99), (2, vI a9), (3, vI b9), (4, vI 1), (5, vI 0), (6, vI 0)] [] _ _ _
    refine st_aload_n C 0 dX11_rule_87 rfl rfl ?_
    refine st_iload C dX11_rule_88 rfl ?_
    refine st_iconst C dX11_rule_90 (by decide) ?_
    exfalso; omega
  · refine st_iconst C dX11_rule_80 (by decide) ?_
    refine st_goto (tgt := 85) C dX11_rule_81 (by decide) ?_
    refine st_istore C dX11_rule_85 (by decide) rfl ?_
    show T x 87 [(0, vR 200), (1, vI 99), (2, vI a9), (3, vI b9), (4, vI 1), (5, vI 0), (6, vI 1)] [] _ _ _
    refine st_aload_n C 0 dX11_rule_87 rfl rfl ?_
    refine st_iload C dX11_rule_88 rfl ?_
    refine st_iconst C dX11_rule_90 (by decide) ?_
    refine st_callV (st := []) C dX11_rule_91 [vI 1, vI 1] (k_no_t (p9 := 1) hm) hm w_X11_112 rfl (by decide) (by decide) (by omega) (by omega) (Nat.le_of_ble_eq_true rfl) (ko_rt ?_)
    show T x 94 [(0, vR 200), (1, vI 99), (2, vI a9), (3, vI b9), (4, vI 1), (5, vI 0), (6, vI 1)] [vI 0] (hput h 200 (oO 10 [vR 201, vR 202, vR 203, vR 204, vR 205, vR 206, vR 207, vR 208, vR 209, vR 210, vR 211, vR 212, vR 213, vR 214, vR 215, vR 216, vR 217, vR 218, vI mv, vI mrc, vI mmc, vI mmk, vI mdv, vI mwl, vI mwa, vI mwp, vI 0])) _ _
    refine st_if_eq (tgt := 99) C dX11_rule_94 (by decide) (fun c_94 => ?_) (fun c_94 => by omega)
    refine st_iload_n C 1 dX11_rule_99 rfl rfl ?_
    refine st_bipush C dX11_rule_100 (by decide) (by decide) ?_
    refine st_icmp_ne (tgt := 109) C dX11_rule_102 (by decide) (fun c_102 => ?_) (fun c_102 => by omega)
    refine st_iload_n C 2 dX11_rule_109 rfl rfl ?_
    refine st_istore C dX11_rule_110 (by decide) rfl ?_
    show T x 112 [(0, vR 200), (1, vI 99), (2, vI a9), (3, vI b9), (4, vI 1), (5, vI 0), (6, vI 1), (7, vI a9)] [] _ _ _
    refine st_iload C dX11_rule_112 rfl ?_
    refine st_if_eq (tgt := 121) C dX11_rule_114 (by decide) (fun c_114 => by omega) (fun c_114 => ?_)
    refine st_iload_n C 3 dX11_rule_117 rfl rfl ?_
    refine st_goto (tgt := 122) C dX11_rule_118 (by decide) ?_
    refine st_istore C dX11_rule_122 (by decide) rfl ?_
    show T x 124 [(0, vR 200), (1, vI 99), (2, vI a9), (3, vI b9), (4, vI 1), (5, vI 0), (6, vI 1), (7, vI a9), (8, vI b9)] [] _ _ _
    refine st_aload_n C 0 dX11_rule_124 rfl rfl ?_
    refine st_callV (st := []) C dX11_rule_125 [] (k_take (mm := mm) hput_s (hput_o (by omega) hmm) hv (hput_o (by omega) h202)) hput_s w_X11_116 rfl (by decide) (by decide) (by omega) (by omega) (Nat.le_of_ble_eq_true rfl) (ko_rn ?_)
    show T x 128 [(0, vR 200), (1, vI 99), (2, vI a9), (3, vI b9), (4, vI 1), (5, vI 0), (6, vI 1), (7, vI a9), (8, vI b9)] [] (hput (hput h 200 (oO 10 [vR 201, vR 202, vR 203, vR 204, vR 205, vR 206, vR 207, vR 208, vR 209, vR 210, vR 211, vR 212, vR 213, vR 214, vR 215, vR 216, vR 217, vR 218, vI mv, vI mrc, vI mmc, vI mmk, vI mdv, vI mwl, vI mwa, vI mwp, vI 0])) 202 (oI 304 (fmix (fun s => mm (304 * mv + s)) mw 304))) _ _
    refine st_aload_n C 0 dX11_rule_128 rfl rfl ?_
    refine st_aload_n C 0 dX11_rule_129 rfl rfl ?_
    refine st_iload_n C 1 dX11_rule_130 rfl rfl ?_
    refine st_iload C dX11_rule_131 rfl ?_
    refine st_iload C dX11_rule_133 rfl ?_
    refine st_callV (st := [vR 200]) C dX11_rule_135 [vI 99, vI a9, vI b9] (k_keeps_t (f0 := f0) (mw := (fmix (fun s => mm (304 * mv + s)) mw 304)) (a9 := a9) (b9 := b9) (k9 := 99) (hput_o (by omega) hput_s) hput_s (by omega) (by omega) hwv (hput_o (by omega) (hput_o (by omega) h216)) (by omega) hP) (hput_o (by omega) hput_s) w_X11_119 rfl (by decide) (by decide) (by omega) (by omega) (Nat.le_of_ble_eq_true rfl) (ko_rz (fun f4 _ => ?_))
    show T x 138 [(0, vR 200), (1, vI 99), (2, vI a9), (3, vI b9), (4, vI 1), (5, vI 0), (6, vI 1), (7, vI a9), (8, vI b9)] [vI 1, vR 200] _ _ _
    refine st_iconst C dX11_rule_138 (by decide) ?_
    refine st_callV (st := []) C dX11_rule_139 [vI 1, vI 2] (k_no_t (p9 := 2) (hput_o (by decide) (hput_o (by omega) hput_s))) (hput_o (by decide) (hput_o (by omega) hput_s)) w_X11_112 rfl (by decide) (by decide) (by omega) (by omega) (Nat.le_of_ble_eq_true rfl) (ko_rt ?_)
    show T x 142 [(0, vR 200), (1, vI 99), (2, vI a9), (3, vI b9), (4, vI 1), (5, vI 0), (6, vI 1), (7, vI a9), (8, vI b9)] [vI 0] (hput (hput (hput (hput h 200 (oO 10 [vR 201, vR 202, vR 203, vR 204, vR 205, vR 206, vR 207, vR 208, vR 209, vR 210, vR 211, vR 212, vR 213, vR 214, vR 215, vR 216, vR 217, vR 218, vI mv, vI mrc, vI mmc, vI mmk, vI mdv, vI mwl, vI mwa, vI mwp, vI 0])) 202 (oI 304 (fmix (fun s => mm (304 * mv + s)) mw 304))) 216 (oZ 64 f4)) 200 (oO 10 [vR 201, vR 202, vR 203, vR 204, vR 205, vR 206, vR 207, vR 208, vR 209, vR 210, vR 211, vR 212, vR 213, vR 214, vR 215, vR 216, vR 217, vR 218, vI mv, vI mrc, vI mmc, vI mmk, vI mdv, vI mwl, vI mwa, vI mwp, vI 0])) _ _
    refine st_if_ne (tgt := 167) C dX11_rule_142 (by decide) (fun c_142 => by omega) (fun c_142 => ?_)
    refine st_aload_n C 0 dX11_rule_145 rfl rfl ?_
    refine st_aload_n C 0 dX11_rule_146 rfl rfl ?_
    refine st_getf C dX11_rule_147 fl_X11_122 hput_s rfl ?_
    refine st_bipush C dX11_rule_150 (by decide) (by decide) ?_
    refine st_icmp_ge (tgt := 159) C dX11_rule_152 (by decide) (fun c_152 => by omega) (fun c_152 => ?_)
    refine st_iconst C dX11_rule_155 (by decide) ?_
    refine st_goto (tgt := 160) C dX11_rule_156 (by decide) ?_
    refine st_iconst C dX11_rule_160 (by decide) ?_
    refine st_callV (st := []) C dX11_rule_161 [vI 1, vI 3] (k_no_t (p9 := 3) hput_s) hput_s w_X11_112 rfl (by decide) (by decide) (by omega) (by omega) (Nat.le_of_ble_eq_true rfl) (ko_rt ?_)
    show T x 164 [(0, vR 200), (1, vI 99), (2, vI a9), (3, vI b9), (4, vI 1), (5, vI 0), (6, vI 1), (7, vI a9), (8, vI b9)] [vI 0] (hput (hput (hput (hput (hput h 200 (oO 10 [vR 201, vR 202, vR 203, vR 204, vR 205, vR 206, vR 207, vR 208, vR 209, vR 210, vR 211, vR 212, vR 213, vR 214, vR 215, vR 216, vR 217, vR 218, vI mv, vI mrc, vI mmc, vI mmk, vI mdv, vI mwl, vI mwa, vI mwp, vI 0])) 202 (oI 304 (fmix (fun s => mm (304 * mv + s)) mw 304))) 216 (oZ 64 f4)) 200 (oO 10 [vR 201, vR 202, vR 203, vR 204, vR 205, vR 206, vR 207, vR 208, vR 209, vR 210, vR 211, vR 212, vR 213, vR 214, vR 215, vR 216, vR 217, vR 218, vI mv, vI mrc, vI mmc, vI mmk, vI mdv, vI mwl, vI mwa, vI mwp, vI 0])) 200 (oO 10 [vR 201, vR 202, vR 203, vR 204, vR 205, vR 206, vR 207, vR 208, vR 209, vR 210, vR 211, vR 212, vR 213, vR 214, vR 215, vR 216, vR 217, vR 218, vI mv, vI mrc, vI mmc, vI mmk, vI mdv, vI mwl, vI mwa, vI mwp, vI 0])) _ _
    refine st_if_eq (tgt := 169) C dX11_rule_164 (by decide) (fun c_164 => ?_) (fun c_164 => by omega)
    refine st_aload_n C 0 dX11_rule_169 rfl rfl ?_
    refine st_getf C dX11_rule_170 fl_X11_16 hput_s rfl ?_
    refine st_aload_n C 0 dX11_rule_173 rfl rfl ?_
    refine st_getf C dX11_rule_174 fl_X11_122 hput_s rfl ?_
    refine st_iload_n C 1 dX11_rule_177 rfl rfl ?_
    refine st_iast C dX11_rule_178 (hput_o (by omega) (hput_o (by omega) (hput_o (by decide) (hput_o (by omega) (hput_o (by omega) h203))))) (by omega) (by omega) ?_
    refine st_aload_n C 0 dX11_rule_179 rfl rfl ?_
    refine st_getf C dX11_rule_180 fl_X11_19 (hput_o (by omega) hput_s) rfl ?_
    refine st_aload_n C 0 dX11_rule_183 rfl rfl ?_
    refine st_getf C dX11_rule_184 fl_X11_122 (hput_o (by omega) hput_s) rfl ?_
    refine st_iload C dX11_rule_187 rfl ?_
    refine st_iast C dX11_rule_189 (hput_o (by omega) (hput_o (by omega) (hput_o (by omega) (hput_o (by decide) (hput_o (by omega) (hput_o (by omega) h204)))))) (by omega) (by omega) ?_
    refine st_aload_n C 0 dX11_rule_190 rfl rfl ?_
    refine st_getf C dX11_rule_191 fl_X11_22 (hput_o (by omega) (hput_o (by omega) hput_s)) rfl ?_
    refine st_aload_n C 0 dX11_rule_194 rfl rfl ?_
    refine st_getf C dX11_rule_195 fl_X11_122 (hput_o (by omega) (hput_o (by omega) hput_s)) rfl ?_
    refine st_iload C dX11_rule_198 rfl ?_
    refine st_iast C dX11_rule_200 (hput_o (by omega) (hput_o (by omega) (hput_o (by omega) (hput_o (by omega) (hput_o (by decide) (hput_o (by omega) (hput_o (by omega) h205))))))) (by omega) (by omega) ?_
    refine st_aload_n C 0 dX11_rule_201 rfl rfl ?_
    refine st_dup C dX11_rule_202 rfl ?_
    refine st_getf C dX11_rule_203 fl_X11_122 (hput_o (by omega) (hput_o (by omega) (hput_o (by omega) hput_s))) rfl ?_
    refine st_iconst C dX11_rule_206 (by decide) ?_
    refine st_iadd C dX11_rule_207 ⟨(by omega), (by omega)⟩ ?_
    refine st_putf C dX11_rule_208 fp_X11_122 (fun q => by cases q) (hput_o (by omega) (hput_o (by omega) (hput_o (by omega) hput_s))) (Nat.le_of_ble_eq_true rfl) fit_int ?_
    show T x 211 [(0, vR 200), (1, vI 99), (2, vI a9), (3, vI b9), (4, vI 1), (5, vI 0), (6, vI 1), (7, vI a9), (8, vI b9)] [] (hput (hput (hput (hput (hput (hput (hput (hput (hput h 200 (oO 10 [vR 201, vR 202, vR 203, vR 204, vR 205, vR 206, vR 207, vR 208, vR 209, vR 210, vR 211, vR 212, vR 213, vR 214, vR 215, vR 216, vR 217, vR 218, vI mv, vI mrc, vI mmc, vI mmk, vI mdv, vI mwl, vI mwa, vI mwp, vI 0])) 202 (oI 304 (fmix (fun s => mm (304 * mv + s)) mw 304))) 216 (oZ 64 f4)) 200 (oO 10 [vR 201, vR 202, vR 203, vR 204, vR 205, vR 206, vR 207, vR 208, vR 209, vR 210, vR 211, vR 212, vR 213, vR 214, vR 215, vR 216, vR 217, vR 218, vI mv, vI mrc, vI mmc, vI mmk, vI mdv, vI mwl, vI mwa, vI mwp, vI 0])) 200 (oO 10 [vR 201, vR 202, vR 203, vR 204, vR 205, vR 206, vR 207, vR 208, vR 209, vR 210, vR 211, vR 212, vR 213, vR 214, vR 215, vR 216, vR 217, vR 218, vI mv, vI mrc, vI mmc, vI mmk, vI mdv, vI mwl, vI mwa, vI mwp, vI 0])) 203 (oI 6 (fput kk mrc 99))) 204 (oI 6 (fput ka mrc a9))) 205 (oI 6 (fput kb mrc b9))) 200 (oO 10 [vR 201, vR 202, vR 203, vR 204, vR 205, vR 206, vR 207, vR 208, vR 209, vR 210, vR 211, vR 212, vR 213, vR 214, vR 215, vR 216, vR 217, vR 218, vI mv, vI (mrc + 1), vI mmc, vI mmk, vI mdv, vI mwl, vI mwa, vI mwp, vI 0])) _ _
    refine st_aload_n C 0 dX11_rule_211 rfl rfl ?_
    refine st_getf C dX11_rule_212 fl_X11_122 hput_s rfl ?_
    refine st_iconst C dX11_rule_215 (by decide) ?_
    refine st_isub C dX11_rule_216 ⟨(by omega), (by omega)⟩ ?_
    exact st_ireturn C F dX11_rule_217 rfl (by first | (rw [show mrc + 1 - 1 = mrc by omega]; exact ⟨by with_reducible rfl, f4, by with_reducible rfl⟩) | (exfalso; omega)) (by omega) (by omega)
set_option maxRecDepth 20000 in
set_option maxHeartbeats 4000000 in
theorem m_rulex_x2 {g : Gx} {h : HP} {mv mrc mmc mmk mdv mwl mwa mwp mth : Int} {mm : Int → Int} {mw : Int → Int} {f0 : Int → Int} {kk : Int → Int} {ka : Int → Int} {kb : Int → Int} {a9 b9 : Int} (hm : mO h mv mrc mmc mmk mdv mwl mwa mwp mth) (hmm : h 201 = some (oI 12464 mm)) (h202 : h 202 = some (oI 304 mw)) (h216 : h 216 = some (oZ 64 f0)) (h203 : h 203 = some (oI 6 kk)) (h204 : h 204 = some (oI 6 ka)) (h205 : h 205 = some (oI 6 kb)) (hv : 0 ≤ mv ∧ mv ≤ 40) (hl : 0 ≤ a9 ∧ a9 ≤ 2 ∧ 0 ≤ b9 ∧ b9 ≤ 2 ∧ a9 ≠ b9) (hwv : RowV (fmix (fun s => mm (304 * mv + s)) mw 304)) (hP : ¬ RuleHolds 120 a9 b9 (fmix (fun s => mm (304 * mv + s)) mw 304)) : Ct g yX11_rule (.code yX11_rule cX11_rule 9 (some .int)) 7 0 0 [vR 200, vI 120, vI a9, vI b9] h ((fun r h' => r = .inl (some (vI 0)) ∧ ∃ f4 : Int → Int, h' = (hput (hput (hput (hput h 200 (oO 10 [vR 201, vR 202, vR 203, vR 204, vR 205, vR 206, vR 207, vR 208, vR 209, vR 210, vR 211, vR 212, vR 213, vR 214, vR 215, vR 216, vR 217, vR 218, vI mv, vI mrc, vI mmc, vI mmk, vI mdv, vI mwl, vI mwa, vI mwp, vI 0])) 202 (oI 304 (fmix (fun s => mm (304 * mv + s)) mw 304))) 216 (oZ 64 f4)) 200 (oO 10 [vR 201, vR 202, vR 203, vR 204, vR 205, vR 206, vR 207, vR 208, vR 209, vR 210, vR 211, vR 212, vR 213, vR 214, vR 215, vR 216, vR 217, vR 218, vI mv, vI mrc, vI mmc, vI mmk, vI mdv, vI mwl, vI mwa, vI mwp, vI 2])))) := by
  refine Ct.of (by decide) (Nat.le_of_ble_eq_true rfl) (fun x hg C F => ?_)
  subst hg
  show T x 0 [(0, vR 200), (1, vI 120), (2, vI a9), (3, vI b9)] [] h 0 0
  refine st_iload_n C 1 dX11_rule_0 rfl rfl ?_
  refine st_bipush C dX11_rule_1 (by decide) (by decide) ?_
  refine st_icmp_eq (tgt := 12) C dX11_rule_3 (by decide) (fun c_3 => by omega) (fun c_3 => ?_)
  refine st_iload_n C 1 dX11_rule_6 rfl rfl ?_
  refine st_bipush C dX11_rule_7 (by decide) (by decide) ?_
  refine st_icmp_ne (tgt := 16) C dX11_rule_9 (by decide) (fun c_9 => by omega) (fun c_9 => ?_)
  refine st_iconst C dX11_rule_12 (by decide) ?_
  refine st_goto (tgt := 17) C dX11_rule_13 (by decide) ?_
  refine st_istore C dX11_rule_17 (by decide) rfl ?_
  show T x 19 [(0, vR 200), (1, vI 120), (2, vI a9), (3, vI b9), (4, vI 1)] [] _ _ _
  refine st_iload_n C 1 dX11_rule_19 rfl rfl ?_
  refine st_bipush C dX11_rule_20 (by decide) (by decide) ?_
  refine st_icmp_eq (tgt := 31) C dX11_rule_22 (by decide) (fun c_22 => by omega) (fun c_22 => ?_)
  refine st_iload_n C 1 dX11_rule_25 rfl rfl ?_
  refine st_bipush C dX11_rule_26 (by decide) (by decide) ?_
  refine st_icmp_ne (tgt := 35) C dX11_rule_28 (by decide) (fun c_28 => ?_) (fun c_28 => by omega)
  refine st_iconst C dX11_rule_35 (by decide) ?_
  refine st_istore C dX11_rule_36 (by decide) rfl ?_
  show T x 38 [(0, vR 200), (1, vI 120), (2, vI a9), (3, vI b9), (4, vI 1), (5, vI 0)] [] _ _ _
  refine st_iload_n C 1 dX11_rule_38 rfl rfl ?_
  refine st_bipush C dX11_rule_39 (by decide) (by decide) ?_
  refine st_icmp_eq (tgt := 80) C dX11_rule_41 (by decide) (fun c_41 => by omega) (fun c_41 => ?_)
  refine st_iload C dX11_rule_44 rfl ?_
  refine st_if_eq (tgt := 56) C dX11_rule_46 (by decide) (fun c_46 => ?_) (fun c_46 => by omega)
  refine st_iload C dX11_rule_56 rfl ?_
  refine st_if_eq (tgt := 84) C dX11_rule_58 (by decide) (fun c_58 => by omega) (fun c_58 => ?_)
  refine st_iload_n C 2 dX11_rule_61 rfl rfl ?_
  have b_62 : 0 ≤ a9 ∧ a9 ≤ 2 := by omega
  refine st_callS (st := []) C dX11_rule_62 [vI a9] (k_mLayer_t (v9 := a9)  b_62) w_X11_108 rfl (by decide) (by decide) (by omega) (by omega) (Nat.le_of_ble_eq_true rfl) (ko_rt ?_)
  show T x 65 [(0, vR 200), (1, vI 120), (2, vI a9), (3, vI b9), (4, vI 1), (5, vI 0)] [vI 1] _ _ _
  refine st_if_eq (tgt := 84) C dX11_rule_65 (by decide) (fun c_65 => by omega) (fun c_65 => ?_)
  refine st_iload_n C 3 dX11_rule_68 rfl rfl ?_
  have b_69 : 0 ≤ b9 ∧ b9 ≤ 2 := by omega
  refine st_callS (st := []) C dX11_rule_69 [vI b9] (k_mLayer_t (v9 := b9)  b_69) w_X11_108 rfl (by decide) (by decide) (by omega) (by omega) (Nat.le_of_ble_eq_true rfl) (ko_rt ?_)
  show T x 72 [(0, vR 200), (1, vI 120), (2, vI a9), (3, vI b9), (4, vI 1), (5, vI 0)] [vI 1] _ _ _
  refine st_if_eq (tgt := 84) C dX11_rule_72 (by decide) (fun c_72 => by omega) (fun c_72 => ?_)
  refine st_iload_n C 2 dX11_rule_75 rfl rfl ?_
  refine st_iload_n C 3 dX11_rule_76 rfl rfl ?_
  refine st_icmp_eq (tgt := 84) C dX11_rule_77 (by decide) (fun c_77 => ?_) (fun c_77 => ?_)
  · refine st_iconst C dX11_rule_84 (by decide) ?_
    refine st_istore C dX11_rule_85 (by decide) rfl ?_
    show T x 87 [(0, vR 200), (1, vI 120), (2, vI a9), (3, vI b9), (4, vI 1), (5, vI 0), (6, vI 0)] [] _ _ _
    refine st_aload_n C 0 dX11_rule_87 rfl rfl ?_
    refine st_iload C dX11_rule_88 rfl ?_
    refine st_iconst C dX11_rule_90 (by decide) ?_
    exfalso; omega
  · refine st_iconst C dX11_rule_80 (by decide) ?_
    refine st_goto (tgt := 85) C dX11_rule_81 (by decide) ?_
    refine st_istore C dX11_rule_85 (by decide) rfl ?_
    show T x 87 [(0, vR 200), (1, vI 120), (2, vI a9), (3, vI b9), (4, vI 1), (5, vI 0), (6, vI 1)] [] _ _ _
    refine st_aload_n C 0 dX11_rule_87 rfl rfl ?_
    refine st_iload C dX11_rule_88 rfl ?_
    refine st_iconst C dX11_rule_90 (by decide) ?_
    refine st_callV (st := []) C dX11_rule_91 [vI 1, vI 1] (k_no_t (p9 := 1) hm) hm w_X11_112 rfl (by decide) (by decide) (by omega) (by omega) (Nat.le_of_ble_eq_true rfl) (ko_rt ?_)
    show T x 94 [(0, vR 200), (1, vI 120), (2, vI a9), (3, vI b9), (4, vI 1), (5, vI 0), (6, vI 1)] [vI 0] (hput h 200 (oO 10 [vR 201, vR 202, vR 203, vR 204, vR 205, vR 206, vR 207, vR 208, vR 209, vR 210, vR 211, vR 212, vR 213, vR 214, vR 215, vR 216, vR 217, vR 218, vI mv, vI mrc, vI mmc, vI mmk, vI mdv, vI mwl, vI mwa, vI mwp, vI 0])) _ _
    refine st_if_eq (tgt := 99) C dX11_rule_94 (by decide) (fun c_94 => ?_) (fun c_94 => by omega)
    refine st_iload_n C 1 dX11_rule_99 rfl rfl ?_
    refine st_bipush C dX11_rule_100 (by decide) (by decide) ?_
    refine st_icmp_ne (tgt := 109) C dX11_rule_102 (by decide) (fun c_102 => ?_) (fun c_102 => by omega)
    refine st_iload_n C 2 dX11_rule_109 rfl rfl ?_
    refine st_istore C dX11_rule_110 (by decide) rfl ?_
    show T x 112 [(0, vR 200), (1, vI 120), (2, vI a9), (3, vI b9), (4, vI 1), (5, vI 0), (6, vI 1), (7, vI a9)] [] _ _ _
    refine st_iload C dX11_rule_112 rfl ?_
    refine st_if_eq (tgt := 121) C dX11_rule_114 (by decide) (fun c_114 => by omega) (fun c_114 => ?_)
    refine st_iload_n C 3 dX11_rule_117 rfl rfl ?_
    refine st_goto (tgt := 122) C dX11_rule_118 (by decide) ?_
    refine st_istore C dX11_rule_122 (by decide) rfl ?_
    show T x 124 [(0, vR 200), (1, vI 120), (2, vI a9), (3, vI b9), (4, vI 1), (5, vI 0), (6, vI 1), (7, vI a9), (8, vI b9)] [] _ _ _
    refine st_aload_n C 0 dX11_rule_124 rfl rfl ?_
    refine st_callV (st := []) C dX11_rule_125 [] (k_take (mm := mm) hput_s (hput_o (by omega) hmm) hv (hput_o (by omega) h202)) hput_s w_X11_116 rfl (by decide) (by decide) (by omega) (by omega) (Nat.le_of_ble_eq_true rfl) (ko_rn ?_)
    show T x 128 [(0, vR 200), (1, vI 120), (2, vI a9), (3, vI b9), (4, vI 1), (5, vI 0), (6, vI 1), (7, vI a9), (8, vI b9)] [] (hput (hput h 200 (oO 10 [vR 201, vR 202, vR 203, vR 204, vR 205, vR 206, vR 207, vR 208, vR 209, vR 210, vR 211, vR 212, vR 213, vR 214, vR 215, vR 216, vR 217, vR 218, vI mv, vI mrc, vI mmc, vI mmk, vI mdv, vI mwl, vI mwa, vI mwp, vI 0])) 202 (oI 304 (fmix (fun s => mm (304 * mv + s)) mw 304))) _ _
    refine st_aload_n C 0 dX11_rule_128 rfl rfl ?_
    refine st_aload_n C 0 dX11_rule_129 rfl rfl ?_
    refine st_iload_n C 1 dX11_rule_130 rfl rfl ?_
    refine st_iload C dX11_rule_131 rfl ?_
    refine st_iload C dX11_rule_133 rfl ?_
    refine st_callV (st := [vR 200]) C dX11_rule_135 [vI 120, vI a9, vI b9] (k_keeps_f (f0 := f0) (mw := (fmix (fun s => mm (304 * mv + s)) mw 304)) (a9 := a9) (b9 := b9) (k9 := 120) (hput_o (by omega) hput_s) hput_s (by omega) (by omega) hwv (hput_o (by omega) (hput_o (by omega) h216)) (by omega) hP) (hput_o (by omega) hput_s) w_X11_119 rfl (by decide) (by decide) (by omega) (by omega) (Nat.le_of_ble_eq_true rfl) (ko_rz (fun f4 _ => ?_))
    show T x 138 [(0, vR 200), (1, vI 120), (2, vI a9), (3, vI b9), (4, vI 1), (5, vI 0), (6, vI 1), (7, vI a9), (8, vI b9)] [vI 0, vR 200] _ _ _
    refine st_iconst C dX11_rule_138 (by decide) ?_
    refine st_callV (st := []) C dX11_rule_139 [vI 0, vI 2] (k_no_f (p9 := 2) (hput_o (by decide) (hput_o (by omega) hput_s))) (hput_o (by decide) (hput_o (by omega) hput_s)) w_X11_112 rfl (by decide) (by decide) (by omega) (by omega) (Nat.le_of_ble_eq_true rfl) (ko_rt ?_)
    show T x 142 [(0, vR 200), (1, vI 120), (2, vI a9), (3, vI b9), (4, vI 1), (5, vI 0), (6, vI 1), (7, vI a9), (8, vI b9)] [vI 1] (hput (hput (hput (hput h 200 (oO 10 [vR 201, vR 202, vR 203, vR 204, vR 205, vR 206, vR 207, vR 208, vR 209, vR 210, vR 211, vR 212, vR 213, vR 214, vR 215, vR 216, vR 217, vR 218, vI mv, vI mrc, vI mmc, vI mmk, vI mdv, vI mwl, vI mwa, vI mwp, vI 0])) 202 (oI 304 (fmix (fun s => mm (304 * mv + s)) mw 304))) 216 (oZ 64 f4)) 200 (oO 10 [vR 201, vR 202, vR 203, vR 204, vR 205, vR 206, vR 207, vR 208, vR 209, vR 210, vR 211, vR 212, vR 213, vR 214, vR 215, vR 216, vR 217, vR 218, vI mv, vI mrc, vI mmc, vI mmk, vI mdv, vI mwl, vI mwa, vI mwp, vI 2])) _ _
    refine st_if_ne (tgt := 167) C dX11_rule_142 (by decide) (fun c_142 => ?_) (fun c_142 => by omega)
    refine st_iconst C dX11_rule_167 (by decide) ?_
    exact st_ireturn C F dX11_rule_168 rfl (by first | exact ⟨by with_reducible rfl, f4, by with_reducible rfl⟩ | (exfalso; omega)) (by omega) (by omega)
set_option maxRecDepth 20000 in
set_option maxHeartbeats 4000000 in
theorem m_rulex_x3 {g : Gx} {h : HP} {mv mrc mmc mmk mdv mwl mwa mwp mth : Int} {mm : Int → Int} {mw : Int → Int} {f0 : Int → Int} {kk : Int → Int} {ka : Int → Int} {kb : Int → Int} {a9 b9 : Int} (hm : mO h mv mrc mmc mmk mdv mwl mwa mwp mth) (hmm : h 201 = some (oI 12464 mm)) (h202 : h 202 = some (oI 304 mw)) (h216 : h 216 = some (oZ 64 f0)) (h203 : h 203 = some (oI 6 kk)) (h204 : h 204 = some (oI 6 ka)) (h205 : h 205 = some (oI 6 kb)) (hv : 0 ≤ mv ∧ mv ≤ 40) (hl : 0 ≤ a9 ∧ a9 ≤ 2 ∧ 0 ≤ b9 ∧ b9 ≤ 2 ∧ a9 ≠ b9) (hwv : RowV (fmix (fun s => mm (304 * mv + s)) mw 304)) (hP : RuleHolds 120 a9 b9 (fmix (fun s => mm (304 * mv + s)) mw 304)) (hf : 6 ≤ mrc) : Ct g yX11_rule (.code yX11_rule cX11_rule 9 (some .int)) 7 0 0 [vR 200, vI 120, vI a9, vI b9] h ((fun r h' => r = .inl (some (vI 0)) ∧ ∃ f4 : Int → Int, h' = (hput (hput (hput (hput (hput h 200 (oO 10 [vR 201, vR 202, vR 203, vR 204, vR 205, vR 206, vR 207, vR 208, vR 209, vR 210, vR 211, vR 212, vR 213, vR 214, vR 215, vR 216, vR 217, vR 218, vI mv, vI mrc, vI mmc, vI mmk, vI mdv, vI mwl, vI mwa, vI mwp, vI 0])) 202 (oI 304 (fmix (fun s => mm (304 * mv + s)) mw 304))) 216 (oZ 64 f4)) 200 (oO 10 [vR 201, vR 202, vR 203, vR 204, vR 205, vR 206, vR 207, vR 208, vR 209, vR 210, vR 211, vR 212, vR 213, vR 214, vR 215, vR 216, vR 217, vR 218, vI mv, vI mrc, vI mmc, vI mmk, vI mdv, vI mwl, vI mwa, vI mwp, vI 0])) 200 (oO 10 [vR 201, vR 202, vR 203, vR 204, vR 205, vR 206, vR 207, vR 208, vR 209, vR 210, vR 211, vR 212, vR 213, vR 214, vR 215, vR 216, vR 217, vR 218, vI mv, vI mrc, vI mmc, vI mmk, vI mdv, vI mwl, vI mwa, vI mwp, vI 3])))) := by
  refine Ct.of (by decide) (Nat.le_of_ble_eq_true rfl) (fun x hg C F => ?_)
  subst hg
  show T x 0 [(0, vR 200), (1, vI 120), (2, vI a9), (3, vI b9)] [] h 0 0
  refine st_iload_n C 1 dX11_rule_0 rfl rfl ?_
  refine st_bipush C dX11_rule_1 (by decide) (by decide) ?_
  refine st_icmp_eq (tgt := 12) C dX11_rule_3 (by decide) (fun c_3 => by omega) (fun c_3 => ?_)
  refine st_iload_n C 1 dX11_rule_6 rfl rfl ?_
  refine st_bipush C dX11_rule_7 (by decide) (by decide) ?_
  refine st_icmp_ne (tgt := 16) C dX11_rule_9 (by decide) (fun c_9 => by omega) (fun c_9 => ?_)
  refine st_iconst C dX11_rule_12 (by decide) ?_
  refine st_goto (tgt := 17) C dX11_rule_13 (by decide) ?_
  refine st_istore C dX11_rule_17 (by decide) rfl ?_
  show T x 19 [(0, vR 200), (1, vI 120), (2, vI a9), (3, vI b9), (4, vI 1)] [] _ _ _
  refine st_iload_n C 1 dX11_rule_19 rfl rfl ?_
  refine st_bipush C dX11_rule_20 (by decide) (by decide) ?_
  refine st_icmp_eq (tgt := 31) C dX11_rule_22 (by decide) (fun c_22 => by omega) (fun c_22 => ?_)
  refine st_iload_n C 1 dX11_rule_25 rfl rfl ?_
  refine st_bipush C dX11_rule_26 (by decide) (by decide) ?_
  refine st_icmp_ne (tgt := 35) C dX11_rule_28 (by decide) (fun c_28 => ?_) (fun c_28 => by omega)
  refine st_iconst C dX11_rule_35 (by decide) ?_
  refine st_istore C dX11_rule_36 (by decide) rfl ?_
  show T x 38 [(0, vR 200), (1, vI 120), (2, vI a9), (3, vI b9), (4, vI 1), (5, vI 0)] [] _ _ _
  refine st_iload_n C 1 dX11_rule_38 rfl rfl ?_
  refine st_bipush C dX11_rule_39 (by decide) (by decide) ?_
  refine st_icmp_eq (tgt := 80) C dX11_rule_41 (by decide) (fun c_41 => by omega) (fun c_41 => ?_)
  refine st_iload C dX11_rule_44 rfl ?_
  refine st_if_eq (tgt := 56) C dX11_rule_46 (by decide) (fun c_46 => ?_) (fun c_46 => by omega)
  refine st_iload C dX11_rule_56 rfl ?_
  refine st_if_eq (tgt := 84) C dX11_rule_58 (by decide) (fun c_58 => by omega) (fun c_58 => ?_)
  refine st_iload_n C 2 dX11_rule_61 rfl rfl ?_
  have b_62 : 0 ≤ a9 ∧ a9 ≤ 2 := by omega
  refine st_callS (st := []) C dX11_rule_62 [vI a9] (k_mLayer_t (v9 := a9)  b_62) w_X11_108 rfl (by decide) (by decide) (by omega) (by omega) (Nat.le_of_ble_eq_true rfl) (ko_rt ?_)
  show T x 65 [(0, vR 200), (1, vI 120), (2, vI a9), (3, vI b9), (4, vI 1), (5, vI 0)] [vI 1] _ _ _
  refine st_if_eq (tgt := 84) C dX11_rule_65 (by decide) (fun c_65 => by omega) (fun c_65 => ?_)
  refine st_iload_n C 3 dX11_rule_68 rfl rfl ?_
  have b_69 : 0 ≤ b9 ∧ b9 ≤ 2 := by omega
  refine st_callS (st := []) C dX11_rule_69 [vI b9] (k_mLayer_t (v9 := b9)  b_69) w_X11_108 rfl (by decide) (by decide) (by omega) (by omega) (Nat.le_of_ble_eq_true rfl) (ko_rt ?_)
  show T x 72 [(0, vR 200), (1, vI 120), (2, vI a9), (3, vI b9), (4, vI 1), (5, vI 0)] [vI 1] _ _ _
  refine st_if_eq (tgt := 84) C dX11_rule_72 (by decide) (fun c_72 => by omega) (fun c_72 => ?_)
  refine st_iload_n C 2 dX11_rule_75 rfl rfl ?_
  refine st_iload_n C 3 dX11_rule_76 rfl rfl ?_
  refine st_icmp_eq (tgt := 84) C dX11_rule_77 (by decide) (fun c_77 => ?_) (fun c_77 => ?_)
  · refine st_iconst C dX11_rule_84 (by decide) ?_
    refine st_istore C dX11_rule_85 (by decide) rfl ?_
    show T x 87 [(0, vR 200), (1, vI 120), (2, vI a9), (3, vI b9), (4, vI 1), (5, vI 0), (6, vI 0)] [] _ _ _
    refine st_aload_n C 0 dX11_rule_87 rfl rfl ?_
    refine st_iload C dX11_rule_88 rfl ?_
    refine st_iconst C dX11_rule_90 (by decide) ?_
    exfalso; omega
  · refine st_iconst C dX11_rule_80 (by decide) ?_
    refine st_goto (tgt := 85) C dX11_rule_81 (by decide) ?_
    refine st_istore C dX11_rule_85 (by decide) rfl ?_
    show T x 87 [(0, vR 200), (1, vI 120), (2, vI a9), (3, vI b9), (4, vI 1), (5, vI 0), (6, vI 1)] [] _ _ _
    refine st_aload_n C 0 dX11_rule_87 rfl rfl ?_
    refine st_iload C dX11_rule_88 rfl ?_
    refine st_iconst C dX11_rule_90 (by decide) ?_
    refine st_callV (st := []) C dX11_rule_91 [vI 1, vI 1] (k_no_t (p9 := 1) hm) hm w_X11_112 rfl (by decide) (by decide) (by omega) (by omega) (Nat.le_of_ble_eq_true rfl) (ko_rt ?_)
    show T x 94 [(0, vR 200), (1, vI 120), (2, vI a9), (3, vI b9), (4, vI 1), (5, vI 0), (6, vI 1)] [vI 0] (hput h 200 (oO 10 [vR 201, vR 202, vR 203, vR 204, vR 205, vR 206, vR 207, vR 208, vR 209, vR 210, vR 211, vR 212, vR 213, vR 214, vR 215, vR 216, vR 217, vR 218, vI mv, vI mrc, vI mmc, vI mmk, vI mdv, vI mwl, vI mwa, vI mwp, vI 0])) _ _
    refine st_if_eq (tgt := 99) C dX11_rule_94 (by decide) (fun c_94 => ?_) (fun c_94 => by omega)
    refine st_iload_n C 1 dX11_rule_99 rfl rfl ?_
    refine st_bipush C dX11_rule_100 (by decide) (by decide) ?_
    refine st_icmp_ne (tgt := 109) C dX11_rule_102 (by decide) (fun c_102 => ?_) (fun c_102 => by omega)
    refine st_iload_n C 2 dX11_rule_109 rfl rfl ?_
    refine st_istore C dX11_rule_110 (by decide) rfl ?_
    show T x 112 [(0, vR 200), (1, vI 120), (2, vI a9), (3, vI b9), (4, vI 1), (5, vI 0), (6, vI 1), (7, vI a9)] [] _ _ _
    refine st_iload C dX11_rule_112 rfl ?_
    refine st_if_eq (tgt := 121) C dX11_rule_114 (by decide) (fun c_114 => by omega) (fun c_114 => ?_)
    refine st_iload_n C 3 dX11_rule_117 rfl rfl ?_
    refine st_goto (tgt := 122) C dX11_rule_118 (by decide) ?_
    refine st_istore C dX11_rule_122 (by decide) rfl ?_
    show T x 124 [(0, vR 200), (1, vI 120), (2, vI a9), (3, vI b9), (4, vI 1), (5, vI 0), (6, vI 1), (7, vI a9), (8, vI b9)] [] _ _ _
    refine st_aload_n C 0 dX11_rule_124 rfl rfl ?_
    refine st_callV (st := []) C dX11_rule_125 [] (k_take (mm := mm) hput_s (hput_o (by omega) hmm) hv (hput_o (by omega) h202)) hput_s w_X11_116 rfl (by decide) (by decide) (by omega) (by omega) (Nat.le_of_ble_eq_true rfl) (ko_rn ?_)
    show T x 128 [(0, vR 200), (1, vI 120), (2, vI a9), (3, vI b9), (4, vI 1), (5, vI 0), (6, vI 1), (7, vI a9), (8, vI b9)] [] (hput (hput h 200 (oO 10 [vR 201, vR 202, vR 203, vR 204, vR 205, vR 206, vR 207, vR 208, vR 209, vR 210, vR 211, vR 212, vR 213, vR 214, vR 215, vR 216, vR 217, vR 218, vI mv, vI mrc, vI mmc, vI mmk, vI mdv, vI mwl, vI mwa, vI mwp, vI 0])) 202 (oI 304 (fmix (fun s => mm (304 * mv + s)) mw 304))) _ _
    refine st_aload_n C 0 dX11_rule_128 rfl rfl ?_
    refine st_aload_n C 0 dX11_rule_129 rfl rfl ?_
    refine st_iload_n C 1 dX11_rule_130 rfl rfl ?_
    refine st_iload C dX11_rule_131 rfl ?_
    refine st_iload C dX11_rule_133 rfl ?_
    refine st_callV (st := [vR 200]) C dX11_rule_135 [vI 120, vI a9, vI b9] (k_keeps_t (f0 := f0) (mw := (fmix (fun s => mm (304 * mv + s)) mw 304)) (a9 := a9) (b9 := b9) (k9 := 120) (hput_o (by omega) hput_s) hput_s (by omega) (by omega) hwv (hput_o (by omega) (hput_o (by omega) h216)) (by omega) hP) (hput_o (by omega) hput_s) w_X11_119 rfl (by decide) (by decide) (by omega) (by omega) (Nat.le_of_ble_eq_true rfl) (ko_rz (fun f4 _ => ?_))
    show T x 138 [(0, vR 200), (1, vI 120), (2, vI a9), (3, vI b9), (4, vI 1), (5, vI 0), (6, vI 1), (7, vI a9), (8, vI b9)] [vI 1, vR 200] _ _ _
    refine st_iconst C dX11_rule_138 (by decide) ?_
    refine st_callV (st := []) C dX11_rule_139 [vI 1, vI 2] (k_no_t (p9 := 2) (hput_o (by decide) (hput_o (by omega) hput_s))) (hput_o (by decide) (hput_o (by omega) hput_s)) w_X11_112 rfl (by decide) (by decide) (by omega) (by omega) (Nat.le_of_ble_eq_true rfl) (ko_rt ?_)
    show T x 142 [(0, vR 200), (1, vI 120), (2, vI a9), (3, vI b9), (4, vI 1), (5, vI 0), (6, vI 1), (7, vI a9), (8, vI b9)] [vI 0] (hput (hput (hput (hput h 200 (oO 10 [vR 201, vR 202, vR 203, vR 204, vR 205, vR 206, vR 207, vR 208, vR 209, vR 210, vR 211, vR 212, vR 213, vR 214, vR 215, vR 216, vR 217, vR 218, vI mv, vI mrc, vI mmc, vI mmk, vI mdv, vI mwl, vI mwa, vI mwp, vI 0])) 202 (oI 304 (fmix (fun s => mm (304 * mv + s)) mw 304))) 216 (oZ 64 f4)) 200 (oO 10 [vR 201, vR 202, vR 203, vR 204, vR 205, vR 206, vR 207, vR 208, vR 209, vR 210, vR 211, vR 212, vR 213, vR 214, vR 215, vR 216, vR 217, vR 218, vI mv, vI mrc, vI mmc, vI mmk, vI mdv, vI mwl, vI mwa, vI mwp, vI 0])) _ _
    refine st_if_ne (tgt := 167) C dX11_rule_142 (by decide) (fun c_142 => by omega) (fun c_142 => ?_)
    refine st_aload_n C 0 dX11_rule_145 rfl rfl ?_
    refine st_aload_n C 0 dX11_rule_146 rfl rfl ?_
    refine st_getf C dX11_rule_147 fl_X11_122 hput_s rfl ?_
    refine st_bipush C dX11_rule_150 (by decide) (by decide) ?_
    refine st_icmp_ge (tgt := 159) C dX11_rule_152 (by decide) (fun c_152 => ?_) (fun c_152 => by omega)
    refine st_iconst C dX11_rule_159 (by decide) ?_
    refine st_iconst C dX11_rule_160 (by decide) ?_
    refine st_callV (st := []) C dX11_rule_161 [vI 0, vI 3] (k_no_f (p9 := 3) hput_s) hput_s w_X11_112 rfl (by decide) (by decide) (by omega) (by omega) (Nat.le_of_ble_eq_true rfl) (ko_rt ?_)
    show T x 164 [(0, vR 200), (1, vI 120), (2, vI a9), (3, vI b9), (4, vI 1), (5, vI 0), (6, vI 1), (7, vI a9), (8, vI b9)] [vI 1] (hput (hput (hput (hput (hput h 200 (oO 10 [vR 201, vR 202, vR 203, vR 204, vR 205, vR 206, vR 207, vR 208, vR 209, vR 210, vR 211, vR 212, vR 213, vR 214, vR 215, vR 216, vR 217, vR 218, vI mv, vI mrc, vI mmc, vI mmk, vI mdv, vI mwl, vI mwa, vI mwp, vI 0])) 202 (oI 304 (fmix (fun s => mm (304 * mv + s)) mw 304))) 216 (oZ 64 f4)) 200 (oO 10 [vR 201, vR 202, vR 203, vR 204, vR 205, vR 206, vR 207, vR 208, vR 209, vR 210, vR 211, vR 212, vR 213, vR 214, vR 215, vR 216, vR 217, vR 218, vI mv, vI mrc, vI mmc, vI mmk, vI mdv, vI mwl, vI mwa, vI mwp, vI 0])) 200 (oO 10 [vR 201, vR 202, vR 203, vR 204, vR 205, vR 206, vR 207, vR 208, vR 209, vR 210, vR 211, vR 212, vR 213, vR 214, vR 215, vR 216, vR 217, vR 218, vI mv, vI mrc, vI mmc, vI mmk, vI mdv, vI mwl, vI mwa, vI mwp, vI 3])) _ _
    refine st_if_eq (tgt := 169) C dX11_rule_164 (by decide) (fun c_164 => by omega) (fun c_164 => ?_)
    refine st_iconst C dX11_rule_167 (by decide) ?_
    exact st_ireturn C F dX11_rule_168 rfl (by first | exact ⟨by with_reducible rfl, f4, by with_reducible rfl⟩ | (exfalso; omega)) (by omega) (by omega)
set_option maxRecDepth 20000 in
set_option maxHeartbeats 4000000 in
theorem m_rulex {g : Gx} {h : HP} {mv mrc mmc mmk mdv mwl mwa mwp mth : Int} {mm : Int → Int} {mw : Int → Int} {f0 : Int → Int} {kk : Int → Int} {ka : Int → Int} {kb : Int → Int} {a9 b9 : Int} (hm : mO h mv mrc mmc mmk mdv mwl mwa mwp mth) (hmm : h 201 = some (oI 12464 mm)) (h202 : h 202 = some (oI 304 mw)) (h216 : h 216 = some (oZ 64 f0)) (h203 : h 203 = some (oI 6 kk)) (h204 : h 204 = some (oI 6 ka)) (h205 : h 205 = some (oI 6 kb)) (hv : 0 ≤ mv ∧ mv ≤ 40) (hl : 0 ≤ a9 ∧ a9 ≤ 2 ∧ 0 ≤ b9 ∧ b9 ≤ 2 ∧ a9 ≠ b9) (hwv : RowV (fmix (fun s => mm (304 * mv + s)) mw 304)) (hP : RuleHolds 120 a9 b9 (fmix (fun s => mm (304 * mv + s)) mw 304)) (hf : 0 ≤ mrc ∧ mrc ≤ 5) : Ct g yX11_rule (.code yX11_rule cX11_rule 9 (some .int)) 7 0 0 [vR 200, vI 120, vI a9, vI b9] h ((fun r h' => r = .inl (some (vI mrc)) ∧ ∃ f4 : Int → Int, h' = (hput (hput (hput (hput (hput (hput (hput (hput (hput h 200 (oO 10 [vR 201, vR 202, vR 203, vR 204, vR 205, vR 206, vR 207, vR 208, vR 209, vR 210, vR 211, vR 212, vR 213, vR 214, vR 215, vR 216, vR 217, vR 218, vI mv, vI mrc, vI mmc, vI mmk, vI mdv, vI mwl, vI mwa, vI mwp, vI 0])) 202 (oI 304 (fmix (fun s => mm (304 * mv + s)) mw 304))) 216 (oZ 64 f4)) 200 (oO 10 [vR 201, vR 202, vR 203, vR 204, vR 205, vR 206, vR 207, vR 208, vR 209, vR 210, vR 211, vR 212, vR 213, vR 214, vR 215, vR 216, vR 217, vR 218, vI mv, vI mrc, vI mmc, vI mmk, vI mdv, vI mwl, vI mwa, vI mwp, vI 0])) 200 (oO 10 [vR 201, vR 202, vR 203, vR 204, vR 205, vR 206, vR 207, vR 208, vR 209, vR 210, vR 211, vR 212, vR 213, vR 214, vR 215, vR 216, vR 217, vR 218, vI mv, vI mrc, vI mmc, vI mmk, vI mdv, vI mwl, vI mwa, vI mwp, vI 0])) 203 (oI 6 (fput kk mrc 120))) 204 (oI 6 (fput ka mrc a9))) 205 (oI 6 (fput kb mrc b9))) 200 (oO 10 [vR 201, vR 202, vR 203, vR 204, vR 205, vR 206, vR 207, vR 208, vR 209, vR 210, vR 211, vR 212, vR 213, vR 214, vR 215, vR 216, vR 217, vR 218, vI mv, vI (mrc + 1), vI mmc, vI mmk, vI mdv, vI mwl, vI mwa, vI mwp, vI 0])))) := by
  refine Ct.of (by decide) (Nat.le_of_ble_eq_true rfl) (fun x hg C F => ?_)
  subst hg
  show T x 0 [(0, vR 200), (1, vI 120), (2, vI a9), (3, vI b9)] [] h 0 0
  refine st_iload_n C 1 dX11_rule_0 rfl rfl ?_
  refine st_bipush C dX11_rule_1 (by decide) (by decide) ?_
  refine st_icmp_eq (tgt := 12) C dX11_rule_3 (by decide) (fun c_3 => by omega) (fun c_3 => ?_)
  refine st_iload_n C 1 dX11_rule_6 rfl rfl ?_
  refine st_bipush C dX11_rule_7 (by decide) (by decide) ?_
  refine st_icmp_ne (tgt := 16) C dX11_rule_9 (by decide) (fun c_9 => by omega) (fun c_9 => ?_)
  refine st_iconst C dX11_rule_12 (by decide) ?_
  refine st_goto (tgt := 17) C dX11_rule_13 (by decide) ?_
  refine st_istore C dX11_rule_17 (by decide) rfl ?_
  show T x 19 [(0, vR 200), (1, vI 120), (2, vI a9), (3, vI b9), (4, vI 1)] [] _ _ _
  refine st_iload_n C 1 dX11_rule_19 rfl rfl ?_
  refine st_bipush C dX11_rule_20 (by decide) (by decide) ?_
  refine st_icmp_eq (tgt := 31) C dX11_rule_22 (by decide) (fun c_22 => by omega) (fun c_22 => ?_)
  refine st_iload_n C 1 dX11_rule_25 rfl rfl ?_
  refine st_bipush C dX11_rule_26 (by decide) (by decide) ?_
  refine st_icmp_ne (tgt := 35) C dX11_rule_28 (by decide) (fun c_28 => ?_) (fun c_28 => by omega)
  refine st_iconst C dX11_rule_35 (by decide) ?_
  refine st_istore C dX11_rule_36 (by decide) rfl ?_
  show T x 38 [(0, vR 200), (1, vI 120), (2, vI a9), (3, vI b9), (4, vI 1), (5, vI 0)] [] _ _ _
  refine st_iload_n C 1 dX11_rule_38 rfl rfl ?_
  refine st_bipush C dX11_rule_39 (by decide) (by decide) ?_
  refine st_icmp_eq (tgt := 80) C dX11_rule_41 (by decide) (fun c_41 => by omega) (fun c_41 => ?_)
  refine st_iload C dX11_rule_44 rfl ?_
  refine st_if_eq (tgt := 56) C dX11_rule_46 (by decide) (fun c_46 => ?_) (fun c_46 => by omega)
  refine st_iload C dX11_rule_56 rfl ?_
  refine st_if_eq (tgt := 84) C dX11_rule_58 (by decide) (fun c_58 => by omega) (fun c_58 => ?_)
  refine st_iload_n C 2 dX11_rule_61 rfl rfl ?_
  have b_62 : 0 ≤ a9 ∧ a9 ≤ 2 := by omega
  refine st_callS (st := []) C dX11_rule_62 [vI a9] (k_mLayer_t (v9 := a9)  b_62) w_X11_108 rfl (by decide) (by decide) (by omega) (by omega) (Nat.le_of_ble_eq_true rfl) (ko_rt ?_)
  show T x 65 [(0, vR 200), (1, vI 120), (2, vI a9), (3, vI b9), (4, vI 1), (5, vI 0)] [vI 1] _ _ _
  refine st_if_eq (tgt := 84) C dX11_rule_65 (by decide) (fun c_65 => by omega) (fun c_65 => ?_)
  refine st_iload_n C 3 dX11_rule_68 rfl rfl ?_
  have b_69 : 0 ≤ b9 ∧ b9 ≤ 2 := by omega
  refine st_callS (st := []) C dX11_rule_69 [vI b9] (k_mLayer_t (v9 := b9)  b_69) w_X11_108 rfl (by decide) (by decide) (by omega) (by omega) (Nat.le_of_ble_eq_true rfl) (ko_rt ?_)
  show T x 72 [(0, vR 200), (1, vI 120), (2, vI a9), (3, vI b9), (4, vI 1), (5, vI 0)] [vI 1] _ _ _
  refine st_if_eq (tgt := 84) C dX11_rule_72 (by decide) (fun c_72 => by omega) (fun c_72 => ?_)
  refine st_iload_n C 2 dX11_rule_75 rfl rfl ?_
  refine st_iload_n C 3 dX11_rule_76 rfl rfl ?_
  refine st_icmp_eq (tgt := 84) C dX11_rule_77 (by decide) (fun c_77 => ?_) (fun c_77 => ?_)
  · refine st_iconst C dX11_rule_84 (by decide) ?_
    refine st_istore C dX11_rule_85 (by decide) rfl ?_
    show T x 87 [(0, vR 200), (1, vI 120), (2, vI a9), (3, vI b9), (4, vI 1), (5, vI 0), (6, vI 0)] [] _ _ _
    refine st_aload_n C 0 dX11_rule_87 rfl rfl ?_
    refine st_iload C dX11_rule_88 rfl ?_
    refine st_iconst C dX11_rule_90 (by decide) ?_
    exfalso; omega
  · refine st_iconst C dX11_rule_80 (by decide) ?_
    refine st_goto (tgt := 85) C dX11_rule_81 (by decide) ?_
    refine st_istore C dX11_rule_85 (by decide) rfl ?_
    show T x 87 [(0, vR 200), (1, vI 120), (2, vI a9), (3, vI b9), (4, vI 1), (5, vI 0), (6, vI 1)] [] _ _ _
    refine st_aload_n C 0 dX11_rule_87 rfl rfl ?_
    refine st_iload C dX11_rule_88 rfl ?_
    refine st_iconst C dX11_rule_90 (by decide) ?_
    refine st_callV (st := []) C dX11_rule_91 [vI 1, vI 1] (k_no_t (p9 := 1) hm) hm w_X11_112 rfl (by decide) (by decide) (by omega) (by omega) (Nat.le_of_ble_eq_true rfl) (ko_rt ?_)
    show T x 94 [(0, vR 200), (1, vI 120), (2, vI a9), (3, vI b9), (4, vI 1), (5, vI 0), (6, vI 1)] [vI 0] (hput h 200 (oO 10 [vR 201, vR 202, vR 203, vR 204, vR 205, vR 206, vR 207, vR 208, vR 209, vR 210, vR 211, vR 212, vR 213, vR 214, vR 215, vR 216, vR 217, vR 218, vI mv, vI mrc, vI mmc, vI mmk, vI mdv, vI mwl, vI mwa, vI mwp, vI 0])) _ _
    refine st_if_eq (tgt := 99) C dX11_rule_94 (by decide) (fun c_94 => ?_) (fun c_94 => by omega)
    refine st_iload_n C 1 dX11_rule_99 rfl rfl ?_
    refine st_bipush C dX11_rule_100 (by decide) (by decide) ?_
    refine st_icmp_ne (tgt := 109) C dX11_rule_102 (by decide) (fun c_102 => ?_) (fun c_102 => by omega)
    refine st_iload_n C 2 dX11_rule_109 rfl rfl ?_
    refine st_istore C dX11_rule_110 (by decide) rfl ?_
    show T x 112 [(0, vR 200), (1, vI 120), (2, vI a9), (3, vI b9), (4, vI 1), (5, vI 0), (6, vI 1), (7, vI a9)] [] _ _ _
    refine st_iload C dX11_rule_112 rfl ?_
    refine st_if_eq (tgt := 121) C dX11_rule_114 (by decide) (fun c_114 => by omega) (fun c_114 => ?_)
    refine st_iload_n C 3 dX11_rule_117 rfl rfl ?_
    refine st_goto (tgt := 122) C dX11_rule_118 (by decide) ?_
    refine st_istore C dX11_rule_122 (by decide) rfl ?_
    show T x 124 [(0, vR 200), (1, vI 120), (2, vI a9), (3, vI b9), (4, vI 1), (5, vI 0), (6, vI 1), (7, vI a9), (8, vI b9)] [] _ _ _
    refine st_aload_n C 0 dX11_rule_124 rfl rfl ?_
    refine st_callV (st := []) C dX11_rule_125 [] (k_take (mm := mm) hput_s (hput_o (by omega) hmm) hv (hput_o (by omega) h202)) hput_s w_X11_116 rfl (by decide) (by decide) (by omega) (by omega) (Nat.le_of_ble_eq_true rfl) (ko_rn ?_)
    show T x 128 [(0, vR 200), (1, vI 120), (2, vI a9), (3, vI b9), (4, vI 1), (5, vI 0), (6, vI 1), (7, vI a9), (8, vI b9)] [] (hput (hput h 200 (oO 10 [vR 201, vR 202, vR 203, vR 204, vR 205, vR 206, vR 207, vR 208, vR 209, vR 210, vR 211, vR 212, vR 213, vR 214, vR 215, vR 216, vR 217, vR 218, vI mv, vI mrc, vI mmc, vI mmk, vI mdv, vI mwl, vI mwa, vI mwp, vI 0])) 202 (oI 304 (fmix (fun s => mm (304 * mv + s)) mw 304))) _ _
    refine st_aload_n C 0 dX11_rule_128 rfl rfl ?_
    refine st_aload_n C 0 dX11_rule_129 rfl rfl ?_
    refine st_iload_n C 1 dX11_rule_130 rfl rfl ?_
    refine st_iload C dX11_rule_131 rfl ?_
    refine st_iload C dX11_rule_133 rfl ?_
    refine st_callV (st := [vR 200]) C dX11_rule_135 [vI 120, vI a9, vI b9] (k_keeps_t (f0 := f0) (mw := (fmix (fun s => mm (304 * mv + s)) mw 304)) (a9 := a9) (b9 := b9) (k9 := 120) (hput_o (by omega) hput_s) hput_s (by omega) (by omega) hwv (hput_o (by omega) (hput_o (by omega) h216)) (by omega) hP) (hput_o (by omega) hput_s) w_X11_119 rfl (by decide) (by decide) (by omega) (by omega) (Nat.le_of_ble_eq_true rfl) (ko_rz (fun f4 _ => ?_))
    show T x 138 [(0, vR 200), (1, vI 120), (2, vI a9), (3, vI b9), (4, vI 1), (5, vI 0), (6, vI 1), (7, vI a9), (8, vI b9)] [vI 1, vR 200] _ _ _
    refine st_iconst C dX11_rule_138 (by decide) ?_
    refine st_callV (st := []) C dX11_rule_139 [vI 1, vI 2] (k_no_t (p9 := 2) (hput_o (by decide) (hput_o (by omega) hput_s))) (hput_o (by decide) (hput_o (by omega) hput_s)) w_X11_112 rfl (by decide) (by decide) (by omega) (by omega) (Nat.le_of_ble_eq_true rfl) (ko_rt ?_)
    show T x 142 [(0, vR 200), (1, vI 120), (2, vI a9), (3, vI b9), (4, vI 1), (5, vI 0), (6, vI 1), (7, vI a9), (8, vI b9)] [vI 0] (hput (hput (hput (hput h 200 (oO 10 [vR 201, vR 202, vR 203, vR 204, vR 205, vR 206, vR 207, vR 208, vR 209, vR 210, vR 211, vR 212, vR 213, vR 214, vR 215, vR 216, vR 217, vR 218, vI mv, vI mrc, vI mmc, vI mmk, vI mdv, vI mwl, vI mwa, vI mwp, vI 0])) 202 (oI 304 (fmix (fun s => mm (304 * mv + s)) mw 304))) 216 (oZ 64 f4)) 200 (oO 10 [vR 201, vR 202, vR 203, vR 204, vR 205, vR 206, vR 207, vR 208, vR 209, vR 210, vR 211, vR 212, vR 213, vR 214, vR 215, vR 216, vR 217, vR 218, vI mv, vI mrc, vI mmc, vI mmk, vI mdv, vI mwl, vI mwa, vI mwp, vI 0])) _ _
    refine st_if_ne (tgt := 167) C dX11_rule_142 (by decide) (fun c_142 => by omega) (fun c_142 => ?_)
    refine st_aload_n C 0 dX11_rule_145 rfl rfl ?_
    refine st_aload_n C 0 dX11_rule_146 rfl rfl ?_
    refine st_getf C dX11_rule_147 fl_X11_122 hput_s rfl ?_
    refine st_bipush C dX11_rule_150 (by decide) (by decide) ?_
    refine st_icmp_ge (tgt := 159) C dX11_rule_152 (by decide) (fun c_152 => by omega) (fun c_152 => ?_)
    refine st_iconst C dX11_rule_155 (by decide) ?_
    refine st_goto (tgt := 160) C dX11_rule_156 (by decide) ?_
    refine st_iconst C dX11_rule_160 (by decide) ?_
    refine st_callV (st := []) C dX11_rule_161 [vI 1, vI 3] (k_no_t (p9 := 3) hput_s) hput_s w_X11_112 rfl (by decide) (by decide) (by omega) (by omega) (Nat.le_of_ble_eq_true rfl) (ko_rt ?_)
    show T x 164 [(0, vR 200), (1, vI 120), (2, vI a9), (3, vI b9), (4, vI 1), (5, vI 0), (6, vI 1), (7, vI a9), (8, vI b9)] [vI 0] (hput (hput (hput (hput (hput h 200 (oO 10 [vR 201, vR 202, vR 203, vR 204, vR 205, vR 206, vR 207, vR 208, vR 209, vR 210, vR 211, vR 212, vR 213, vR 214, vR 215, vR 216, vR 217, vR 218, vI mv, vI mrc, vI mmc, vI mmk, vI mdv, vI mwl, vI mwa, vI mwp, vI 0])) 202 (oI 304 (fmix (fun s => mm (304 * mv + s)) mw 304))) 216 (oZ 64 f4)) 200 (oO 10 [vR 201, vR 202, vR 203, vR 204, vR 205, vR 206, vR 207, vR 208, vR 209, vR 210, vR 211, vR 212, vR 213, vR 214, vR 215, vR 216, vR 217, vR 218, vI mv, vI mrc, vI mmc, vI mmk, vI mdv, vI mwl, vI mwa, vI mwp, vI 0])) 200 (oO 10 [vR 201, vR 202, vR 203, vR 204, vR 205, vR 206, vR 207, vR 208, vR 209, vR 210, vR 211, vR 212, vR 213, vR 214, vR 215, vR 216, vR 217, vR 218, vI mv, vI mrc, vI mmc, vI mmk, vI mdv, vI mwl, vI mwa, vI mwp, vI 0])) _ _
    refine st_if_eq (tgt := 169) C dX11_rule_164 (by decide) (fun c_164 => ?_) (fun c_164 => by omega)
    refine st_aload_n C 0 dX11_rule_169 rfl rfl ?_
    refine st_getf C dX11_rule_170 fl_X11_16 hput_s rfl ?_
    refine st_aload_n C 0 dX11_rule_173 rfl rfl ?_
    refine st_getf C dX11_rule_174 fl_X11_122 hput_s rfl ?_
    refine st_iload_n C 1 dX11_rule_177 rfl rfl ?_
    refine st_iast C dX11_rule_178 (hput_o (by omega) (hput_o (by omega) (hput_o (by decide) (hput_o (by omega) (hput_o (by omega) h203))))) (by omega) (by omega) ?_
    refine st_aload_n C 0 dX11_rule_179 rfl rfl ?_
    refine st_getf C dX11_rule_180 fl_X11_19 (hput_o (by omega) hput_s) rfl ?_
    refine st_aload_n C 0 dX11_rule_183 rfl rfl ?_
    refine st_getf C dX11_rule_184 fl_X11_122 (hput_o (by omega) hput_s) rfl ?_
    refine st_iload C dX11_rule_187 rfl ?_
    refine st_iast C dX11_rule_189 (hput_o (by omega) (hput_o (by omega) (hput_o (by omega) (hput_o (by decide) (hput_o (by omega) (hput_o (by omega) h204)))))) (by omega) (by omega) ?_
    refine st_aload_n C 0 dX11_rule_190 rfl rfl ?_
    refine st_getf C dX11_rule_191 fl_X11_22 (hput_o (by omega) (hput_o (by omega) hput_s)) rfl ?_
    refine st_aload_n C 0 dX11_rule_194 rfl rfl ?_
    refine st_getf C dX11_rule_195 fl_X11_122 (hput_o (by omega) (hput_o (by omega) hput_s)) rfl ?_
    refine st_iload C dX11_rule_198 rfl ?_
    refine st_iast C dX11_rule_200 (hput_o (by omega) (hput_o (by omega) (hput_o (by omega) (hput_o (by omega) (hput_o (by decide) (hput_o (by omega) (hput_o (by omega) h205))))))) (by omega) (by omega) ?_
    refine st_aload_n C 0 dX11_rule_201 rfl rfl ?_
    refine st_dup C dX11_rule_202 rfl ?_
    refine st_getf C dX11_rule_203 fl_X11_122 (hput_o (by omega) (hput_o (by omega) (hput_o (by omega) hput_s))) rfl ?_
    refine st_iconst C dX11_rule_206 (by decide) ?_
    refine st_iadd C dX11_rule_207 ⟨(by omega), (by omega)⟩ ?_
    refine st_putf C dX11_rule_208 fp_X11_122 (fun q => by cases q) (hput_o (by omega) (hput_o (by omega) (hput_o (by omega) hput_s))) (Nat.le_of_ble_eq_true rfl) fit_int ?_
    show T x 211 [(0, vR 200), (1, vI 120), (2, vI a9), (3, vI b9), (4, vI 1), (5, vI 0), (6, vI 1), (7, vI a9), (8, vI b9)] [] (hput (hput (hput (hput (hput (hput (hput (hput (hput h 200 (oO 10 [vR 201, vR 202, vR 203, vR 204, vR 205, vR 206, vR 207, vR 208, vR 209, vR 210, vR 211, vR 212, vR 213, vR 214, vR 215, vR 216, vR 217, vR 218, vI mv, vI mrc, vI mmc, vI mmk, vI mdv, vI mwl, vI mwa, vI mwp, vI 0])) 202 (oI 304 (fmix (fun s => mm (304 * mv + s)) mw 304))) 216 (oZ 64 f4)) 200 (oO 10 [vR 201, vR 202, vR 203, vR 204, vR 205, vR 206, vR 207, vR 208, vR 209, vR 210, vR 211, vR 212, vR 213, vR 214, vR 215, vR 216, vR 217, vR 218, vI mv, vI mrc, vI mmc, vI mmk, vI mdv, vI mwl, vI mwa, vI mwp, vI 0])) 200 (oO 10 [vR 201, vR 202, vR 203, vR 204, vR 205, vR 206, vR 207, vR 208, vR 209, vR 210, vR 211, vR 212, vR 213, vR 214, vR 215, vR 216, vR 217, vR 218, vI mv, vI mrc, vI mmc, vI mmk, vI mdv, vI mwl, vI mwa, vI mwp, vI 0])) 203 (oI 6 (fput kk mrc 120))) 204 (oI 6 (fput ka mrc a9))) 205 (oI 6 (fput kb mrc b9))) 200 (oO 10 [vR 201, vR 202, vR 203, vR 204, vR 205, vR 206, vR 207, vR 208, vR 209, vR 210, vR 211, vR 212, vR 213, vR 214, vR 215, vR 216, vR 217, vR 218, vI mv, vI (mrc + 1), vI mmc, vI mmk, vI mdv, vI mwl, vI mwa, vI mwp, vI 0])) _ _
    refine st_aload_n C 0 dX11_rule_211 rfl rfl ?_
    refine st_getf C dX11_rule_212 fl_X11_122 hput_s rfl ?_
    refine st_iconst C dX11_rule_215 (by decide) ?_
    refine st_isub C dX11_rule_216 ⟨(by omega), (by omega)⟩ ?_
    exact st_ireturn C F dX11_rule_217 rfl (by first | (rw [show mrc + 1 - 1 = mrc by omega]; exact ⟨by with_reducible rfl, f4, by with_reducible rfl⟩) | (exfalso; omega)) (by omega) (by omega)
set_option maxRecDepth 20000 in
set_option maxHeartbeats 4000000 in
theorem m_ruleg_x2 {g : Gx} {h : HP} {mv mrc mmc mmk mdv mwl mwa mwp mth : Int} {mm : Int → Int} {mw : Int → Int} {f0 : Int → Int} {kk : Int → Int} {ka : Int → Int} {kb : Int → Int} {a9 b9 : Int} (hm : mO h mv mrc mmc mmk mdv mwl mwa mwp mth) (hmm : h 201 = some (oI 12464 mm)) (h202 : h 202 = some (oI 304 mw)) (h216 : h 216 = some (oZ 64 f0)) (h203 : h 203 = some (oI 6 kk)) (h204 : h 204 = some (oI 6 ka)) (h205 : h 205 = some (oI 6 kb)) (hv : 0 ≤ mv ∧ mv ≤ 40) (hl : 0 ≤ a9 ∧ a9 ≤ 2) (hwv : RowV (fmix (fun s => mm (304 * mv + s)) mw 304)) (hP : ¬ RuleHolds 103 a9 0 (fmix (fun s => mm (304 * mv + s)) mw 304)) : Ct g yX11_rule (.code yX11_rule cX11_rule 9 (some .int)) 7 0 0 [vR 200, vI 103, vI a9, vI b9] h ((fun r h' => r = .inl (some (vI 0)) ∧ ∃ f4 : Int → Int, h' = (hput (hput (hput (hput h 200 (oO 10 [vR 201, vR 202, vR 203, vR 204, vR 205, vR 206, vR 207, vR 208, vR 209, vR 210, vR 211, vR 212, vR 213, vR 214, vR 215, vR 216, vR 217, vR 218, vI mv, vI mrc, vI mmc, vI mmk, vI mdv, vI mwl, vI mwa, vI mwp, vI 0])) 202 (oI 304 (fmix (fun s => mm (304 * mv + s)) mw 304))) 216 (oZ 64 f4)) 200 (oO 10 [vR 201, vR 202, vR 203, vR 204, vR 205, vR 206, vR 207, vR 208, vR 209, vR 210, vR 211, vR 212, vR 213, vR 214, vR 215, vR 216, vR 217, vR 218, vI mv, vI mrc, vI mmc, vI mmk, vI mdv, vI mwl, vI mwa, vI mwp, vI 2])))) := by
  refine Ct.of (by decide) (Nat.le_of_ble_eq_true rfl) (fun x hg C F => ?_)
  subst hg
  show T x 0 [(0, vR 200), (1, vI 103), (2, vI a9), (3, vI b9)] [] h 0 0
  refine st_iload_n C 1 dX11_rule_0 rfl rfl ?_
  refine st_bipush C dX11_rule_1 (by decide) (by decide) ?_
  refine st_icmp_eq (tgt := 12) C dX11_rule_3 (by decide) (fun c_3 => by omega) (fun c_3 => ?_)
  refine st_iload_n C 1 dX11_rule_6 rfl rfl ?_
  refine st_bipush C dX11_rule_7 (by decide) (by decide) ?_
  refine st_icmp_ne (tgt := 16) C dX11_rule_9 (by decide) (fun c_9 => ?_) (fun c_9 => by omega)
  refine st_iconst C dX11_rule_16 (by decide) ?_
  refine st_istore C dX11_rule_17 (by decide) rfl ?_
  show T x 19 [(0, vR 200), (1, vI 103), (2, vI a9), (3, vI b9), (4, vI 0)] [] _ _ _
  refine st_iload_n C 1 dX11_rule_19 rfl rfl ?_
  refine st_bipush C dX11_rule_20 (by decide) (by decide) ?_
  refine st_icmp_eq (tgt := 31) C dX11_rule_22 (by decide) (fun c_22 => ?_) (fun c_22 => by omega)
  refine st_iconst C dX11_rule_31 (by decide) ?_
  refine st_goto (tgt := 36) C dX11_rule_32 (by decide) ?_
  refine st_istore C dX11_rule_36 (by decide) rfl ?_
  show T x 38 [(0, vR 200), (1, vI 103), (2, vI a9), (3, vI b9), (4, vI 0), (5, vI 1)] [] _ _ _
  refine st_iload_n C 1 dX11_rule_38 rfl rfl ?_
  refine st_bipush C dX11_rule_39 (by decide) (by decide) ?_
  refine st_icmp_eq (tgt := 80) C dX11_rule_41 (by decide) (fun c_41 => by omega) (fun c_41 => ?_)
  refine st_iload C dX11_rule_44 rfl ?_
  refine st_if_eq (tgt := 56) C dX11_rule_46 (by decide) (fun c_46 => by omega) (fun c_46 => ?_)
  refine st_iload_n C 2 dX11_rule_49 rfl rfl ?_
  have b_50 : 0 ≤ a9 ∧ a9 ≤ 2 := by omega
  refine st_callS (st := []) C dX11_rule_50 [vI a9] (k_mLayer_t (v9 := a9)  b_50) w_X11_108 rfl (by decide) (by decide) (by omega) (by omega) (Nat.le_of_ble_eq_true rfl) (ko_rt ?_)
  show T x 53 [(0, vR 200), (1, vI 103), (2, vI a9), (3, vI b9), (4, vI 0), (5, vI 1)] [vI 1] _ _ _
  refine st_if_ne (tgt := 80) C dX11_rule_53 (by decide) (fun c_53 => ?_) (fun c_53 => by omega)
  refine st_iconst C dX11_rule_80 (by decide) ?_
  refine st_goto (tgt := 85) C dX11_rule_81 (by decide) ?_
  refine st_istore C dX11_rule_85 (by decide) rfl ?_
  show T x 87 [(0, vR 200), (1, vI 103), (2, vI a9), (3, vI b9), (4, vI 0), (5, vI 1), (6, vI 1)] [] _ _ _
  refine st_aload_n C 0 dX11_rule_87 rfl rfl ?_
  refine st_iload C dX11_rule_88 rfl ?_
  refine st_iconst C dX11_rule_90 (by decide) ?_
  refine st_callV (st := []) C dX11_rule_91 [vI 1, vI 1] (k_no_t (p9 := 1) hm) hm w_X11_112 rfl (by decide) (by decide) (by omega) (by omega) (Nat.le_of_ble_eq_true rfl) (ko_rt ?_)
  show T x 94 [(0, vR 200), (1, vI 103), (2, vI a9), (3, vI b9), (4, vI 0), (5, vI 1), (6, vI 1)] [vI 0] (hput h 200 (oO 10 [vR 201, vR 202, vR 203, vR 204, vR 205, vR 206, vR 207, vR 208, vR 209, vR 210, vR 211, vR 212, vR 213, vR 214, vR 215, vR 216, vR 217, vR 218, vI mv, vI mrc, vI mmc, vI mmk, vI mdv, vI mwl, vI mwa, vI mwp, vI 0])) _ _
  refine st_if_eq (tgt := 99) C dX11_rule_94 (by decide) (fun c_94 => ?_) (fun c_94 => by omega)
  refine st_iload_n C 1 dX11_rule_99 rfl rfl ?_
  refine st_bipush C dX11_rule_100 (by decide) (by decide) ?_
  refine st_icmp_ne (tgt := 109) C dX11_rule_102 (by decide) (fun c_102 => ?_) (fun c_102 => by omega)
  refine st_iload_n C 2 dX11_rule_109 rfl rfl ?_
  refine st_istore C dX11_rule_110 (by decide) rfl ?_
  show T x 112 [(0, vR 200), (1, vI 103), (2, vI a9), (3, vI b9), (4, vI 0), (5, vI 1), (6, vI 1), (7, vI a9)] [] _ _ _
  refine st_iload C dX11_rule_112 rfl ?_
  refine st_if_eq (tgt := 121) C dX11_rule_114 (by decide) (fun c_114 => ?_) (fun c_114 => by omega)
  refine st_iconst C dX11_rule_121 (by decide) ?_
  refine st_istore C dX11_rule_122 (by decide) rfl ?_
  show T x 124 [(0, vR 200), (1, vI 103), (2, vI a9), (3, vI b9), (4, vI 0), (5, vI 1), (6, vI 1), (7, vI a9), (8, vI 0)] [] _ _ _
  refine st_aload_n C 0 dX11_rule_124 rfl rfl ?_
  refine st_callV (st := []) C dX11_rule_125 [] (k_take (mm := mm) hput_s (hput_o (by omega) hmm) hv (hput_o (by omega) h202)) hput_s w_X11_116 rfl (by decide) (by decide) (by omega) (by omega) (Nat.le_of_ble_eq_true rfl) (ko_rn ?_)
  show T x 128 [(0, vR 200), (1, vI 103), (2, vI a9), (3, vI b9), (4, vI 0), (5, vI 1), (6, vI 1), (7, vI a9), (8, vI 0)] [] (hput (hput h 200 (oO 10 [vR 201, vR 202, vR 203, vR 204, vR 205, vR 206, vR 207, vR 208, vR 209, vR 210, vR 211, vR 212, vR 213, vR 214, vR 215, vR 216, vR 217, vR 218, vI mv, vI mrc, vI mmc, vI mmk, vI mdv, vI mwl, vI mwa, vI mwp, vI 0])) 202 (oI 304 (fmix (fun s => mm (304 * mv + s)) mw 304))) _ _
  refine st_aload_n C 0 dX11_rule_128 rfl rfl ?_
  refine st_aload_n C 0 dX11_rule_129 rfl rfl ?_
  refine st_iload_n C 1 dX11_rule_130 rfl rfl ?_
  refine st_iload C dX11_rule_131 rfl ?_
  refine st_iload C dX11_rule_133 rfl ?_
  refine st_callV (st := [vR 200]) C dX11_rule_135 [vI 103, vI a9, vI 0] (k_keeps_f (f0 := f0) (mw := (fmix (fun s => mm (304 * mv + s)) mw 304)) (a9 := a9) (b9 := 0) (k9 := 103) (hput_o (by omega) hput_s) hput_s (by omega) (by omega) hwv (hput_o (by omega) (hput_o (by omega) h216)) (by omega) hP) (hput_o (by omega) hput_s) w_X11_119 rfl (by decide) (by decide) (by omega) (by omega) (Nat.le_of_ble_eq_true rfl) (ko_rz (fun f4 _ => ?_))
  show T x 138 [(0, vR 200), (1, vI 103), (2, vI a9), (3, vI b9), (4, vI 0), (5, vI 1), (6, vI 1), (7, vI a9), (8, vI 0)] [vI 0, vR 200] _ _ _
  refine st_iconst C dX11_rule_138 (by decide) ?_
  refine st_callV (st := []) C dX11_rule_139 [vI 0, vI 2] (k_no_f (p9 := 2) (hput_o (by decide) (hput_o (by omega) hput_s))) (hput_o (by decide) (hput_o (by omega) hput_s)) w_X11_112 rfl (by decide) (by decide) (by omega) (by omega) (Nat.le_of_ble_eq_true rfl) (ko_rt ?_)
  show T x 142 [(0, vR 200), (1, vI 103), (2, vI a9), (3, vI b9), (4, vI 0), (5, vI 1), (6, vI 1), (7, vI a9), (8, vI 0)] [vI 1] (hput (hput (hput (hput h 200 (oO 10 [vR 201, vR 202, vR 203, vR 204, vR 205, vR 206, vR 207, vR 208, vR 209, vR 210, vR 211, vR 212, vR 213, vR 214, vR 215, vR 216, vR 217, vR 218, vI mv, vI mrc, vI mmc, vI mmk, vI mdv, vI mwl, vI mwa, vI mwp, vI 0])) 202 (oI 304 (fmix (fun s => mm (304 * mv + s)) mw 304))) 216 (oZ 64 f4)) 200 (oO 10 [vR 201, vR 202, vR 203, vR 204, vR 205, vR 206, vR 207, vR 208, vR 209, vR 210, vR 211, vR 212, vR 213, vR 214, vR 215, vR 216, vR 217, vR 218, vI mv, vI mrc, vI mmc, vI mmk, vI mdv, vI mwl, vI mwa, vI mwp, vI 2])) _ _
  refine st_if_ne (tgt := 167) C dX11_rule_142 (by decide) (fun c_142 => ?_) (fun c_142 => by omega)
  refine st_iconst C dX11_rule_167 (by decide) ?_
  exact st_ireturn C F dX11_rule_168 rfl (by first | exact ⟨by with_reducible rfl, f4, by with_reducible rfl⟩ | (exfalso; omega)) (by omega) (by omega)
set_option maxRecDepth 20000 in
set_option maxHeartbeats 4000000 in
theorem m_ruleg_x3 {g : Gx} {h : HP} {mv mrc mmc mmk mdv mwl mwa mwp mth : Int} {mm : Int → Int} {mw : Int → Int} {f0 : Int → Int} {kk : Int → Int} {ka : Int → Int} {kb : Int → Int} {a9 b9 : Int} (hm : mO h mv mrc mmc mmk mdv mwl mwa mwp mth) (hmm : h 201 = some (oI 12464 mm)) (h202 : h 202 = some (oI 304 mw)) (h216 : h 216 = some (oZ 64 f0)) (h203 : h 203 = some (oI 6 kk)) (h204 : h 204 = some (oI 6 ka)) (h205 : h 205 = some (oI 6 kb)) (hv : 0 ≤ mv ∧ mv ≤ 40) (hl : 0 ≤ a9 ∧ a9 ≤ 2) (hwv : RowV (fmix (fun s => mm (304 * mv + s)) mw 304)) (hP : RuleHolds 103 a9 0 (fmix (fun s => mm (304 * mv + s)) mw 304)) (hf : 6 ≤ mrc) : Ct g yX11_rule (.code yX11_rule cX11_rule 9 (some .int)) 7 0 0 [vR 200, vI 103, vI a9, vI b9] h ((fun r h' => r = .inl (some (vI 0)) ∧ ∃ f4 : Int → Int, h' = (hput (hput (hput (hput (hput h 200 (oO 10 [vR 201, vR 202, vR 203, vR 204, vR 205, vR 206, vR 207, vR 208, vR 209, vR 210, vR 211, vR 212, vR 213, vR 214, vR 215, vR 216, vR 217, vR 218, vI mv, vI mrc, vI mmc, vI mmk, vI mdv, vI mwl, vI mwa, vI mwp, vI 0])) 202 (oI 304 (fmix (fun s => mm (304 * mv + s)) mw 304))) 216 (oZ 64 f4)) 200 (oO 10 [vR 201, vR 202, vR 203, vR 204, vR 205, vR 206, vR 207, vR 208, vR 209, vR 210, vR 211, vR 212, vR 213, vR 214, vR 215, vR 216, vR 217, vR 218, vI mv, vI mrc, vI mmc, vI mmk, vI mdv, vI mwl, vI mwa, vI mwp, vI 0])) 200 (oO 10 [vR 201, vR 202, vR 203, vR 204, vR 205, vR 206, vR 207, vR 208, vR 209, vR 210, vR 211, vR 212, vR 213, vR 214, vR 215, vR 216, vR 217, vR 218, vI mv, vI mrc, vI mmc, vI mmk, vI mdv, vI mwl, vI mwa, vI mwp, vI 3])))) := by
  refine Ct.of (by decide) (Nat.le_of_ble_eq_true rfl) (fun x hg C F => ?_)
  subst hg
  show T x 0 [(0, vR 200), (1, vI 103), (2, vI a9), (3, vI b9)] [] h 0 0
  refine st_iload_n C 1 dX11_rule_0 rfl rfl ?_
  refine st_bipush C dX11_rule_1 (by decide) (by decide) ?_
  refine st_icmp_eq (tgt := 12) C dX11_rule_3 (by decide) (fun c_3 => by omega) (fun c_3 => ?_)
  refine st_iload_n C 1 dX11_rule_6 rfl rfl ?_
  refine st_bipush C dX11_rule_7 (by decide) (by decide) ?_
  refine st_icmp_ne (tgt := 16) C dX11_rule_9 (by decide) (fun c_9 => ?_) (fun c_9 => by omega)
  refine st_iconst C dX11_rule_16 (by decide) ?_
  refine st_istore C dX11_rule_17 (by decide) rfl ?_
  show T x 19 [(0, vR 200), (1, vI 103), (2, vI a9), (3, vI b9), (4, vI 0)] [] _ _ _
  refine st_iload_n C 1 dX11_rule_19 rfl rfl ?_
  refine st_bipush C dX11_rule_20 (by decide) (by decide) ?_
  refine st_icmp_eq (tgt := 31) C dX11_rule_22 (by decide) (fun c_22 => ?_) (fun c_22 => by omega)
  refine st_iconst C dX11_rule_31 (by decide) ?_
  refine st_goto (tgt := 36) C dX11_rule_32 (by decide) ?_
  refine st_istore C dX11_rule_36 (by decide) rfl ?_
  show T x 38 [(0, vR 200), (1, vI 103), (2, vI a9), (3, vI b9), (4, vI 0), (5, vI 1)] [] _ _ _
  refine st_iload_n C 1 dX11_rule_38 rfl rfl ?_
  refine st_bipush C dX11_rule_39 (by decide) (by decide) ?_
  refine st_icmp_eq (tgt := 80) C dX11_rule_41 (by decide) (fun c_41 => by omega) (fun c_41 => ?_)
  refine st_iload C dX11_rule_44 rfl ?_
  refine st_if_eq (tgt := 56) C dX11_rule_46 (by decide) (fun c_46 => by omega) (fun c_46 => ?_)
  refine st_iload_n C 2 dX11_rule_49 rfl rfl ?_
  have b_50 : 0 ≤ a9 ∧ a9 ≤ 2 := by omega
  refine st_callS (st := []) C dX11_rule_50 [vI a9] (k_mLayer_t (v9 := a9)  b_50) w_X11_108 rfl (by decide) (by decide) (by omega) (by omega) (Nat.le_of_ble_eq_true rfl) (ko_rt ?_)
  show T x 53 [(0, vR 200), (1, vI 103), (2, vI a9), (3, vI b9), (4, vI 0), (5, vI 1)] [vI 1] _ _ _
  refine st_if_ne (tgt := 80) C dX11_rule_53 (by decide) (fun c_53 => ?_) (fun c_53 => by omega)
  refine st_iconst C dX11_rule_80 (by decide) ?_
  refine st_goto (tgt := 85) C dX11_rule_81 (by decide) ?_
  refine st_istore C dX11_rule_85 (by decide) rfl ?_
  show T x 87 [(0, vR 200), (1, vI 103), (2, vI a9), (3, vI b9), (4, vI 0), (5, vI 1), (6, vI 1)] [] _ _ _
  refine st_aload_n C 0 dX11_rule_87 rfl rfl ?_
  refine st_iload C dX11_rule_88 rfl ?_
  refine st_iconst C dX11_rule_90 (by decide) ?_
  refine st_callV (st := []) C dX11_rule_91 [vI 1, vI 1] (k_no_t (p9 := 1) hm) hm w_X11_112 rfl (by decide) (by decide) (by omega) (by omega) (Nat.le_of_ble_eq_true rfl) (ko_rt ?_)
  show T x 94 [(0, vR 200), (1, vI 103), (2, vI a9), (3, vI b9), (4, vI 0), (5, vI 1), (6, vI 1)] [vI 0] (hput h 200 (oO 10 [vR 201, vR 202, vR 203, vR 204, vR 205, vR 206, vR 207, vR 208, vR 209, vR 210, vR 211, vR 212, vR 213, vR 214, vR 215, vR 216, vR 217, vR 218, vI mv, vI mrc, vI mmc, vI mmk, vI mdv, vI mwl, vI mwa, vI mwp, vI 0])) _ _
  refine st_if_eq (tgt := 99) C dX11_rule_94 (by decide) (fun c_94 => ?_) (fun c_94 => by omega)
  refine st_iload_n C 1 dX11_rule_99 rfl rfl ?_
  refine st_bipush C dX11_rule_100 (by decide) (by decide) ?_
  refine st_icmp_ne (tgt := 109) C dX11_rule_102 (by decide) (fun c_102 => ?_) (fun c_102 => by omega)
  refine st_iload_n C 2 dX11_rule_109 rfl rfl ?_
  refine st_istore C dX11_rule_110 (by decide) rfl ?_
  show T x 112 [(0, vR 200), (1, vI 103), (2, vI a9), (3, vI b9), (4, vI 0), (5, vI 1), (6, vI 1), (7, vI a9)] [] _ _ _
  refine st_iload C dX11_rule_112 rfl ?_
  refine st_if_eq (tgt := 121) C dX11_rule_114 (by decide) (fun c_114 => ?_) (fun c_114 => by omega)
  refine st_iconst C dX11_rule_121 (by decide) ?_
  refine st_istore C dX11_rule_122 (by decide) rfl ?_
  show T x 124 [(0, vR 200), (1, vI 103), (2, vI a9), (3, vI b9), (4, vI 0), (5, vI 1), (6, vI 1), (7, vI a9), (8, vI 0)] [] _ _ _
  refine st_aload_n C 0 dX11_rule_124 rfl rfl ?_
  refine st_callV (st := []) C dX11_rule_125 [] (k_take (mm := mm) hput_s (hput_o (by omega) hmm) hv (hput_o (by omega) h202)) hput_s w_X11_116 rfl (by decide) (by decide) (by omega) (by omega) (Nat.le_of_ble_eq_true rfl) (ko_rn ?_)
  show T x 128 [(0, vR 200), (1, vI 103), (2, vI a9), (3, vI b9), (4, vI 0), (5, vI 1), (6, vI 1), (7, vI a9), (8, vI 0)] [] (hput (hput h 200 (oO 10 [vR 201, vR 202, vR 203, vR 204, vR 205, vR 206, vR 207, vR 208, vR 209, vR 210, vR 211, vR 212, vR 213, vR 214, vR 215, vR 216, vR 217, vR 218, vI mv, vI mrc, vI mmc, vI mmk, vI mdv, vI mwl, vI mwa, vI mwp, vI 0])) 202 (oI 304 (fmix (fun s => mm (304 * mv + s)) mw 304))) _ _
  refine st_aload_n C 0 dX11_rule_128 rfl rfl ?_
  refine st_aload_n C 0 dX11_rule_129 rfl rfl ?_
  refine st_iload_n C 1 dX11_rule_130 rfl rfl ?_
  refine st_iload C dX11_rule_131 rfl ?_
  refine st_iload C dX11_rule_133 rfl ?_
  refine st_callV (st := [vR 200]) C dX11_rule_135 [vI 103, vI a9, vI 0] (k_keeps_t (f0 := f0) (mw := (fmix (fun s => mm (304 * mv + s)) mw 304)) (a9 := a9) (b9 := 0) (k9 := 103) (hput_o (by omega) hput_s) hput_s (by omega) (by omega) hwv (hput_o (by omega) (hput_o (by omega) h216)) (by omega) hP) (hput_o (by omega) hput_s) w_X11_119 rfl (by decide) (by decide) (by omega) (by omega) (Nat.le_of_ble_eq_true rfl) (ko_rz (fun f4 _ => ?_))
  show T x 138 [(0, vR 200), (1, vI 103), (2, vI a9), (3, vI b9), (4, vI 0), (5, vI 1), (6, vI 1), (7, vI a9), (8, vI 0)] [vI 1, vR 200] _ _ _
  refine st_iconst C dX11_rule_138 (by decide) ?_
  refine st_callV (st := []) C dX11_rule_139 [vI 1, vI 2] (k_no_t (p9 := 2) (hput_o (by decide) (hput_o (by omega) hput_s))) (hput_o (by decide) (hput_o (by omega) hput_s)) w_X11_112 rfl (by decide) (by decide) (by omega) (by omega) (Nat.le_of_ble_eq_true rfl) (ko_rt ?_)
  show T x 142 [(0, vR 200), (1, vI 103), (2, vI a9), (3, vI b9), (4, vI 0), (5, vI 1), (6, vI 1), (7, vI a9), (8, vI 0)] [vI 0] (hput (hput (hput (hput h 200 (oO 10 [vR 201, vR 202, vR 203, vR 204, vR 205, vR 206, vR 207, vR 208, vR 209, vR 210, vR 211, vR 212, vR 213, vR 214, vR 215, vR 216, vR 217, vR 218, vI mv, vI mrc, vI mmc, vI mmk, vI mdv, vI mwl, vI mwa, vI mwp, vI 0])) 202 (oI 304 (fmix (fun s => mm (304 * mv + s)) mw 304))) 216 (oZ 64 f4)) 200 (oO 10 [vR 201, vR 202, vR 203, vR 204, vR 205, vR 206, vR 207, vR 208, vR 209, vR 210, vR 211, vR 212, vR 213, vR 214, vR 215, vR 216, vR 217, vR 218, vI mv, vI mrc, vI mmc, vI mmk, vI mdv, vI mwl, vI mwa, vI mwp, vI 0])) _ _
  refine st_if_ne (tgt := 167) C dX11_rule_142 (by decide) (fun c_142 => by omega) (fun c_142 => ?_)
  refine st_aload_n C 0 dX11_rule_145 rfl rfl ?_
  refine st_aload_n C 0 dX11_rule_146 rfl rfl ?_
  refine st_getf C dX11_rule_147 fl_X11_122 hput_s rfl ?_
  refine st_bipush C dX11_rule_150 (by decide) (by decide) ?_
  refine st_icmp_ge (tgt := 159) C dX11_rule_152 (by decide) (fun c_152 => ?_) (fun c_152 => by omega)
  refine st_iconst C dX11_rule_159 (by decide) ?_
  refine st_iconst C dX11_rule_160 (by decide) ?_
  refine st_callV (st := []) C dX11_rule_161 [vI 0, vI 3] (k_no_f (p9 := 3) hput_s) hput_s w_X11_112 rfl (by decide) (by decide) (by omega) (by omega) (Nat.le_of_ble_eq_true rfl) (ko_rt ?_)
  show T x 164 [(0, vR 200), (1, vI 103), (2, vI a9), (3, vI b9), (4, vI 0), (5, vI 1), (6, vI 1), (7, vI a9), (8, vI 0)] [vI 1] (hput (hput (hput (hput (hput h 200 (oO 10 [vR 201, vR 202, vR 203, vR 204, vR 205, vR 206, vR 207, vR 208, vR 209, vR 210, vR 211, vR 212, vR 213, vR 214, vR 215, vR 216, vR 217, vR 218, vI mv, vI mrc, vI mmc, vI mmk, vI mdv, vI mwl, vI mwa, vI mwp, vI 0])) 202 (oI 304 (fmix (fun s => mm (304 * mv + s)) mw 304))) 216 (oZ 64 f4)) 200 (oO 10 [vR 201, vR 202, vR 203, vR 204, vR 205, vR 206, vR 207, vR 208, vR 209, vR 210, vR 211, vR 212, vR 213, vR 214, vR 215, vR 216, vR 217, vR 218, vI mv, vI mrc, vI mmc, vI mmk, vI mdv, vI mwl, vI mwa, vI mwp, vI 0])) 200 (oO 10 [vR 201, vR 202, vR 203, vR 204, vR 205, vR 206, vR 207, vR 208, vR 209, vR 210, vR 211, vR 212, vR 213, vR 214, vR 215, vR 216, vR 217, vR 218, vI mv, vI mrc, vI mmc, vI mmk, vI mdv, vI mwl, vI mwa, vI mwp, vI 3])) _ _
  refine st_if_eq (tgt := 169) C dX11_rule_164 (by decide) (fun c_164 => by omega) (fun c_164 => ?_)
  refine st_iconst C dX11_rule_167 (by decide) ?_
  exact st_ireturn C F dX11_rule_168 rfl (by first | exact ⟨by with_reducible rfl, f4, by with_reducible rfl⟩ | (exfalso; omega)) (by omega) (by omega)
set_option maxRecDepth 20000 in
set_option maxHeartbeats 4000000 in
theorem m_ruleg {g : Gx} {h : HP} {mv mrc mmc mmk mdv mwl mwa mwp mth : Int} {mm : Int → Int} {mw : Int → Int} {f0 : Int → Int} {kk : Int → Int} {ka : Int → Int} {kb : Int → Int} {a9 b9 : Int} (hm : mO h mv mrc mmc mmk mdv mwl mwa mwp mth) (hmm : h 201 = some (oI 12464 mm)) (h202 : h 202 = some (oI 304 mw)) (h216 : h 216 = some (oZ 64 f0)) (h203 : h 203 = some (oI 6 kk)) (h204 : h 204 = some (oI 6 ka)) (h205 : h 205 = some (oI 6 kb)) (hv : 0 ≤ mv ∧ mv ≤ 40) (hl : 0 ≤ a9 ∧ a9 ≤ 2) (hwv : RowV (fmix (fun s => mm (304 * mv + s)) mw 304)) (hP : RuleHolds 103 a9 0 (fmix (fun s => mm (304 * mv + s)) mw 304)) (hf : 0 ≤ mrc ∧ mrc ≤ 5) : Ct g yX11_rule (.code yX11_rule cX11_rule 9 (some .int)) 7 0 0 [vR 200, vI 103, vI a9, vI b9] h ((fun r h' => r = .inl (some (vI mrc)) ∧ ∃ f4 : Int → Int, h' = (hput (hput (hput (hput (hput (hput (hput (hput (hput h 200 (oO 10 [vR 201, vR 202, vR 203, vR 204, vR 205, vR 206, vR 207, vR 208, vR 209, vR 210, vR 211, vR 212, vR 213, vR 214, vR 215, vR 216, vR 217, vR 218, vI mv, vI mrc, vI mmc, vI mmk, vI mdv, vI mwl, vI mwa, vI mwp, vI 0])) 202 (oI 304 (fmix (fun s => mm (304 * mv + s)) mw 304))) 216 (oZ 64 f4)) 200 (oO 10 [vR 201, vR 202, vR 203, vR 204, vR 205, vR 206, vR 207, vR 208, vR 209, vR 210, vR 211, vR 212, vR 213, vR 214, vR 215, vR 216, vR 217, vR 218, vI mv, vI mrc, vI mmc, vI mmk, vI mdv, vI mwl, vI mwa, vI mwp, vI 0])) 200 (oO 10 [vR 201, vR 202, vR 203, vR 204, vR 205, vR 206, vR 207, vR 208, vR 209, vR 210, vR 211, vR 212, vR 213, vR 214, vR 215, vR 216, vR 217, vR 218, vI mv, vI mrc, vI mmc, vI mmk, vI mdv, vI mwl, vI mwa, vI mwp, vI 0])) 203 (oI 6 (fput kk mrc 103))) 204 (oI 6 (fput ka mrc a9))) 205 (oI 6 (fput kb mrc 0))) 200 (oO 10 [vR 201, vR 202, vR 203, vR 204, vR 205, vR 206, vR 207, vR 208, vR 209, vR 210, vR 211, vR 212, vR 213, vR 214, vR 215, vR 216, vR 217, vR 218, vI mv, vI (mrc + 1), vI mmc, vI mmk, vI mdv, vI mwl, vI mwa, vI mwp, vI 0])))) := by
  refine Ct.of (by decide) (Nat.le_of_ble_eq_true rfl) (fun x hg C F => ?_)
  subst hg
  show T x 0 [(0, vR 200), (1, vI 103), (2, vI a9), (3, vI b9)] [] h 0 0
  refine st_iload_n C 1 dX11_rule_0 rfl rfl ?_
  refine st_bipush C dX11_rule_1 (by decide) (by decide) ?_
  refine st_icmp_eq (tgt := 12) C dX11_rule_3 (by decide) (fun c_3 => by omega) (fun c_3 => ?_)
  refine st_iload_n C 1 dX11_rule_6 rfl rfl ?_
  refine st_bipush C dX11_rule_7 (by decide) (by decide) ?_
  refine st_icmp_ne (tgt := 16) C dX11_rule_9 (by decide) (fun c_9 => ?_) (fun c_9 => by omega)
  refine st_iconst C dX11_rule_16 (by decide) ?_
  refine st_istore C dX11_rule_17 (by decide) rfl ?_
  show T x 19 [(0, vR 200), (1, vI 103), (2, vI a9), (3, vI b9), (4, vI 0)] [] _ _ _
  refine st_iload_n C 1 dX11_rule_19 rfl rfl ?_
  refine st_bipush C dX11_rule_20 (by decide) (by decide) ?_
  refine st_icmp_eq (tgt := 31) C dX11_rule_22 (by decide) (fun c_22 => ?_) (fun c_22 => by omega)
  refine st_iconst C dX11_rule_31 (by decide) ?_
  refine st_goto (tgt := 36) C dX11_rule_32 (by decide) ?_
  refine st_istore C dX11_rule_36 (by decide) rfl ?_
  show T x 38 [(0, vR 200), (1, vI 103), (2, vI a9), (3, vI b9), (4, vI 0), (5, vI 1)] [] _ _ _
  refine st_iload_n C 1 dX11_rule_38 rfl rfl ?_
  refine st_bipush C dX11_rule_39 (by decide) (by decide) ?_
  refine st_icmp_eq (tgt := 80) C dX11_rule_41 (by decide) (fun c_41 => by omega) (fun c_41 => ?_)
  refine st_iload C dX11_rule_44 rfl ?_
  refine st_if_eq (tgt := 56) C dX11_rule_46 (by decide) (fun c_46 => by omega) (fun c_46 => ?_)
  refine st_iload_n C 2 dX11_rule_49 rfl rfl ?_
  have b_50 : 0 ≤ a9 ∧ a9 ≤ 2 := by omega
  refine st_callS (st := []) C dX11_rule_50 [vI a9] (k_mLayer_t (v9 := a9)  b_50) w_X11_108 rfl (by decide) (by decide) (by omega) (by omega) (Nat.le_of_ble_eq_true rfl) (ko_rt ?_)
  show T x 53 [(0, vR 200), (1, vI 103), (2, vI a9), (3, vI b9), (4, vI 0), (5, vI 1)] [vI 1] _ _ _
  refine st_if_ne (tgt := 80) C dX11_rule_53 (by decide) (fun c_53 => ?_) (fun c_53 => by omega)
  refine st_iconst C dX11_rule_80 (by decide) ?_
  refine st_goto (tgt := 85) C dX11_rule_81 (by decide) ?_
  refine st_istore C dX11_rule_85 (by decide) rfl ?_
  show T x 87 [(0, vR 200), (1, vI 103), (2, vI a9), (3, vI b9), (4, vI 0), (5, vI 1), (6, vI 1)] [] _ _ _
  refine st_aload_n C 0 dX11_rule_87 rfl rfl ?_
  refine st_iload C dX11_rule_88 rfl ?_
  refine st_iconst C dX11_rule_90 (by decide) ?_
  refine st_callV (st := []) C dX11_rule_91 [vI 1, vI 1] (k_no_t (p9 := 1) hm) hm w_X11_112 rfl (by decide) (by decide) (by omega) (by omega) (Nat.le_of_ble_eq_true rfl) (ko_rt ?_)
  show T x 94 [(0, vR 200), (1, vI 103), (2, vI a9), (3, vI b9), (4, vI 0), (5, vI 1), (6, vI 1)] [vI 0] (hput h 200 (oO 10 [vR 201, vR 202, vR 203, vR 204, vR 205, vR 206, vR 207, vR 208, vR 209, vR 210, vR 211, vR 212, vR 213, vR 214, vR 215, vR 216, vR 217, vR 218, vI mv, vI mrc, vI mmc, vI mmk, vI mdv, vI mwl, vI mwa, vI mwp, vI 0])) _ _
  refine st_if_eq (tgt := 99) C dX11_rule_94 (by decide) (fun c_94 => ?_) (fun c_94 => by omega)
  refine st_iload_n C 1 dX11_rule_99 rfl rfl ?_
  refine st_bipush C dX11_rule_100 (by decide) (by decide) ?_
  refine st_icmp_ne (tgt := 109) C dX11_rule_102 (by decide) (fun c_102 => ?_) (fun c_102 => by omega)
  refine st_iload_n C 2 dX11_rule_109 rfl rfl ?_
  refine st_istore C dX11_rule_110 (by decide) rfl ?_
  show T x 112 [(0, vR 200), (1, vI 103), (2, vI a9), (3, vI b9), (4, vI 0), (5, vI 1), (6, vI 1), (7, vI a9)] [] _ _ _
  refine st_iload C dX11_rule_112 rfl ?_
  refine st_if_eq (tgt := 121) C dX11_rule_114 (by decide) (fun c_114 => ?_) (fun c_114 => by omega)
  refine st_iconst C dX11_rule_121 (by decide) ?_
  refine st_istore C dX11_rule_122 (by decide) rfl ?_
  show T x 124 [(0, vR 200), (1, vI 103), (2, vI a9), (3, vI b9), (4, vI 0), (5, vI 1), (6, vI 1), (7, vI a9), (8, vI 0)] [] _ _ _
  refine st_aload_n C 0 dX11_rule_124 rfl rfl ?_
  refine st_callV (st := []) C dX11_rule_125 [] (k_take (mm := mm) hput_s (hput_o (by omega) hmm) hv (hput_o (by omega) h202)) hput_s w_X11_116 rfl (by decide) (by decide) (by omega) (by omega) (Nat.le_of_ble_eq_true rfl) (ko_rn ?_)
  show T x 128 [(0, vR 200), (1, vI 103), (2, vI a9), (3, vI b9), (4, vI 0), (5, vI 1), (6, vI 1), (7, vI a9), (8, vI 0)] [] (hput (hput h 200 (oO 10 [vR 201, vR 202, vR 203, vR 204, vR 205, vR 206, vR 207, vR 208, vR 209, vR 210, vR 211, vR 212, vR 213, vR 214, vR 215, vR 216, vR 217, vR 218, vI mv, vI mrc, vI mmc, vI mmk, vI mdv, vI mwl, vI mwa, vI mwp, vI 0])) 202 (oI 304 (fmix (fun s => mm (304 * mv + s)) mw 304))) _ _
  refine st_aload_n C 0 dX11_rule_128 rfl rfl ?_
  refine st_aload_n C 0 dX11_rule_129 rfl rfl ?_
  refine st_iload_n C 1 dX11_rule_130 rfl rfl ?_
  refine st_iload C dX11_rule_131 rfl ?_
  refine st_iload C dX11_rule_133 rfl ?_
  refine st_callV (st := [vR 200]) C dX11_rule_135 [vI 103, vI a9, vI 0] (k_keeps_t (f0 := f0) (mw := (fmix (fun s => mm (304 * mv + s)) mw 304)) (a9 := a9) (b9 := 0) (k9 := 103) (hput_o (by omega) hput_s) hput_s (by omega) (by omega) hwv (hput_o (by omega) (hput_o (by omega) h216)) (by omega) hP) (hput_o (by omega) hput_s) w_X11_119 rfl (by decide) (by decide) (by omega) (by omega) (Nat.le_of_ble_eq_true rfl) (ko_rz (fun f4 _ => ?_))
  show T x 138 [(0, vR 200), (1, vI 103), (2, vI a9), (3, vI b9), (4, vI 0), (5, vI 1), (6, vI 1), (7, vI a9), (8, vI 0)] [vI 1, vR 200] _ _ _
  refine st_iconst C dX11_rule_138 (by decide) ?_
  refine st_callV (st := []) C dX11_rule_139 [vI 1, vI 2] (k_no_t (p9 := 2) (hput_o (by decide) (hput_o (by omega) hput_s))) (hput_o (by decide) (hput_o (by omega) hput_s)) w_X11_112 rfl (by decide) (by decide) (by omega) (by omega) (Nat.le_of_ble_eq_true rfl) (ko_rt ?_)
  show T x 142 [(0, vR 200), (1, vI 103), (2, vI a9), (3, vI b9), (4, vI 0), (5, vI 1), (6, vI 1), (7, vI a9), (8, vI 0)] [vI 0] (hput (hput (hput (hput h 200 (oO 10 [vR 201, vR 202, vR 203, vR 204, vR 205, vR 206, vR 207, vR 208, vR 209, vR 210, vR 211, vR 212, vR 213, vR 214, vR 215, vR 216, vR 217, vR 218, vI mv, vI mrc, vI mmc, vI mmk, vI mdv, vI mwl, vI mwa, vI mwp, vI 0])) 202 (oI 304 (fmix (fun s => mm (304 * mv + s)) mw 304))) 216 (oZ 64 f4)) 200 (oO 10 [vR 201, vR 202, vR 203, vR 204, vR 205, vR 206, vR 207, vR 208, vR 209, vR 210, vR 211, vR 212, vR 213, vR 214, vR 215, vR 216, vR 217, vR 218, vI mv, vI mrc, vI mmc, vI mmk, vI mdv, vI mwl, vI mwa, vI mwp, vI 0])) _ _
  refine st_if_ne (tgt := 167) C dX11_rule_142 (by decide) (fun c_142 => by omega) (fun c_142 => ?_)
  refine st_aload_n C 0 dX11_rule_145 rfl rfl ?_
  refine st_aload_n C 0 dX11_rule_146 rfl rfl ?_
  refine st_getf C dX11_rule_147 fl_X11_122 hput_s rfl ?_
  refine st_bipush C dX11_rule_150 (by decide) (by decide) ?_
  refine st_icmp_ge (tgt := 159) C dX11_rule_152 (by decide) (fun c_152 => by omega) (fun c_152 => ?_)
  refine st_iconst C dX11_rule_155 (by decide) ?_
  refine st_goto (tgt := 160) C dX11_rule_156 (by decide) ?_
  refine st_iconst C dX11_rule_160 (by decide) ?_
  refine st_callV (st := []) C dX11_rule_161 [vI 1, vI 3] (k_no_t (p9 := 3) hput_s) hput_s w_X11_112 rfl (by decide) (by decide) (by omega) (by omega) (Nat.le_of_ble_eq_true rfl) (ko_rt ?_)
  show T x 164 [(0, vR 200), (1, vI 103), (2, vI a9), (3, vI b9), (4, vI 0), (5, vI 1), (6, vI 1), (7, vI a9), (8, vI 0)] [vI 0] (hput (hput (hput (hput (hput h 200 (oO 10 [vR 201, vR 202, vR 203, vR 204, vR 205, vR 206, vR 207, vR 208, vR 209, vR 210, vR 211, vR 212, vR 213, vR 214, vR 215, vR 216, vR 217, vR 218, vI mv, vI mrc, vI mmc, vI mmk, vI mdv, vI mwl, vI mwa, vI mwp, vI 0])) 202 (oI 304 (fmix (fun s => mm (304 * mv + s)) mw 304))) 216 (oZ 64 f4)) 200 (oO 10 [vR 201, vR 202, vR 203, vR 204, vR 205, vR 206, vR 207, vR 208, vR 209, vR 210, vR 211, vR 212, vR 213, vR 214, vR 215, vR 216, vR 217, vR 218, vI mv, vI mrc, vI mmc, vI mmk, vI mdv, vI mwl, vI mwa, vI mwp, vI 0])) 200 (oO 10 [vR 201, vR 202, vR 203, vR 204, vR 205, vR 206, vR 207, vR 208, vR 209, vR 210, vR 211, vR 212, vR 213, vR 214, vR 215, vR 216, vR 217, vR 218, vI mv, vI mrc, vI mmc, vI mmk, vI mdv, vI mwl, vI mwa, vI mwp, vI 0])) _ _
  refine st_if_eq (tgt := 169) C dX11_rule_164 (by decide) (fun c_164 => ?_) (fun c_164 => by omega)
  refine st_aload_n C 0 dX11_rule_169 rfl rfl ?_
  refine st_getf C dX11_rule_170 fl_X11_16 hput_s rfl ?_
  refine st_aload_n C 0 dX11_rule_173 rfl rfl ?_
  refine st_getf C dX11_rule_174 fl_X11_122 hput_s rfl ?_
  refine st_iload_n C 1 dX11_rule_177 rfl rfl ?_
  refine st_iast C dX11_rule_178 (hput_o (by omega) (hput_o (by omega) (hput_o (by decide) (hput_o (by omega) (hput_o (by omega) h203))))) (by omega) (by omega) ?_
  refine st_aload_n C 0 dX11_rule_179 rfl rfl ?_
  refine st_getf C dX11_rule_180 fl_X11_19 (hput_o (by omega) hput_s) rfl ?_
  refine st_aload_n C 0 dX11_rule_183 rfl rfl ?_
  refine st_getf C dX11_rule_184 fl_X11_122 (hput_o (by omega) hput_s) rfl ?_
  refine st_iload C dX11_rule_187 rfl ?_
  refine st_iast C dX11_rule_189 (hput_o (by omega) (hput_o (by omega) (hput_o (by omega) (hput_o (by decide) (hput_o (by omega) (hput_o (by omega) h204)))))) (by omega) (by omega) ?_
  refine st_aload_n C 0 dX11_rule_190 rfl rfl ?_
  refine st_getf C dX11_rule_191 fl_X11_22 (hput_o (by omega) (hput_o (by omega) hput_s)) rfl ?_
  refine st_aload_n C 0 dX11_rule_194 rfl rfl ?_
  refine st_getf C dX11_rule_195 fl_X11_122 (hput_o (by omega) (hput_o (by omega) hput_s)) rfl ?_
  refine st_iload C dX11_rule_198 rfl ?_
  refine st_iast C dX11_rule_200 (hput_o (by omega) (hput_o (by omega) (hput_o (by omega) (hput_o (by omega) (hput_o (by decide) (hput_o (by omega) (hput_o (by omega) h205))))))) (by omega) (by omega) ?_
  refine st_aload_n C 0 dX11_rule_201 rfl rfl ?_
  refine st_dup C dX11_rule_202 rfl ?_
  refine st_getf C dX11_rule_203 fl_X11_122 (hput_o (by omega) (hput_o (by omega) (hput_o (by omega) hput_s))) rfl ?_
  refine st_iconst C dX11_rule_206 (by decide) ?_
  refine st_iadd C dX11_rule_207 ⟨(by omega), (by omega)⟩ ?_
  refine st_putf C dX11_rule_208 fp_X11_122 (fun q => by cases q) (hput_o (by omega) (hput_o (by omega) (hput_o (by omega) hput_s))) (Nat.le_of_ble_eq_true rfl) fit_int ?_
  show T x 211 [(0, vR 200), (1, vI 103), (2, vI a9), (3, vI b9), (4, vI 0), (5, vI 1), (6, vI 1), (7, vI a9), (8, vI 0)] [] (hput (hput (hput (hput (hput (hput (hput (hput (hput h 200 (oO 10 [vR 201, vR 202, vR 203, vR 204, vR 205, vR 206, vR 207, vR 208, vR 209, vR 210, vR 211, vR 212, vR 213, vR 214, vR 215, vR 216, vR 217, vR 218, vI mv, vI mrc, vI mmc, vI mmk, vI mdv, vI mwl, vI mwa, vI mwp, vI 0])) 202 (oI 304 (fmix (fun s => mm (304 * mv + s)) mw 304))) 216 (oZ 64 f4)) 200 (oO 10 [vR 201, vR 202, vR 203, vR 204, vR 205, vR 206, vR 207, vR 208, vR 209, vR 210, vR 211, vR 212, vR 213, vR 214, vR 215, vR 216, vR 217, vR 218, vI mv, vI mrc, vI mmc, vI mmk, vI mdv, vI mwl, vI mwa, vI mwp, vI 0])) 200 (oO 10 [vR 201, vR 202, vR 203, vR 204, vR 205, vR 206, vR 207, vR 208, vR 209, vR 210, vR 211, vR 212, vR 213, vR 214, vR 215, vR 216, vR 217, vR 218, vI mv, vI mrc, vI mmc, vI mmk, vI mdv, vI mwl, vI mwa, vI mwp, vI 0])) 203 (oI 6 (fput kk mrc 103))) 204 (oI 6 (fput ka mrc a9))) 205 (oI 6 (fput kb mrc 0))) 200 (oO 10 [vR 201, vR 202, vR 203, vR 204, vR 205, vR 206, vR 207, vR 208, vR 209, vR 210, vR 211, vR 212, vR 213, vR 214, vR 215, vR 216, vR 217, vR 218, vI mv, vI (mrc + 1), vI mmc, vI mmk, vI mdv, vI mwl, vI mwa, vI mwp, vI 0])) _ _
  refine st_aload_n C 0 dX11_rule_211 rfl rfl ?_
  refine st_getf C dX11_rule_212 fl_X11_122 hput_s rfl ?_
  refine st_iconst C dX11_rule_215 (by decide) ?_
  refine st_isub C dX11_rule_216 ⟨(by omega), (by omega)⟩ ?_
  exact st_ireturn C F dX11_rule_217 rfl (by first | (rw [show mrc + 1 - 1 = mrc by omega]; exact ⟨by with_reducible rfl, f4, by with_reducible rfl⟩) | (exfalso; omega)) (by omega) (by omega)
set_option maxRecDepth 20000 in
set_option maxHeartbeats 4000000 in
theorem m_rulem_x2 {g : Gx} {h : HP} {mv mrc mmc mmk mdv mwl mwa mwp mth : Int} {mm : Int → Int} {mw : Int → Int} {f0 : Int → Int} {kk : Int → Int} {ka : Int → Int} {kb : Int → Int} {a9 b9 : Int} (hm : mO h mv mrc mmc mmk mdv mwl mwa mwp mth) (hmm : h 201 = some (oI 12464 mm)) (h202 : h 202 = some (oI 304 mw)) (h216 : h 216 = some (oZ 64 f0)) (h203 : h 203 = some (oI 6 kk)) (h204 : h 204 = some (oI 6 ka)) (h205 : h 205 = some (oI 6 kb)) (hv : 0 ≤ mv ∧ mv ≤ 40) (hwv : RowV (fmix (fun s => mm (304 * mv + s)) mw 304)) (hP : ¬ RuleHolds 109 0 0 (fmix (fun s => mm (304 * mv + s)) mw 304)) : Ct g yX11_rule (.code yX11_rule cX11_rule 9 (some .int)) 7 0 0 [vR 200, vI 109, vI a9, vI b9] h ((fun r h' => r = .inl (some (vI 0)) ∧ ∃ f4 : Int → Int, h' = (hput (hput (hput (hput h 200 (oO 10 [vR 201, vR 202, vR 203, vR 204, vR 205, vR 206, vR 207, vR 208, vR 209, vR 210, vR 211, vR 212, vR 213, vR 214, vR 215, vR 216, vR 217, vR 218, vI mv, vI mrc, vI mmc, vI mmk, vI mdv, vI mwl, vI mwa, vI mwp, vI 0])) 202 (oI 304 (fmix (fun s => mm (304 * mv + s)) mw 304))) 216 (oZ 64 f4)) 200 (oO 10 [vR 201, vR 202, vR 203, vR 204, vR 205, vR 206, vR 207, vR 208, vR 209, vR 210, vR 211, vR 212, vR 213, vR 214, vR 215, vR 216, vR 217, vR 218, vI mv, vI mrc, vI mmc, vI mmk, vI mdv, vI mwl, vI mwa, vI mwp, vI 2])))) := by
  refine Ct.of (by decide) (Nat.le_of_ble_eq_true rfl) (fun x hg C F => ?_)
  subst hg
  show T x 0 [(0, vR 200), (1, vI 109), (2, vI a9), (3, vI b9)] [] h 0 0
  refine st_iload_n C 1 dX11_rule_0 rfl rfl ?_
  refine st_bipush C dX11_rule_1 (by decide) (by decide) ?_
  refine st_icmp_eq (tgt := 12) C dX11_rule_3 (by decide) (fun c_3 => by omega) (fun c_3 => ?_)
  refine st_iload_n C 1 dX11_rule_6 rfl rfl ?_
  refine st_bipush C dX11_rule_7 (by decide) (by decide) ?_
  refine st_icmp_ne (tgt := 16) C dX11_rule_9 (by decide) (fun c_9 => ?_) (fun c_9 => by omega)
  refine st_iconst C dX11_rule_16 (by decide) ?_
  refine st_istore C dX11_rule_17 (by decide) rfl ?_
  show T x 19 [(0, vR 200), (1, vI 109), (2, vI a9), (3, vI b9), (4, vI 0)] [] _ _ _
  refine st_iload_n C 1 dX11_rule_19 rfl rfl ?_
  refine st_bipush C dX11_rule_20 (by decide) (by decide) ?_
  refine st_icmp_eq (tgt := 31) C dX11_rule_22 (by decide) (fun c_22 => by omega) (fun c_22 => ?_)
  refine st_iload_n C 1 dX11_rule_25 rfl rfl ?_
  refine st_bipush C dX11_rule_26 (by decide) (by decide) ?_
  refine st_icmp_ne (tgt := 35) C dX11_rule_28 (by decide) (fun c_28 => ?_) (fun c_28 => by omega)
  refine st_iconst C dX11_rule_35 (by decide) ?_
  refine st_istore C dX11_rule_36 (by decide) rfl ?_
  show T x 38 [(0, vR 200), (1, vI 109), (2, vI a9), (3, vI b9), (4, vI 0), (5, vI 0)] [] _ _ _
  refine st_iload_n C 1 dX11_rule_38 rfl rfl ?_
  refine st_bipush C dX11_rule_39 (by decide) (by decide) ?_
  refine st_icmp_eq (tgt := 80) C dX11_rule_41 (by decide) (fun c_41 => ?_) (fun c_41 => by omega)
  refine st_iconst C dX11_rule_80 (by decide) ?_
  refine st_goto (tgt := 85) C dX11_rule_81 (by decide) ?_
  refine st_istore C dX11_rule_85 (by decide) rfl ?_
  show T x 87 [(0, vR 200), (1, vI 109), (2, vI a9), (3, vI b9), (4, vI 0), (5, vI 0), (6, vI 1)] [] _ _ _
  refine st_aload_n C 0 dX11_rule_87 rfl rfl ?_
  refine st_iload C dX11_rule_88 rfl ?_
  refine st_iconst C dX11_rule_90 (by decide) ?_
  refine st_callV (st := []) C dX11_rule_91 [vI 1, vI 1] (k_no_t (p9 := 1) hm) hm w_X11_112 rfl (by decide) (by decide) (by omega) (by omega) (Nat.le_of_ble_eq_true rfl) (ko_rt ?_)
  show T x 94 [(0, vR 200), (1, vI 109), (2, vI a9), (3, vI b9), (4, vI 0), (5, vI 0), (6, vI 1)] [vI 0] (hput h 200 (oO 10 [vR 201, vR 202, vR 203, vR 204, vR 205, vR 206, vR 207, vR 208, vR 209, vR 210, vR 211, vR 212, vR 213, vR 214, vR 215, vR 216, vR 217, vR 218, vI mv, vI mrc, vI mmc, vI mmk, vI mdv, vI mwl, vI mwa, vI mwp, vI 0])) _ _
  refine st_if_eq (tgt := 99) C dX11_rule_94 (by decide) (fun c_94 => ?_) (fun c_94 => by omega)
  refine st_iload_n C 1 dX11_rule_99 rfl rfl ?_
  refine st_bipush C dX11_rule_100 (by decide) (by decide) ?_
  refine st_icmp_ne (tgt := 109) C dX11_rule_102 (by decide) (fun c_102 => by omega) (fun c_102 => ?_)
  refine st_iconst C dX11_rule_105 (by decide) ?_
  refine st_goto (tgt := 110) C dX11_rule_106 (by decide) ?_
  refine st_istore C dX11_rule_110 (by decide) rfl ?_
  show T x 112 [(0, vR 200), (1, vI 109), (2, vI a9), (3, vI b9), (4, vI 0), (5, vI 0), (6, vI 1), (7, vI 0)] [] _ _ _
  refine st_iload C dX11_rule_112 rfl ?_
  refine st_if_eq (tgt := 121) C dX11_rule_114 (by decide) (fun c_114 => ?_) (fun c_114 => by omega)
  refine st_iconst C dX11_rule_121 (by decide) ?_
  refine st_istore C dX11_rule_122 (by decide) rfl ?_
  show T x 124 [(0, vR 200), (1, vI 109), (2, vI a9), (3, vI b9), (4, vI 0), (5, vI 0), (6, vI 1), (7, vI 0), (8, vI 0)] [] _ _ _
  refine st_aload_n C 0 dX11_rule_124 rfl rfl ?_
  refine st_callV (st := []) C dX11_rule_125 [] (k_take (mm := mm) hput_s (hput_o (by omega) hmm) hv (hput_o (by omega) h202)) hput_s w_X11_116 rfl (by decide) (by decide) (by omega) (by omega) (Nat.le_of_ble_eq_true rfl) (ko_rn ?_)
  show T x 128 [(0, vR 200), (1, vI 109), (2, vI a9), (3, vI b9), (4, vI 0), (5, vI 0), (6, vI 1), (7, vI 0), (8, vI 0)] [] (hput (hput h 200 (oO 10 [vR 201, vR 202, vR 203, vR 204, vR 205, vR 206, vR 207, vR 208, vR 209, vR 210, vR 211, vR 212, vR 213, vR 214, vR 215, vR 216, vR 217, vR 218, vI mv, vI mrc, vI mmc, vI mmk, vI mdv, vI mwl, vI mwa, vI mwp, vI 0])) 202 (oI 304 (fmix (fun s => mm (304 * mv + s)) mw 304))) _ _
  refine st_aload_n C 0 dX11_rule_128 rfl rfl ?_
  refine st_aload_n C 0 dX11_rule_129 rfl rfl ?_
  refine st_iload_n C 1 dX11_rule_130 rfl rfl ?_
  refine st_iload C dX11_rule_131 rfl ?_
  refine st_iload C dX11_rule_133 rfl ?_
  refine st_callV (st := [vR 200]) C dX11_rule_135 [vI 109, vI 0, vI 0] (k_keeps_f (f0 := f0) (mw := (fmix (fun s => mm (304 * mv + s)) mw 304)) (a9 := 0) (b9 := 0) (k9 := 109) (hput_o (by omega) hput_s) hput_s (by omega) (by omega) hwv (hput_o (by omega) (hput_o (by omega) h216)) (by omega) hP) (hput_o (by omega) hput_s) w_X11_119 rfl (by decide) (by decide) (by omega) (by omega) (Nat.le_of_ble_eq_true rfl) (ko_rz (fun f4 _ => ?_))
  show T x 138 [(0, vR 200), (1, vI 109), (2, vI a9), (3, vI b9), (4, vI 0), (5, vI 0), (6, vI 1), (7, vI 0), (8, vI 0)] [vI 0, vR 200] _ _ _
  refine st_iconst C dX11_rule_138 (by decide) ?_
  refine st_callV (st := []) C dX11_rule_139 [vI 0, vI 2] (k_no_f (p9 := 2) (hput_o (by decide) (hput_o (by omega) hput_s))) (hput_o (by decide) (hput_o (by omega) hput_s)) w_X11_112 rfl (by decide) (by decide) (by omega) (by omega) (Nat.le_of_ble_eq_true rfl) (ko_rt ?_)
  show T x 142 [(0, vR 200), (1, vI 109), (2, vI a9), (3, vI b9), (4, vI 0), (5, vI 0), (6, vI 1), (7, vI 0), (8, vI 0)] [vI 1] (hput (hput (hput (hput h 200 (oO 10 [vR 201, vR 202, vR 203, vR 204, vR 205, vR 206, vR 207, vR 208, vR 209, vR 210, vR 211, vR 212, vR 213, vR 214, vR 215, vR 216, vR 217, vR 218, vI mv, vI mrc, vI mmc, vI mmk, vI mdv, vI mwl, vI mwa, vI mwp, vI 0])) 202 (oI 304 (fmix (fun s => mm (304 * mv + s)) mw 304))) 216 (oZ 64 f4)) 200 (oO 10 [vR 201, vR 202, vR 203, vR 204, vR 205, vR 206, vR 207, vR 208, vR 209, vR 210, vR 211, vR 212, vR 213, vR 214, vR 215, vR 216, vR 217, vR 218, vI mv, vI mrc, vI mmc, vI mmk, vI mdv, vI mwl, vI mwa, vI mwp, vI 2])) _ _
  refine st_if_ne (tgt := 167) C dX11_rule_142 (by decide) (fun c_142 => ?_) (fun c_142 => by omega)
  refine st_iconst C dX11_rule_167 (by decide) ?_
  exact st_ireturn C F dX11_rule_168 rfl (by first | exact ⟨by with_reducible rfl, f4, by with_reducible rfl⟩ | (exfalso; omega)) (by omega) (by omega)
set_option maxRecDepth 20000 in
set_option maxHeartbeats 4000000 in
theorem m_rulem_x3 {g : Gx} {h : HP} {mv mrc mmc mmk mdv mwl mwa mwp mth : Int} {mm : Int → Int} {mw : Int → Int} {f0 : Int → Int} {kk : Int → Int} {ka : Int → Int} {kb : Int → Int} {a9 b9 : Int} (hm : mO h mv mrc mmc mmk mdv mwl mwa mwp mth) (hmm : h 201 = some (oI 12464 mm)) (h202 : h 202 = some (oI 304 mw)) (h216 : h 216 = some (oZ 64 f0)) (h203 : h 203 = some (oI 6 kk)) (h204 : h 204 = some (oI 6 ka)) (h205 : h 205 = some (oI 6 kb)) (hv : 0 ≤ mv ∧ mv ≤ 40) (hwv : RowV (fmix (fun s => mm (304 * mv + s)) mw 304)) (hP : RuleHolds 109 0 0 (fmix (fun s => mm (304 * mv + s)) mw 304)) (hf : 6 ≤ mrc) : Ct g yX11_rule (.code yX11_rule cX11_rule 9 (some .int)) 7 0 0 [vR 200, vI 109, vI a9, vI b9] h ((fun r h' => r = .inl (some (vI 0)) ∧ ∃ f4 : Int → Int, h' = (hput (hput (hput (hput (hput h 200 (oO 10 [vR 201, vR 202, vR 203, vR 204, vR 205, vR 206, vR 207, vR 208, vR 209, vR 210, vR 211, vR 212, vR 213, vR 214, vR 215, vR 216, vR 217, vR 218, vI mv, vI mrc, vI mmc, vI mmk, vI mdv, vI mwl, vI mwa, vI mwp, vI 0])) 202 (oI 304 (fmix (fun s => mm (304 * mv + s)) mw 304))) 216 (oZ 64 f4)) 200 (oO 10 [vR 201, vR 202, vR 203, vR 204, vR 205, vR 206, vR 207, vR 208, vR 209, vR 210, vR 211, vR 212, vR 213, vR 214, vR 215, vR 216, vR 217, vR 218, vI mv, vI mrc, vI mmc, vI mmk, vI mdv, vI mwl, vI mwa, vI mwp, vI 0])) 200 (oO 10 [vR 201, vR 202, vR 203, vR 204, vR 205, vR 206, vR 207, vR 208, vR 209, vR 210, vR 211, vR 212, vR 213, vR 214, vR 215, vR 216, vR 217, vR 218, vI mv, vI mrc, vI mmc, vI mmk, vI mdv, vI mwl, vI mwa, vI mwp, vI 3])))) := by
  refine Ct.of (by decide) (Nat.le_of_ble_eq_true rfl) (fun x hg C F => ?_)
  subst hg
  show T x 0 [(0, vR 200), (1, vI 109), (2, vI a9), (3, vI b9)] [] h 0 0
  refine st_iload_n C 1 dX11_rule_0 rfl rfl ?_
  refine st_bipush C dX11_rule_1 (by decide) (by decide) ?_
  refine st_icmp_eq (tgt := 12) C dX11_rule_3 (by decide) (fun c_3 => by omega) (fun c_3 => ?_)
  refine st_iload_n C 1 dX11_rule_6 rfl rfl ?_
  refine st_bipush C dX11_rule_7 (by decide) (by decide) ?_
  refine st_icmp_ne (tgt := 16) C dX11_rule_9 (by decide) (fun c_9 => ?_) (fun c_9 => by omega)
  refine st_iconst C dX11_rule_16 (by decide) ?_
  refine st_istore C dX11_rule_17 (by decide) rfl ?_
  show T x 19 [(0, vR 200), (1, vI 109), (2, vI a9), (3, vI b9), (4, vI 0)] [] _ _ _
  refine st_iload_n C 1 dX11_rule_19 rfl rfl ?_
  refine st_bipush C dX11_rule_20 (by decide) (by decide) ?_
  refine st_icmp_eq (tgt := 31) C dX11_rule_22 (by decide) (fun c_22 => by omega) (fun c_22 => ?_)
  refine st_iload_n C 1 dX11_rule_25 rfl rfl ?_
  refine st_bipush C dX11_rule_26 (by decide) (by decide) ?_
  refine st_icmp_ne (tgt := 35) C dX11_rule_28 (by decide) (fun c_28 => ?_) (fun c_28 => by omega)
  refine st_iconst C dX11_rule_35 (by decide) ?_
  refine st_istore C dX11_rule_36 (by decide) rfl ?_
  show T x 38 [(0, vR 200), (1, vI 109), (2, vI a9), (3, vI b9), (4, vI 0), (5, vI 0)] [] _ _ _
  refine st_iload_n C 1 dX11_rule_38 rfl rfl ?_
  refine st_bipush C dX11_rule_39 (by decide) (by decide) ?_
  refine st_icmp_eq (tgt := 80) C dX11_rule_41 (by decide) (fun c_41 => ?_) (fun c_41 => by omega)
  refine st_iconst C dX11_rule_80 (by decide) ?_
  refine st_goto (tgt := 85) C dX11_rule_81 (by decide) ?_
  refine st_istore C dX11_rule_85 (by decide) rfl ?_
  show T x 87 [(0, vR 200), (1, vI 109), (2, vI a9), (3, vI b9), (4, vI 0), (5, vI 0), (6, vI 1)] [] _ _ _
  refine st_aload_n C 0 dX11_rule_87 rfl rfl ?_
  refine st_iload C dX11_rule_88 rfl ?_
  refine st_iconst C dX11_rule_90 (by decide) ?_
  refine st_callV (st := []) C dX11_rule_91 [vI 1, vI 1] (k_no_t (p9 := 1) hm) hm w_X11_112 rfl (by decide) (by decide) (by omega) (by omega) (Nat.le_of_ble_eq_true rfl) (ko_rt ?_)
  show T x 94 [(0, vR 200), (1, vI 109), (2, vI a9), (3, vI b9), (4, vI 0), (5, vI 0), (6, vI 1)] [vI 0] (hput h 200 (oO 10 [vR 201, vR 202, vR 203, vR 204, vR 205, vR 206, vR 207, vR 208, vR 209, vR 210, vR 211, vR 212, vR 213, vR 214, vR 215, vR 216, vR 217, vR 218, vI mv, vI mrc, vI mmc, vI mmk, vI mdv, vI mwl, vI mwa, vI mwp, vI 0])) _ _
  refine st_if_eq (tgt := 99) C dX11_rule_94 (by decide) (fun c_94 => ?_) (fun c_94 => by omega)
  refine st_iload_n C 1 dX11_rule_99 rfl rfl ?_
  refine st_bipush C dX11_rule_100 (by decide) (by decide) ?_
  refine st_icmp_ne (tgt := 109) C dX11_rule_102 (by decide) (fun c_102 => by omega) (fun c_102 => ?_)
  refine st_iconst C dX11_rule_105 (by decide) ?_
  refine st_goto (tgt := 110) C dX11_rule_106 (by decide) ?_
  refine st_istore C dX11_rule_110 (by decide) rfl ?_
  show T x 112 [(0, vR 200), (1, vI 109), (2, vI a9), (3, vI b9), (4, vI 0), (5, vI 0), (6, vI 1), (7, vI 0)] [] _ _ _
  refine st_iload C dX11_rule_112 rfl ?_
  refine st_if_eq (tgt := 121) C dX11_rule_114 (by decide) (fun c_114 => ?_) (fun c_114 => by omega)
  refine st_iconst C dX11_rule_121 (by decide) ?_
  refine st_istore C dX11_rule_122 (by decide) rfl ?_
  show T x 124 [(0, vR 200), (1, vI 109), (2, vI a9), (3, vI b9), (4, vI 0), (5, vI 0), (6, vI 1), (7, vI 0), (8, vI 0)] [] _ _ _
  refine st_aload_n C 0 dX11_rule_124 rfl rfl ?_
  refine st_callV (st := []) C dX11_rule_125 [] (k_take (mm := mm) hput_s (hput_o (by omega) hmm) hv (hput_o (by omega) h202)) hput_s w_X11_116 rfl (by decide) (by decide) (by omega) (by omega) (Nat.le_of_ble_eq_true rfl) (ko_rn ?_)
  show T x 128 [(0, vR 200), (1, vI 109), (2, vI a9), (3, vI b9), (4, vI 0), (5, vI 0), (6, vI 1), (7, vI 0), (8, vI 0)] [] (hput (hput h 200 (oO 10 [vR 201, vR 202, vR 203, vR 204, vR 205, vR 206, vR 207, vR 208, vR 209, vR 210, vR 211, vR 212, vR 213, vR 214, vR 215, vR 216, vR 217, vR 218, vI mv, vI mrc, vI mmc, vI mmk, vI mdv, vI mwl, vI mwa, vI mwp, vI 0])) 202 (oI 304 (fmix (fun s => mm (304 * mv + s)) mw 304))) _ _
  refine st_aload_n C 0 dX11_rule_128 rfl rfl ?_
  refine st_aload_n C 0 dX11_rule_129 rfl rfl ?_
  refine st_iload_n C 1 dX11_rule_130 rfl rfl ?_
  refine st_iload C dX11_rule_131 rfl ?_
  refine st_iload C dX11_rule_133 rfl ?_
  refine st_callV (st := [vR 200]) C dX11_rule_135 [vI 109, vI 0, vI 0] (k_keeps_t (f0 := f0) (mw := (fmix (fun s => mm (304 * mv + s)) mw 304)) (a9 := 0) (b9 := 0) (k9 := 109) (hput_o (by omega) hput_s) hput_s (by omega) (by omega) hwv (hput_o (by omega) (hput_o (by omega) h216)) (by omega) hP) (hput_o (by omega) hput_s) w_X11_119 rfl (by decide) (by decide) (by omega) (by omega) (Nat.le_of_ble_eq_true rfl) (ko_rz (fun f4 _ => ?_))
  show T x 138 [(0, vR 200), (1, vI 109), (2, vI a9), (3, vI b9), (4, vI 0), (5, vI 0), (6, vI 1), (7, vI 0), (8, vI 0)] [vI 1, vR 200] _ _ _
  refine st_iconst C dX11_rule_138 (by decide) ?_
  refine st_callV (st := []) C dX11_rule_139 [vI 1, vI 2] (k_no_t (p9 := 2) (hput_o (by decide) (hput_o (by omega) hput_s))) (hput_o (by decide) (hput_o (by omega) hput_s)) w_X11_112 rfl (by decide) (by decide) (by omega) (by omega) (Nat.le_of_ble_eq_true rfl) (ko_rt ?_)
  show T x 142 [(0, vR 200), (1, vI 109), (2, vI a9), (3, vI b9), (4, vI 0), (5, vI 0), (6, vI 1), (7, vI 0), (8, vI 0)] [vI 0] (hput (hput (hput (hput h 200 (oO 10 [vR 201, vR 202, vR 203, vR 204, vR 205, vR 206, vR 207, vR 208, vR 209, vR 210, vR 211, vR 212, vR 213, vR 214, vR 215, vR 216, vR 217, vR 218, vI mv, vI mrc, vI mmc, vI mmk, vI mdv, vI mwl, vI mwa, vI mwp, vI 0])) 202 (oI 304 (fmix (fun s => mm (304 * mv + s)) mw 304))) 216 (oZ 64 f4)) 200 (oO 10 [vR 201, vR 202, vR 203, vR 204, vR 205, vR 206, vR 207, vR 208, vR 209, vR 210, vR 211, vR 212, vR 213, vR 214, vR 215, vR 216, vR 217, vR 218, vI mv, vI mrc, vI mmc, vI mmk, vI mdv, vI mwl, vI mwa, vI mwp, vI 0])) _ _
  refine st_if_ne (tgt := 167) C dX11_rule_142 (by decide) (fun c_142 => by omega) (fun c_142 => ?_)
  refine st_aload_n C 0 dX11_rule_145 rfl rfl ?_
  refine st_aload_n C 0 dX11_rule_146 rfl rfl ?_
  refine st_getf C dX11_rule_147 fl_X11_122 hput_s rfl ?_
  refine st_bipush C dX11_rule_150 (by decide) (by decide) ?_
  refine st_icmp_ge (tgt := 159) C dX11_rule_152 (by decide) (fun c_152 => ?_) (fun c_152 => by omega)
  refine st_iconst C dX11_rule_159 (by decide) ?_
  refine st_iconst C dX11_rule_160 (by decide) ?_
  refine st_callV (st := []) C dX11_rule_161 [vI 0, vI 3] (k_no_f (p9 := 3) hput_s) hput_s w_X11_112 rfl (by decide) (by decide) (by omega) (by omega) (Nat.le_of_ble_eq_true rfl) (ko_rt ?_)
  show T x 164 [(0, vR 200), (1, vI 109), (2, vI a9), (3, vI b9), (4, vI 0), (5, vI 0), (6, vI 1), (7, vI 0), (8, vI 0)] [vI 1] (hput (hput (hput (hput (hput h 200 (oO 10 [vR 201, vR 202, vR 203, vR 204, vR 205, vR 206, vR 207, vR 208, vR 209, vR 210, vR 211, vR 212, vR 213, vR 214, vR 215, vR 216, vR 217, vR 218, vI mv, vI mrc, vI mmc, vI mmk, vI mdv, vI mwl, vI mwa, vI mwp, vI 0])) 202 (oI 304 (fmix (fun s => mm (304 * mv + s)) mw 304))) 216 (oZ 64 f4)) 200 (oO 10 [vR 201, vR 202, vR 203, vR 204, vR 205, vR 206, vR 207, vR 208, vR 209, vR 210, vR 211, vR 212, vR 213, vR 214, vR 215, vR 216, vR 217, vR 218, vI mv, vI mrc, vI mmc, vI mmk, vI mdv, vI mwl, vI mwa, vI mwp, vI 0])) 200 (oO 10 [vR 201, vR 202, vR 203, vR 204, vR 205, vR 206, vR 207, vR 208, vR 209, vR 210, vR 211, vR 212, vR 213, vR 214, vR 215, vR 216, vR 217, vR 218, vI mv, vI mrc, vI mmc, vI mmk, vI mdv, vI mwl, vI mwa, vI mwp, vI 3])) _ _
  refine st_if_eq (tgt := 169) C dX11_rule_164 (by decide) (fun c_164 => by omega) (fun c_164 => ?_)
  refine st_iconst C dX11_rule_167 (by decide) ?_
  exact st_ireturn C F dX11_rule_168 rfl (by first | exact ⟨by with_reducible rfl, f4, by with_reducible rfl⟩ | (exfalso; omega)) (by omega) (by omega)
set_option maxRecDepth 20000 in
set_option maxHeartbeats 4000000 in
theorem m_rulem {g : Gx} {h : HP} {mv mrc mmc mmk mdv mwl mwa mwp mth : Int} {mm : Int → Int} {mw : Int → Int} {f0 : Int → Int} {kk : Int → Int} {ka : Int → Int} {kb : Int → Int} {a9 b9 : Int} (hm : mO h mv mrc mmc mmk mdv mwl mwa mwp mth) (hmm : h 201 = some (oI 12464 mm)) (h202 : h 202 = some (oI 304 mw)) (h216 : h 216 = some (oZ 64 f0)) (h203 : h 203 = some (oI 6 kk)) (h204 : h 204 = some (oI 6 ka)) (h205 : h 205 = some (oI 6 kb)) (hv : 0 ≤ mv ∧ mv ≤ 40) (hwv : RowV (fmix (fun s => mm (304 * mv + s)) mw 304)) (hP : RuleHolds 109 0 0 (fmix (fun s => mm (304 * mv + s)) mw 304)) (hf : 0 ≤ mrc ∧ mrc ≤ 5) : Ct g yX11_rule (.code yX11_rule cX11_rule 9 (some .int)) 7 0 0 [vR 200, vI 109, vI a9, vI b9] h ((fun r h' => r = .inl (some (vI mrc)) ∧ ∃ f4 : Int → Int, h' = (hput (hput (hput (hput (hput (hput (hput (hput (hput h 200 (oO 10 [vR 201, vR 202, vR 203, vR 204, vR 205, vR 206, vR 207, vR 208, vR 209, vR 210, vR 211, vR 212, vR 213, vR 214, vR 215, vR 216, vR 217, vR 218, vI mv, vI mrc, vI mmc, vI mmk, vI mdv, vI mwl, vI mwa, vI mwp, vI 0])) 202 (oI 304 (fmix (fun s => mm (304 * mv + s)) mw 304))) 216 (oZ 64 f4)) 200 (oO 10 [vR 201, vR 202, vR 203, vR 204, vR 205, vR 206, vR 207, vR 208, vR 209, vR 210, vR 211, vR 212, vR 213, vR 214, vR 215, vR 216, vR 217, vR 218, vI mv, vI mrc, vI mmc, vI mmk, vI mdv, vI mwl, vI mwa, vI mwp, vI 0])) 200 (oO 10 [vR 201, vR 202, vR 203, vR 204, vR 205, vR 206, vR 207, vR 208, vR 209, vR 210, vR 211, vR 212, vR 213, vR 214, vR 215, vR 216, vR 217, vR 218, vI mv, vI mrc, vI mmc, vI mmk, vI mdv, vI mwl, vI mwa, vI mwp, vI 0])) 203 (oI 6 (fput kk mrc 109))) 204 (oI 6 (fput ka mrc 0))) 205 (oI 6 (fput kb mrc 0))) 200 (oO 10 [vR 201, vR 202, vR 203, vR 204, vR 205, vR 206, vR 207, vR 208, vR 209, vR 210, vR 211, vR 212, vR 213, vR 214, vR 215, vR 216, vR 217, vR 218, vI mv, vI (mrc + 1), vI mmc, vI mmk, vI mdv, vI mwl, vI mwa, vI mwp, vI 0])))) := by
  refine Ct.of (by decide) (Nat.le_of_ble_eq_true rfl) (fun x hg C F => ?_)
  subst hg
  show T x 0 [(0, vR 200), (1, vI 109), (2, vI a9), (3, vI b9)] [] h 0 0
  refine st_iload_n C 1 dX11_rule_0 rfl rfl ?_
  refine st_bipush C dX11_rule_1 (by decide) (by decide) ?_
  refine st_icmp_eq (tgt := 12) C dX11_rule_3 (by decide) (fun c_3 => by omega) (fun c_3 => ?_)
  refine st_iload_n C 1 dX11_rule_6 rfl rfl ?_
  refine st_bipush C dX11_rule_7 (by decide) (by decide) ?_
  refine st_icmp_ne (tgt := 16) C dX11_rule_9 (by decide) (fun c_9 => ?_) (fun c_9 => by omega)
  refine st_iconst C dX11_rule_16 (by decide) ?_
  refine st_istore C dX11_rule_17 (by decide) rfl ?_
  show T x 19 [(0, vR 200), (1, vI 109), (2, vI a9), (3, vI b9), (4, vI 0)] [] _ _ _
  refine st_iload_n C 1 dX11_rule_19 rfl rfl ?_
  refine st_bipush C dX11_rule_20 (by decide) (by decide) ?_
  refine st_icmp_eq (tgt := 31) C dX11_rule_22 (by decide) (fun c_22 => by omega) (fun c_22 => ?_)
  refine st_iload_n C 1 dX11_rule_25 rfl rfl ?_
  refine st_bipush C dX11_rule_26 (by decide) (by decide) ?_
  refine st_icmp_ne (tgt := 35) C dX11_rule_28 (by decide) (fun c_28 => ?_) (fun c_28 => by omega)
  refine st_iconst C dX11_rule_35 (by decide) ?_
  refine st_istore C dX11_rule_36 (by decide) rfl ?_
  show T x 38 [(0, vR 200), (1, vI 109), (2, vI a9), (3, vI b9), (4, vI 0), (5, vI 0)] [] _ _ _
  refine st_iload_n C 1 dX11_rule_38 rfl rfl ?_
  refine st_bipush C dX11_rule_39 (by decide) (by decide) ?_
  refine st_icmp_eq (tgt := 80) C dX11_rule_41 (by decide) (fun c_41 => ?_) (fun c_41 => by omega)
  refine st_iconst C dX11_rule_80 (by decide) ?_
  refine st_goto (tgt := 85) C dX11_rule_81 (by decide) ?_
  refine st_istore C dX11_rule_85 (by decide) rfl ?_
  show T x 87 [(0, vR 200), (1, vI 109), (2, vI a9), (3, vI b9), (4, vI 0), (5, vI 0), (6, vI 1)] [] _ _ _
  refine st_aload_n C 0 dX11_rule_87 rfl rfl ?_
  refine st_iload C dX11_rule_88 rfl ?_
  refine st_iconst C dX11_rule_90 (by decide) ?_
  refine st_callV (st := []) C dX11_rule_91 [vI 1, vI 1] (k_no_t (p9 := 1) hm) hm w_X11_112 rfl (by decide) (by decide) (by omega) (by omega) (Nat.le_of_ble_eq_true rfl) (ko_rt ?_)
  show T x 94 [(0, vR 200), (1, vI 109), (2, vI a9), (3, vI b9), (4, vI 0), (5, vI 0), (6, vI 1)] [vI 0] (hput h 200 (oO 10 [vR 201, vR 202, vR 203, vR 204, vR 205, vR 206, vR 207, vR 208, vR 209, vR 210, vR 211, vR 212, vR 213, vR 214, vR 215, vR 216, vR 217, vR 218, vI mv, vI mrc, vI mmc, vI mmk, vI mdv, vI mwl, vI mwa, vI mwp, vI 0])) _ _
  refine st_if_eq (tgt := 99) C dX11_rule_94 (by decide) (fun c_94 => ?_) (fun c_94 => by omega)
  refine st_iload_n C 1 dX11_rule_99 rfl rfl ?_
  refine st_bipush C dX11_rule_100 (by decide) (by decide) ?_
  refine st_icmp_ne (tgt := 109) C dX11_rule_102 (by decide) (fun c_102 => by omega) (fun c_102 => ?_)
  refine st_iconst C dX11_rule_105 (by decide) ?_
  refine st_goto (tgt := 110) C dX11_rule_106 (by decide) ?_
  refine st_istore C dX11_rule_110 (by decide) rfl ?_
  show T x 112 [(0, vR 200), (1, vI 109), (2, vI a9), (3, vI b9), (4, vI 0), (5, vI 0), (6, vI 1), (7, vI 0)] [] _ _ _
  refine st_iload C dX11_rule_112 rfl ?_
  refine st_if_eq (tgt := 121) C dX11_rule_114 (by decide) (fun c_114 => ?_) (fun c_114 => by omega)
  refine st_iconst C dX11_rule_121 (by decide) ?_
  refine st_istore C dX11_rule_122 (by decide) rfl ?_
  show T x 124 [(0, vR 200), (1, vI 109), (2, vI a9), (3, vI b9), (4, vI 0), (5, vI 0), (6, vI 1), (7, vI 0), (8, vI 0)] [] _ _ _
  refine st_aload_n C 0 dX11_rule_124 rfl rfl ?_
  refine st_callV (st := []) C dX11_rule_125 [] (k_take (mm := mm) hput_s (hput_o (by omega) hmm) hv (hput_o (by omega) h202)) hput_s w_X11_116 rfl (by decide) (by decide) (by omega) (by omega) (Nat.le_of_ble_eq_true rfl) (ko_rn ?_)
  show T x 128 [(0, vR 200), (1, vI 109), (2, vI a9), (3, vI b9), (4, vI 0), (5, vI 0), (6, vI 1), (7, vI 0), (8, vI 0)] [] (hput (hput h 200 (oO 10 [vR 201, vR 202, vR 203, vR 204, vR 205, vR 206, vR 207, vR 208, vR 209, vR 210, vR 211, vR 212, vR 213, vR 214, vR 215, vR 216, vR 217, vR 218, vI mv, vI mrc, vI mmc, vI mmk, vI mdv, vI mwl, vI mwa, vI mwp, vI 0])) 202 (oI 304 (fmix (fun s => mm (304 * mv + s)) mw 304))) _ _
  refine st_aload_n C 0 dX11_rule_128 rfl rfl ?_
  refine st_aload_n C 0 dX11_rule_129 rfl rfl ?_
  refine st_iload_n C 1 dX11_rule_130 rfl rfl ?_
  refine st_iload C dX11_rule_131 rfl ?_
  refine st_iload C dX11_rule_133 rfl ?_
  refine st_callV (st := [vR 200]) C dX11_rule_135 [vI 109, vI 0, vI 0] (k_keeps_t (f0 := f0) (mw := (fmix (fun s => mm (304 * mv + s)) mw 304)) (a9 := 0) (b9 := 0) (k9 := 109) (hput_o (by omega) hput_s) hput_s (by omega) (by omega) hwv (hput_o (by omega) (hput_o (by omega) h216)) (by omega) hP) (hput_o (by omega) hput_s) w_X11_119 rfl (by decide) (by decide) (by omega) (by omega) (Nat.le_of_ble_eq_true rfl) (ko_rz (fun f4 _ => ?_))
  show T x 138 [(0, vR 200), (1, vI 109), (2, vI a9), (3, vI b9), (4, vI 0), (5, vI 0), (6, vI 1), (7, vI 0), (8, vI 0)] [vI 1, vR 200] _ _ _
  refine st_iconst C dX11_rule_138 (by decide) ?_
  refine st_callV (st := []) C dX11_rule_139 [vI 1, vI 2] (k_no_t (p9 := 2) (hput_o (by decide) (hput_o (by omega) hput_s))) (hput_o (by decide) (hput_o (by omega) hput_s)) w_X11_112 rfl (by decide) (by decide) (by omega) (by omega) (Nat.le_of_ble_eq_true rfl) (ko_rt ?_)
  show T x 142 [(0, vR 200), (1, vI 109), (2, vI a9), (3, vI b9), (4, vI 0), (5, vI 0), (6, vI 1), (7, vI 0), (8, vI 0)] [vI 0] (hput (hput (hput (hput h 200 (oO 10 [vR 201, vR 202, vR 203, vR 204, vR 205, vR 206, vR 207, vR 208, vR 209, vR 210, vR 211, vR 212, vR 213, vR 214, vR 215, vR 216, vR 217, vR 218, vI mv, vI mrc, vI mmc, vI mmk, vI mdv, vI mwl, vI mwa, vI mwp, vI 0])) 202 (oI 304 (fmix (fun s => mm (304 * mv + s)) mw 304))) 216 (oZ 64 f4)) 200 (oO 10 [vR 201, vR 202, vR 203, vR 204, vR 205, vR 206, vR 207, vR 208, vR 209, vR 210, vR 211, vR 212, vR 213, vR 214, vR 215, vR 216, vR 217, vR 218, vI mv, vI mrc, vI mmc, vI mmk, vI mdv, vI mwl, vI mwa, vI mwp, vI 0])) _ _
  refine st_if_ne (tgt := 167) C dX11_rule_142 (by decide) (fun c_142 => by omega) (fun c_142 => ?_)
  refine st_aload_n C 0 dX11_rule_145 rfl rfl ?_
  refine st_aload_n C 0 dX11_rule_146 rfl rfl ?_
  refine st_getf C dX11_rule_147 fl_X11_122 hput_s rfl ?_
  refine st_bipush C dX11_rule_150 (by decide) (by decide) ?_
  refine st_icmp_ge (tgt := 159) C dX11_rule_152 (by decide) (fun c_152 => by omega) (fun c_152 => ?_)
  refine st_iconst C dX11_rule_155 (by decide) ?_
  refine st_goto (tgt := 160) C dX11_rule_156 (by decide) ?_
  refine st_iconst C dX11_rule_160 (by decide) ?_
  refine st_callV (st := []) C dX11_rule_161 [vI 1, vI 3] (k_no_t (p9 := 3) hput_s) hput_s w_X11_112 rfl (by decide) (by decide) (by omega) (by omega) (Nat.le_of_ble_eq_true rfl) (ko_rt ?_)
  show T x 164 [(0, vR 200), (1, vI 109), (2, vI a9), (3, vI b9), (4, vI 0), (5, vI 0), (6, vI 1), (7, vI 0), (8, vI 0)] [vI 0] (hput (hput (hput (hput (hput h 200 (oO 10 [vR 201, vR 202, vR 203, vR 204, vR 205, vR 206, vR 207, vR 208, vR 209, vR 210, vR 211, vR 212, vR 213, vR 214, vR 215, vR 216, vR 217, vR 218, vI mv, vI mrc, vI mmc, vI mmk, vI mdv, vI mwl, vI mwa, vI mwp, vI 0])) 202 (oI 304 (fmix (fun s => mm (304 * mv + s)) mw 304))) 216 (oZ 64 f4)) 200 (oO 10 [vR 201, vR 202, vR 203, vR 204, vR 205, vR 206, vR 207, vR 208, vR 209, vR 210, vR 211, vR 212, vR 213, vR 214, vR 215, vR 216, vR 217, vR 218, vI mv, vI mrc, vI mmc, vI mmk, vI mdv, vI mwl, vI mwa, vI mwp, vI 0])) 200 (oO 10 [vR 201, vR 202, vR 203, vR 204, vR 205, vR 206, vR 207, vR 208, vR 209, vR 210, vR 211, vR 212, vR 213, vR 214, vR 215, vR 216, vR 217, vR 218, vI mv, vI mrc, vI mmc, vI mmk, vI mdv, vI mwl, vI mwa, vI mwp, vI 0])) _ _
  refine st_if_eq (tgt := 169) C dX11_rule_164 (by decide) (fun c_164 => ?_) (fun c_164 => by omega)
  refine st_aload_n C 0 dX11_rule_169 rfl rfl ?_
  refine st_getf C dX11_rule_170 fl_X11_16 hput_s rfl ?_
  refine st_aload_n C 0 dX11_rule_173 rfl rfl ?_
  refine st_getf C dX11_rule_174 fl_X11_122 hput_s rfl ?_
  refine st_iload_n C 1 dX11_rule_177 rfl rfl ?_
  refine st_iast C dX11_rule_178 (hput_o (by omega) (hput_o (by omega) (hput_o (by decide) (hput_o (by omega) (hput_o (by omega) h203))))) (by omega) (by omega) ?_
  refine st_aload_n C 0 dX11_rule_179 rfl rfl ?_
  refine st_getf C dX11_rule_180 fl_X11_19 (hput_o (by omega) hput_s) rfl ?_
  refine st_aload_n C 0 dX11_rule_183 rfl rfl ?_
  refine st_getf C dX11_rule_184 fl_X11_122 (hput_o (by omega) hput_s) rfl ?_
  refine st_iload C dX11_rule_187 rfl ?_
  refine st_iast C dX11_rule_189 (hput_o (by omega) (hput_o (by omega) (hput_o (by omega) (hput_o (by decide) (hput_o (by omega) (hput_o (by omega) h204)))))) (by omega) (by omega) ?_
  refine st_aload_n C 0 dX11_rule_190 rfl rfl ?_
  refine st_getf C dX11_rule_191 fl_X11_22 (hput_o (by omega) (hput_o (by omega) hput_s)) rfl ?_
  refine st_aload_n C 0 dX11_rule_194 rfl rfl ?_
  refine st_getf C dX11_rule_195 fl_X11_122 (hput_o (by omega) (hput_o (by omega) hput_s)) rfl ?_
  refine st_iload C dX11_rule_198 rfl ?_
  refine st_iast C dX11_rule_200 (hput_o (by omega) (hput_o (by omega) (hput_o (by omega) (hput_o (by omega) (hput_o (by decide) (hput_o (by omega) (hput_o (by omega) h205))))))) (by omega) (by omega) ?_
  refine st_aload_n C 0 dX11_rule_201 rfl rfl ?_
  refine st_dup C dX11_rule_202 rfl ?_
  refine st_getf C dX11_rule_203 fl_X11_122 (hput_o (by omega) (hput_o (by omega) (hput_o (by omega) hput_s))) rfl ?_
  refine st_iconst C dX11_rule_206 (by decide) ?_
  refine st_iadd C dX11_rule_207 ⟨(by omega), (by omega)⟩ ?_
  refine st_putf C dX11_rule_208 fp_X11_122 (fun q => by cases q) (hput_o (by omega) (hput_o (by omega) (hput_o (by omega) hput_s))) (Nat.le_of_ble_eq_true rfl) fit_int ?_
  show T x 211 [(0, vR 200), (1, vI 109), (2, vI a9), (3, vI b9), (4, vI 0), (5, vI 0), (6, vI 1), (7, vI 0), (8, vI 0)] [] (hput (hput (hput (hput (hput (hput (hput (hput (hput h 200 (oO 10 [vR 201, vR 202, vR 203, vR 204, vR 205, vR 206, vR 207, vR 208, vR 209, vR 210, vR 211, vR 212, vR 213, vR 214, vR 215, vR 216, vR 217, vR 218, vI mv, vI mrc, vI mmc, vI mmk, vI mdv, vI mwl, vI mwa, vI mwp, vI 0])) 202 (oI 304 (fmix (fun s => mm (304 * mv + s)) mw 304))) 216 (oZ 64 f4)) 200 (oO 10 [vR 201, vR 202, vR 203, vR 204, vR 205, vR 206, vR 207, vR 208, vR 209, vR 210, vR 211, vR 212, vR 213, vR 214, vR 215, vR 216, vR 217, vR 218, vI mv, vI mrc, vI mmc, vI mmk, vI mdv, vI mwl, vI mwa, vI mwp, vI 0])) 200 (oO 10 [vR 201, vR 202, vR 203, vR 204, vR 205, vR 206, vR 207, vR 208, vR 209, vR 210, vR 211, vR 212, vR 213, vR 214, vR 215, vR 216, vR 217, vR 218, vI mv, vI mrc, vI mmc, vI mmk, vI mdv, vI mwl, vI mwa, vI mwp, vI 0])) 203 (oI 6 (fput kk mrc 109))) 204 (oI 6 (fput ka mrc 0))) 205 (oI 6 (fput kb mrc 0))) 200 (oO 10 [vR 201, vR 202, vR 203, vR 204, vR 205, vR 206, vR 207, vR 208, vR 209, vR 210, vR 211, vR 212, vR 213, vR 214, vR 215, vR 216, vR 217, vR 218, vI mv, vI (mrc + 1), vI mmc, vI mmk, vI mdv, vI mwl, vI mwa, vI mwp, vI 0])) _ _
  refine st_aload_n C 0 dX11_rule_211 rfl rfl ?_
  refine st_getf C dX11_rule_212 fl_X11_122 hput_s rfl ?_
  refine st_iconst C dX11_rule_215 (by decide) ?_
  refine st_isub C dX11_rule_216 ⟨(by omega), (by omega)⟩ ?_
  exact st_ireturn C F dX11_rule_217 rfl (by first | (rw [show mrc + 1 - 1 = mrc by omega]; exact ⟨by with_reducible rfl, f4, by with_reducible rfl⟩) | (exfalso; omega)) (by omega) (by omega)
set_option maxRecDepth 20000 in
set_option maxHeartbeats 4000000 in
theorem m_rulew_x2 {g : Gx} {h : HP} {mv mrc mmc mmk mdv mwl mwa mwp mth : Int} {mm : Int → Int} {mw : Int → Int} {f0 : Int → Int} {kk : Int → Int} {ka : Int → Int} {kb : Int → Int} {a9 b9 : Int} (hm : mO h mv mrc mmc mmk mdv mwl mwa mwp mth) (hmm : h 201 = some (oI 12464 mm)) (h202 : h 202 = some (oI 304 mw)) (h216 : h 216 = some (oZ 64 f0)) (h203 : h 203 = some (oI 6 kk)) (h204 : h 204 = some (oI 6 ka)) (h205 : h 205 = some (oI 6 kb)) (hv : 0 ≤ mv ∧ mv ≤ 40) (hl : 0 ≤ a9 ∧ a9 ≤ 2) (hwv : RowV (fmix (fun s => mm (304 * mv + s)) mw 304)) (hP : ¬ RuleHolds 119 a9 0 (fmix (fun s => mm (304 * mv + s)) mw 304)) : Ct g yX11_rule (.code yX11_rule cX11_rule 9 (some .int)) 7 0 0 [vR 200, vI 119, vI a9, vI b9] h ((fun r h' => r = .inl (some (vI 0)) ∧ ∃ f4 : Int → Int, h' = (hput (hput (hput (hput h 200 (oO 10 [vR 201, vR 202, vR 203, vR 204, vR 205, vR 206, vR 207, vR 208, vR 209, vR 210, vR 211, vR 212, vR 213, vR 214, vR 215, vR 216, vR 217, vR 218, vI mv, vI mrc, vI mmc, vI mmk, vI mdv, vI mwl, vI mwa, vI mwp, vI 0])) 202 (oI 304 (fmix (fun s => mm (304 * mv + s)) mw 304))) 216 (oZ 64 f4)) 200 (oO 10 [vR 201, vR 202, vR 203, vR 204, vR 205, vR 206, vR 207, vR 208, vR 209, vR 210, vR 211, vR 212, vR 213, vR 214, vR 215, vR 216, vR 217, vR 218, vI mv, vI mrc, vI mmc, vI mmk, vI mdv, vI mwl, vI mwa, vI mwp, vI 2])))) := by
  refine Ct.of (by decide) (Nat.le_of_ble_eq_true rfl) (fun x hg C F => ?_)
  subst hg
  show T x 0 [(0, vR 200), (1, vI 119), (2, vI a9), (3, vI b9)] [] h 0 0
  refine st_iload_n C 1 dX11_rule_0 rfl rfl ?_
  refine st_bipush C dX11_rule_1 (by decide) (by decide) ?_
  refine st_icmp_eq (tgt := 12) C dX11_rule_3 (by decide) (fun c_3 => by omega) (fun c_3 => ?_)
  refine st_iload_n C 1 dX11_rule_6 rfl rfl ?_
  refine st_bipush C dX11_rule_7 (by decide) (by decide) ?_
  refine st_icmp_ne (tgt := 16) C dX11_rule_9 (by decide) (fun c_9 => ?_) (fun c_9 => by omega)
  refine st_iconst C dX11_rule_16 (by decide) ?_
  refine st_istore C dX11_rule_17 (by decide) rfl ?_
  show T x 19 [(0, vR 200), (1, vI 119), (2, vI a9), (3, vI b9), (4, vI 0)] [] _ _ _
  refine st_iload_n C 1 dX11_rule_19 rfl rfl ?_
  refine st_bipush C dX11_rule_20 (by decide) (by decide) ?_
  refine st_icmp_eq (tgt := 31) C dX11_rule_22 (by decide) (fun c_22 => by omega) (fun c_22 => ?_)
  refine st_iload_n C 1 dX11_rule_25 rfl rfl ?_
  refine st_bipush C dX11_rule_26 (by decide) (by decide) ?_
  refine st_icmp_ne (tgt := 35) C dX11_rule_28 (by decide) (fun c_28 => by omega) (fun c_28 => ?_)
  refine st_iconst C dX11_rule_31 (by decide) ?_
  refine st_goto (tgt := 36) C dX11_rule_32 (by decide) ?_
  refine st_istore C dX11_rule_36 (by decide) rfl ?_
  show T x 38 [(0, vR 200), (1, vI 119), (2, vI a9), (3, vI b9), (4, vI 0), (5, vI 1)] [] _ _ _
  refine st_iload_n C 1 dX11_rule_38 rfl rfl ?_
  refine st_bipush C dX11_rule_39 (by decide) (by decide) ?_
  refine st_icmp_eq (tgt := 80) C dX11_rule_41 (by decide) (fun c_41 => by omega) (fun c_41 => ?_)
  refine st_iload C dX11_rule_44 rfl ?_
  refine st_if_eq (tgt := 56) C dX11_rule_46 (by decide) (fun c_46 => by omega) (fun c_46 => ?_)
  refine st_iload_n C 2 dX11_rule_49 rfl rfl ?_
  have b_50 : 0 ≤ a9 ∧ a9 ≤ 2 := by omega
  refine st_callS (st := []) C dX11_rule_50 [vI a9] (k_mLayer_t (v9 := a9)  b_50) w_X11_108 rfl (by decide) (by decide) (by omega) (by omega) (Nat.le_of_ble_eq_true rfl) (ko_rt ?_)
  show T x 53 [(0, vR 200), (1, vI 119), (2, vI a9), (3, vI b9), (4, vI 0), (5, vI 1)] [vI 1] _ _ _
  refine st_if_ne (tgt := 80) C dX11_rule_53 (by decide) (fun c_53 => ?_) (fun c_53 => by omega)
  refine st_iconst C dX11_rule_80 (by decide) ?_
  refine st_goto (tgt := 85) C dX11_rule_81 (by decide) ?_
  refine st_istore C dX11_rule_85 (by decide) rfl ?_
  show T x 87 [(0, vR 200), (1, vI 119), (2, vI a9), (3, vI b9), (4, vI 0), (5, vI 1), (6, vI 1)] [] _ _ _
  refine st_aload_n C 0 dX11_rule_87 rfl rfl ?_
  refine st_iload C dX11_rule_88 rfl ?_
  refine st_iconst C dX11_rule_90 (by decide) ?_
  refine st_callV (st := []) C dX11_rule_91 [vI 1, vI 1] (k_no_t (p9 := 1) hm) hm w_X11_112 rfl (by decide) (by decide) (by omega) (by omega) (Nat.le_of_ble_eq_true rfl) (ko_rt ?_)
  show T x 94 [(0, vR 200), (1, vI 119), (2, vI a9), (3, vI b9), (4, vI 0), (5, vI 1), (6, vI 1)] [vI 0] (hput h 200 (oO 10 [vR 201, vR 202, vR 203, vR 204, vR 205, vR 206, vR 207, vR 208, vR 209, vR 210, vR 211, vR 212, vR 213, vR 214, vR 215, vR 216, vR 217, vR 218, vI mv, vI mrc, vI mmc, vI mmk, vI mdv, vI mwl, vI mwa, vI mwp, vI 0])) _ _
  refine st_if_eq (tgt := 99) C dX11_rule_94 (by decide) (fun c_94 => ?_) (fun c_94 => by omega)
  refine st_iload_n C 1 dX11_rule_99 rfl rfl ?_
  refine st_bipush C dX11_rule_100 (by decide) (by decide) ?_
  refine st_icmp_ne (tgt := 109) C dX11_rule_102 (by decide) (fun c_102 => ?_) (fun c_102 => by omega)
  refine st_iload_n C 2 dX11_rule_109 rfl rfl ?_
  refine st_istore C dX11_rule_110 (by decide) rfl ?_
  show T x 112 [(0, vR 200), (1, vI 119), (2, vI a9), (3, vI b9), (4, vI 0), (5, vI 1), (6, vI 1), (7, vI a9)] [] _ _ _
  refine st_iload C dX11_rule_112 rfl ?_
  refine st_if_eq (tgt := 121) C dX11_rule_114 (by decide) (fun c_114 => ?_) (fun c_114 => by omega)
  refine st_iconst C dX11_rule_121 (by decide) ?_
  refine st_istore C dX11_rule_122 (by decide) rfl ?_
  show T x 124 [(0, vR 200), (1, vI 119), (2, vI a9), (3, vI b9), (4, vI 0), (5, vI 1), (6, vI 1), (7, vI a9), (8, vI 0)] [] _ _ _
  refine st_aload_n C 0 dX11_rule_124 rfl rfl ?_
  refine st_callV (st := []) C dX11_rule_125 [] (k_take (mm := mm) hput_s (hput_o (by omega) hmm) hv (hput_o (by omega) h202)) hput_s w_X11_116 rfl (by decide) (by decide) (by omega) (by omega) (Nat.le_of_ble_eq_true rfl) (ko_rn ?_)
  show T x 128 [(0, vR 200), (1, vI 119), (2, vI a9), (3, vI b9), (4, vI 0), (5, vI 1), (6, vI 1), (7, vI a9), (8, vI 0)] [] (hput (hput h 200 (oO 10 [vR 201, vR 202, vR 203, vR 204, vR 205, vR 206, vR 207, vR 208, vR 209, vR 210, vR 211, vR 212, vR 213, vR 214, vR 215, vR 216, vR 217, vR 218, vI mv, vI mrc, vI mmc, vI mmk, vI mdv, vI mwl, vI mwa, vI mwp, vI 0])) 202 (oI 304 (fmix (fun s => mm (304 * mv + s)) mw 304))) _ _
  refine st_aload_n C 0 dX11_rule_128 rfl rfl ?_
  refine st_aload_n C 0 dX11_rule_129 rfl rfl ?_
  refine st_iload_n C 1 dX11_rule_130 rfl rfl ?_
  refine st_iload C dX11_rule_131 rfl ?_
  refine st_iload C dX11_rule_133 rfl ?_
  refine st_callV (st := [vR 200]) C dX11_rule_135 [vI 119, vI a9, vI 0] (k_keeps_f (f0 := f0) (mw := (fmix (fun s => mm (304 * mv + s)) mw 304)) (a9 := a9) (b9 := 0) (k9 := 119) (hput_o (by omega) hput_s) hput_s (by omega) (by omega) hwv (hput_o (by omega) (hput_o (by omega) h216)) (by omega) hP) (hput_o (by omega) hput_s) w_X11_119 rfl (by decide) (by decide) (by omega) (by omega) (Nat.le_of_ble_eq_true rfl) (ko_rz (fun f4 _ => ?_))
  show T x 138 [(0, vR 200), (1, vI 119), (2, vI a9), (3, vI b9), (4, vI 0), (5, vI 1), (6, vI 1), (7, vI a9), (8, vI 0)] [vI 0, vR 200] _ _ _
  refine st_iconst C dX11_rule_138 (by decide) ?_
  refine st_callV (st := []) C dX11_rule_139 [vI 0, vI 2] (k_no_f (p9 := 2) (hput_o (by decide) (hput_o (by omega) hput_s))) (hput_o (by decide) (hput_o (by omega) hput_s)) w_X11_112 rfl (by decide) (by decide) (by omega) (by omega) (Nat.le_of_ble_eq_true rfl) (ko_rt ?_)
  show T x 142 [(0, vR 200), (1, vI 119), (2, vI a9), (3, vI b9), (4, vI 0), (5, vI 1), (6, vI 1), (7, vI a9), (8, vI 0)] [vI 1] (hput (hput (hput (hput h 200 (oO 10 [vR 201, vR 202, vR 203, vR 204, vR 205, vR 206, vR 207, vR 208, vR 209, vR 210, vR 211, vR 212, vR 213, vR 214, vR 215, vR 216, vR 217, vR 218, vI mv, vI mrc, vI mmc, vI mmk, vI mdv, vI mwl, vI mwa, vI mwp, vI 0])) 202 (oI 304 (fmix (fun s => mm (304 * mv + s)) mw 304))) 216 (oZ 64 f4)) 200 (oO 10 [vR 201, vR 202, vR 203, vR 204, vR 205, vR 206, vR 207, vR 208, vR 209, vR 210, vR 211, vR 212, vR 213, vR 214, vR 215, vR 216, vR 217, vR 218, vI mv, vI mrc, vI mmc, vI mmk, vI mdv, vI mwl, vI mwa, vI mwp, vI 2])) _ _
  refine st_if_ne (tgt := 167) C dX11_rule_142 (by decide) (fun c_142 => ?_) (fun c_142 => by omega)
  refine st_iconst C dX11_rule_167 (by decide) ?_
  exact st_ireturn C F dX11_rule_168 rfl (by first | exact ⟨by with_reducible rfl, f4, by with_reducible rfl⟩ | (exfalso; omega)) (by omega) (by omega)
set_option maxRecDepth 20000 in
set_option maxHeartbeats 4000000 in
theorem m_rulew_x3 {g : Gx} {h : HP} {mv mrc mmc mmk mdv mwl mwa mwp mth : Int} {mm : Int → Int} {mw : Int → Int} {f0 : Int → Int} {kk : Int → Int} {ka : Int → Int} {kb : Int → Int} {a9 b9 : Int} (hm : mO h mv mrc mmc mmk mdv mwl mwa mwp mth) (hmm : h 201 = some (oI 12464 mm)) (h202 : h 202 = some (oI 304 mw)) (h216 : h 216 = some (oZ 64 f0)) (h203 : h 203 = some (oI 6 kk)) (h204 : h 204 = some (oI 6 ka)) (h205 : h 205 = some (oI 6 kb)) (hv : 0 ≤ mv ∧ mv ≤ 40) (hl : 0 ≤ a9 ∧ a9 ≤ 2) (hwv : RowV (fmix (fun s => mm (304 * mv + s)) mw 304)) (hP : RuleHolds 119 a9 0 (fmix (fun s => mm (304 * mv + s)) mw 304)) (hf : 6 ≤ mrc) : Ct g yX11_rule (.code yX11_rule cX11_rule 9 (some .int)) 7 0 0 [vR 200, vI 119, vI a9, vI b9] h ((fun r h' => r = .inl (some (vI 0)) ∧ ∃ f4 : Int → Int, h' = (hput (hput (hput (hput (hput h 200 (oO 10 [vR 201, vR 202, vR 203, vR 204, vR 205, vR 206, vR 207, vR 208, vR 209, vR 210, vR 211, vR 212, vR 213, vR 214, vR 215, vR 216, vR 217, vR 218, vI mv, vI mrc, vI mmc, vI mmk, vI mdv, vI mwl, vI mwa, vI mwp, vI 0])) 202 (oI 304 (fmix (fun s => mm (304 * mv + s)) mw 304))) 216 (oZ 64 f4)) 200 (oO 10 [vR 201, vR 202, vR 203, vR 204, vR 205, vR 206, vR 207, vR 208, vR 209, vR 210, vR 211, vR 212, vR 213, vR 214, vR 215, vR 216, vR 217, vR 218, vI mv, vI mrc, vI mmc, vI mmk, vI mdv, vI mwl, vI mwa, vI mwp, vI 0])) 200 (oO 10 [vR 201, vR 202, vR 203, vR 204, vR 205, vR 206, vR 207, vR 208, vR 209, vR 210, vR 211, vR 212, vR 213, vR 214, vR 215, vR 216, vR 217, vR 218, vI mv, vI mrc, vI mmc, vI mmk, vI mdv, vI mwl, vI mwa, vI mwp, vI 3])))) := by
  refine Ct.of (by decide) (Nat.le_of_ble_eq_true rfl) (fun x hg C F => ?_)
  subst hg
  show T x 0 [(0, vR 200), (1, vI 119), (2, vI a9), (3, vI b9)] [] h 0 0
  refine st_iload_n C 1 dX11_rule_0 rfl rfl ?_
  refine st_bipush C dX11_rule_1 (by decide) (by decide) ?_
  refine st_icmp_eq (tgt := 12) C dX11_rule_3 (by decide) (fun c_3 => by omega) (fun c_3 => ?_)
  refine st_iload_n C 1 dX11_rule_6 rfl rfl ?_
  refine st_bipush C dX11_rule_7 (by decide) (by decide) ?_
  refine st_icmp_ne (tgt := 16) C dX11_rule_9 (by decide) (fun c_9 => ?_) (fun c_9 => by omega)
  refine st_iconst C dX11_rule_16 (by decide) ?_
  refine st_istore C dX11_rule_17 (by decide) rfl ?_
  show T x 19 [(0, vR 200), (1, vI 119), (2, vI a9), (3, vI b9), (4, vI 0)] [] _ _ _
  refine st_iload_n C 1 dX11_rule_19 rfl rfl ?_
  refine st_bipush C dX11_rule_20 (by decide) (by decide) ?_
  refine st_icmp_eq (tgt := 31) C dX11_rule_22 (by decide) (fun c_22 => by omega) (fun c_22 => ?_)
  refine st_iload_n C 1 dX11_rule_25 rfl rfl ?_
  refine st_bipush C dX11_rule_26 (by decide) (by decide) ?_
  refine st_icmp_ne (tgt := 35) C dX11_rule_28 (by decide) (fun c_28 => by omega) (fun c_28 => ?_)
  refine st_iconst C dX11_rule_31 (by decide) ?_
  refine st_goto (tgt := 36) C dX11_rule_32 (by decide) ?_
  refine st_istore C dX11_rule_36 (by decide) rfl ?_
  show T x 38 [(0, vR 200), (1, vI 119), (2, vI a9), (3, vI b9), (4, vI 0), (5, vI 1)] [] _ _ _
  refine st_iload_n C 1 dX11_rule_38 rfl rfl ?_
  refine st_bipush C dX11_rule_39 (by decide) (by decide) ?_
  refine st_icmp_eq (tgt := 80) C dX11_rule_41 (by decide) (fun c_41 => by omega) (fun c_41 => ?_)
  refine st_iload C dX11_rule_44 rfl ?_
  refine st_if_eq (tgt := 56) C dX11_rule_46 (by decide) (fun c_46 => by omega) (fun c_46 => ?_)
  refine st_iload_n C 2 dX11_rule_49 rfl rfl ?_
  have b_50 : 0 ≤ a9 ∧ a9 ≤ 2 := by omega
  refine st_callS (st := []) C dX11_rule_50 [vI a9] (k_mLayer_t (v9 := a9)  b_50) w_X11_108 rfl (by decide) (by decide) (by omega) (by omega) (Nat.le_of_ble_eq_true rfl) (ko_rt ?_)
  show T x 53 [(0, vR 200), (1, vI 119), (2, vI a9), (3, vI b9), (4, vI 0), (5, vI 1)] [vI 1] _ _ _
  refine st_if_ne (tgt := 80) C dX11_rule_53 (by decide) (fun c_53 => ?_) (fun c_53 => by omega)
  refine st_iconst C dX11_rule_80 (by decide) ?_
  refine st_goto (tgt := 85) C dX11_rule_81 (by decide) ?_
  refine st_istore C dX11_rule_85 (by decide) rfl ?_
  show T x 87 [(0, vR 200), (1, vI 119), (2, vI a9), (3, vI b9), (4, vI 0), (5, vI 1), (6, vI 1)] [] _ _ _
  refine st_aload_n C 0 dX11_rule_87 rfl rfl ?_
  refine st_iload C dX11_rule_88 rfl ?_
  refine st_iconst C dX11_rule_90 (by decide) ?_
  refine st_callV (st := []) C dX11_rule_91 [vI 1, vI 1] (k_no_t (p9 := 1) hm) hm w_X11_112 rfl (by decide) (by decide) (by omega) (by omega) (Nat.le_of_ble_eq_true rfl) (ko_rt ?_)
  show T x 94 [(0, vR 200), (1, vI 119), (2, vI a9), (3, vI b9), (4, vI 0), (5, vI 1), (6, vI 1)] [vI 0] (hput h 200 (oO 10 [vR 201, vR 202, vR 203, vR 204, vR 205, vR 206, vR 207, vR 208, vR 209, vR 210, vR 211, vR 212, vR 213, vR 214, vR 215, vR 216, vR 217, vR 218, vI mv, vI mrc, vI mmc, vI mmk, vI mdv, vI mwl, vI mwa, vI mwp, vI 0])) _ _
  refine st_if_eq (tgt := 99) C dX11_rule_94 (by decide) (fun c_94 => ?_) (fun c_94 => by omega)
  refine st_iload_n C 1 dX11_rule_99 rfl rfl ?_
  refine st_bipush C dX11_rule_100 (by decide) (by decide) ?_
  refine st_icmp_ne (tgt := 109) C dX11_rule_102 (by decide) (fun c_102 => ?_) (fun c_102 => by omega)
  refine st_iload_n C 2 dX11_rule_109 rfl rfl ?_
  refine st_istore C dX11_rule_110 (by decide) rfl ?_
  show T x 112 [(0, vR 200), (1, vI 119), (2, vI a9), (3, vI b9), (4, vI 0), (5, vI 1), (6, vI 1), (7, vI a9)] [] _ _ _
  refine st_iload C dX11_rule_112 rfl ?_
  refine st_if_eq (tgt := 121) C dX11_rule_114 (by decide) (fun c_114 => ?_) (fun c_114 => by omega)
  refine st_iconst C dX11_rule_121 (by decide) ?_
  refine st_istore C dX11_rule_122 (by decide) rfl ?_
  show T x 124 [(0, vR 200), (1, vI 119), (2, vI a9), (3, vI b9), (4, vI 0), (5, vI 1), (6, vI 1), (7, vI a9), (8, vI 0)] [] _ _ _
  refine st_aload_n C 0 dX11_rule_124 rfl rfl ?_
  refine st_callV (st := []) C dX11_rule_125 [] (k_take (mm := mm) hput_s (hput_o (by omega) hmm) hv (hput_o (by omega) h202)) hput_s w_X11_116 rfl (by decide) (by decide) (by omega) (by omega) (Nat.le_of_ble_eq_true rfl) (ko_rn ?_)
  show T x 128 [(0, vR 200), (1, vI 119), (2, vI a9), (3, vI b9), (4, vI 0), (5, vI 1), (6, vI 1), (7, vI a9), (8, vI 0)] [] (hput (hput h 200 (oO 10 [vR 201, vR 202, vR 203, vR 204, vR 205, vR 206, vR 207, vR 208, vR 209, vR 210, vR 211, vR 212, vR 213, vR 214, vR 215, vR 216, vR 217, vR 218, vI mv, vI mrc, vI mmc, vI mmk, vI mdv, vI mwl, vI mwa, vI mwp, vI 0])) 202 (oI 304 (fmix (fun s => mm (304 * mv + s)) mw 304))) _ _
  refine st_aload_n C 0 dX11_rule_128 rfl rfl ?_
  refine st_aload_n C 0 dX11_rule_129 rfl rfl ?_
  refine st_iload_n C 1 dX11_rule_130 rfl rfl ?_
  refine st_iload C dX11_rule_131 rfl ?_
  refine st_iload C dX11_rule_133 rfl ?_
  refine st_callV (st := [vR 200]) C dX11_rule_135 [vI 119, vI a9, vI 0] (k_keeps_t (f0 := f0) (mw := (fmix (fun s => mm (304 * mv + s)) mw 304)) (a9 := a9) (b9 := 0) (k9 := 119) (hput_o (by omega) hput_s) hput_s (by omega) (by omega) hwv (hput_o (by omega) (hput_o (by omega) h216)) (by omega) hP) (hput_o (by omega) hput_s) w_X11_119 rfl (by decide) (by decide) (by omega) (by omega) (Nat.le_of_ble_eq_true rfl) (ko_rz (fun f4 _ => ?_))
  show T x 138 [(0, vR 200), (1, vI 119), (2, vI a9), (3, vI b9), (4, vI 0), (5, vI 1), (6, vI 1), (7, vI a9), (8, vI 0)] [vI 1, vR 200] _ _ _
  refine st_iconst C dX11_rule_138 (by decide) ?_
  refine st_callV (st := []) C dX11_rule_139 [vI 1, vI 2] (k_no_t (p9 := 2) (hput_o (by decide) (hput_o (by omega) hput_s))) (hput_o (by decide) (hput_o (by omega) hput_s)) w_X11_112 rfl (by decide) (by decide) (by omega) (by omega) (Nat.le_of_ble_eq_true rfl) (ko_rt ?_)
  show T x 142 [(0, vR 200), (1, vI 119), (2, vI a9), (3, vI b9), (4, vI 0), (5, vI 1), (6, vI 1), (7, vI a9), (8, vI 0)] [vI 0] (hput (hput (hput (hput h 200 (oO 10 [vR 201, vR 202, vR 203, vR 204, vR 205, vR 206, vR 207, vR 208, vR 209, vR 210, vR 211, vR 212, vR 213, vR 214, vR 215, vR 216, vR 217, vR 218, vI mv, vI mrc, vI mmc, vI mmk, vI mdv, vI mwl, vI mwa, vI mwp, vI 0])) 202 (oI 304 (fmix (fun s => mm (304 * mv + s)) mw 304))) 216 (oZ 64 f4)) 200 (oO 10 [vR 201, vR 202, vR 203, vR 204, vR 205, vR 206, vR 207, vR 208, vR 209, vR 210, vR 211, vR 212, vR 213, vR 214, vR 215, vR 216, vR 217, vR 218, vI mv, vI mrc, vI mmc, vI mmk, vI mdv, vI mwl, vI mwa, vI mwp, vI 0])) _ _
  refine st_if_ne (tgt := 167) C dX11_rule_142 (by decide) (fun c_142 => by omega) (fun c_142 => ?_)
  refine st_aload_n C 0 dX11_rule_145 rfl rfl ?_
  refine st_aload_n C 0 dX11_rule_146 rfl rfl ?_
  refine st_getf C dX11_rule_147 fl_X11_122 hput_s rfl ?_
  refine st_bipush C dX11_rule_150 (by decide) (by decide) ?_
  refine st_icmp_ge (tgt := 159) C dX11_rule_152 (by decide) (fun c_152 => ?_) (fun c_152 => by omega)
  refine st_iconst C dX11_rule_159 (by decide) ?_
  refine st_iconst C dX11_rule_160 (by decide) ?_
  refine st_callV (st := []) C dX11_rule_161 [vI 0, vI 3] (k_no_f (p9 := 3) hput_s) hput_s w_X11_112 rfl (by decide) (by decide) (by omega) (by omega) (Nat.le_of_ble_eq_true rfl) (ko_rt ?_)
  show T x 164 [(0, vR 200), (1, vI 119), (2, vI a9), (3, vI b9), (4, vI 0), (5, vI 1), (6, vI 1), (7, vI a9), (8, vI 0)] [vI 1] (hput (hput (hput (hput (hput h 200 (oO 10 [vR 201, vR 202, vR 203, vR 204, vR 205, vR 206, vR 207, vR 208, vR 209, vR 210, vR 211, vR 212, vR 213, vR 214, vR 215, vR 216, vR 217, vR 218, vI mv, vI mrc, vI mmc, vI mmk, vI mdv, vI mwl, vI mwa, vI mwp, vI 0])) 202 (oI 304 (fmix (fun s => mm (304 * mv + s)) mw 304))) 216 (oZ 64 f4)) 200 (oO 10 [vR 201, vR 202, vR 203, vR 204, vR 205, vR 206, vR 207, vR 208, vR 209, vR 210, vR 211, vR 212, vR 213, vR 214, vR 215, vR 216, vR 217, vR 218, vI mv, vI mrc, vI mmc, vI mmk, vI mdv, vI mwl, vI mwa, vI mwp, vI 0])) 200 (oO 10 [vR 201, vR 202, vR 203, vR 204, vR 205, vR 206, vR 207, vR 208, vR 209, vR 210, vR 211, vR 212, vR 213, vR 214, vR 215, vR 216, vR 217, vR 218, vI mv, vI mrc, vI mmc, vI mmk, vI mdv, vI mwl, vI mwa, vI mwp, vI 3])) _ _
  refine st_if_eq (tgt := 169) C dX11_rule_164 (by decide) (fun c_164 => by omega) (fun c_164 => ?_)
  refine st_iconst C dX11_rule_167 (by decide) ?_
  exact st_ireturn C F dX11_rule_168 rfl (by first | exact ⟨by with_reducible rfl, f4, by with_reducible rfl⟩ | (exfalso; omega)) (by omega) (by omega)
set_option maxRecDepth 20000 in
set_option maxHeartbeats 4000000 in
theorem m_rulew {g : Gx} {h : HP} {mv mrc mmc mmk mdv mwl mwa mwp mth : Int} {mm : Int → Int} {mw : Int → Int} {f0 : Int → Int} {kk : Int → Int} {ka : Int → Int} {kb : Int → Int} {a9 b9 : Int} (hm : mO h mv mrc mmc mmk mdv mwl mwa mwp mth) (hmm : h 201 = some (oI 12464 mm)) (h202 : h 202 = some (oI 304 mw)) (h216 : h 216 = some (oZ 64 f0)) (h203 : h 203 = some (oI 6 kk)) (h204 : h 204 = some (oI 6 ka)) (h205 : h 205 = some (oI 6 kb)) (hv : 0 ≤ mv ∧ mv ≤ 40) (hl : 0 ≤ a9 ∧ a9 ≤ 2) (hwv : RowV (fmix (fun s => mm (304 * mv + s)) mw 304)) (hP : RuleHolds 119 a9 0 (fmix (fun s => mm (304 * mv + s)) mw 304)) (hf : 0 ≤ mrc ∧ mrc ≤ 5) : Ct g yX11_rule (.code yX11_rule cX11_rule 9 (some .int)) 7 0 0 [vR 200, vI 119, vI a9, vI b9] h ((fun r h' => r = .inl (some (vI mrc)) ∧ ∃ f4 : Int → Int, h' = (hput (hput (hput (hput (hput (hput (hput (hput (hput h 200 (oO 10 [vR 201, vR 202, vR 203, vR 204, vR 205, vR 206, vR 207, vR 208, vR 209, vR 210, vR 211, vR 212, vR 213, vR 214, vR 215, vR 216, vR 217, vR 218, vI mv, vI mrc, vI mmc, vI mmk, vI mdv, vI mwl, vI mwa, vI mwp, vI 0])) 202 (oI 304 (fmix (fun s => mm (304 * mv + s)) mw 304))) 216 (oZ 64 f4)) 200 (oO 10 [vR 201, vR 202, vR 203, vR 204, vR 205, vR 206, vR 207, vR 208, vR 209, vR 210, vR 211, vR 212, vR 213, vR 214, vR 215, vR 216, vR 217, vR 218, vI mv, vI mrc, vI mmc, vI mmk, vI mdv, vI mwl, vI mwa, vI mwp, vI 0])) 200 (oO 10 [vR 201, vR 202, vR 203, vR 204, vR 205, vR 206, vR 207, vR 208, vR 209, vR 210, vR 211, vR 212, vR 213, vR 214, vR 215, vR 216, vR 217, vR 218, vI mv, vI mrc, vI mmc, vI mmk, vI mdv, vI mwl, vI mwa, vI mwp, vI 0])) 203 (oI 6 (fput kk mrc 119))) 204 (oI 6 (fput ka mrc a9))) 205 (oI 6 (fput kb mrc 0))) 200 (oO 10 [vR 201, vR 202, vR 203, vR 204, vR 205, vR 206, vR 207, vR 208, vR 209, vR 210, vR 211, vR 212, vR 213, vR 214, vR 215, vR 216, vR 217, vR 218, vI mv, vI (mrc + 1), vI mmc, vI mmk, vI mdv, vI mwl, vI mwa, vI mwp, vI 0])))) := by
  refine Ct.of (by decide) (Nat.le_of_ble_eq_true rfl) (fun x hg C F => ?_)
  subst hg
  show T x 0 [(0, vR 200), (1, vI 119), (2, vI a9), (3, vI b9)] [] h 0 0
  refine st_iload_n C 1 dX11_rule_0 rfl rfl ?_
  refine st_bipush C dX11_rule_1 (by decide) (by decide) ?_
  refine st_icmp_eq (tgt := 12) C dX11_rule_3 (by decide) (fun c_3 => by omega) (fun c_3 => ?_)
  refine st_iload_n C 1 dX11_rule_6 rfl rfl ?_
  refine st_bipush C dX11_rule_7 (by decide) (by decide) ?_
  refine st_icmp_ne (tgt := 16) C dX11_rule_9 (by decide) (fun c_9 => ?_) (fun c_9 => by omega)
  refine st_iconst C dX11_rule_16 (by decide) ?_
  refine st_istore C dX11_rule_17 (by decide) rfl ?_
  show T x 19 [(0, vR 200), (1, vI 119), (2, vI a9), (3, vI b9), (4, vI 0)] [] _ _ _
  refine st_iload_n C 1 dX11_rule_19 rfl rfl ?_
  refine st_bipush C dX11_rule_20 (by decide) (by decide) ?_
  refine st_icmp_eq (tgt := 31) C dX11_rule_22 (by decide) (fun c_22 => by omega) (fun c_22 => ?_)
  refine st_iload_n C 1 dX11_rule_25 rfl rfl ?_
  refine st_bipush C dX11_rule_26 (by decide) (by decide) ?_
  refine st_icmp_ne (tgt := 35) C dX11_rule_28 (by decide) (fun c_28 => by omega) (fun c_28 => ?_)
  refine st_iconst C dX11_rule_31 (by decide) ?_
  refine st_goto (tgt := 36) C dX11_rule_32 (by decide) ?_
  refine st_istore C dX11_rule_36 (by decide) rfl ?_
  show T x 38 [(0, vR 200), (1, vI 119), (2, vI a9), (3, vI b9), (4, vI 0), (5, vI 1)] [] _ _ _
  refine st_iload_n C 1 dX11_rule_38 rfl rfl ?_
  refine st_bipush C dX11_rule_39 (by decide) (by decide) ?_
  refine st_icmp_eq (tgt := 80) C dX11_rule_41 (by decide) (fun c_41 => by omega) (fun c_41 => ?_)
  refine st_iload C dX11_rule_44 rfl ?_
  refine st_if_eq (tgt := 56) C dX11_rule_46 (by decide) (fun c_46 => by omega) (fun c_46 => ?_)
  refine st_iload_n C 2 dX11_rule_49 rfl rfl ?_
  have b_50 : 0 ≤ a9 ∧ a9 ≤ 2 := by omega
  refine st_callS (st := []) C dX11_rule_50 [vI a9] (k_mLayer_t (v9 := a9)  b_50) w_X11_108 rfl (by decide) (by decide) (by omega) (by omega) (Nat.le_of_ble_eq_true rfl) (ko_rt ?_)
  show T x 53 [(0, vR 200), (1, vI 119), (2, vI a9), (3, vI b9), (4, vI 0), (5, vI 1)] [vI 1] _ _ _
  refine st_if_ne (tgt := 80) C dX11_rule_53 (by decide) (fun c_53 => ?_) (fun c_53 => by omega)
  refine st_iconst C dX11_rule_80 (by decide) ?_
  refine st_goto (tgt := 85) C dX11_rule_81 (by decide) ?_
  refine st_istore C dX11_rule_85 (by decide) rfl ?_
  show T x 87 [(0, vR 200), (1, vI 119), (2, vI a9), (3, vI b9), (4, vI 0), (5, vI 1), (6, vI 1)] [] _ _ _
  refine st_aload_n C 0 dX11_rule_87 rfl rfl ?_
  refine st_iload C dX11_rule_88 rfl ?_
  refine st_iconst C dX11_rule_90 (by decide) ?_
  refine st_callV (st := []) C dX11_rule_91 [vI 1, vI 1] (k_no_t (p9 := 1) hm) hm w_X11_112 rfl (by decide) (by decide) (by omega) (by omega) (Nat.le_of_ble_eq_true rfl) (ko_rt ?_)
  show T x 94 [(0, vR 200), (1, vI 119), (2, vI a9), (3, vI b9), (4, vI 0), (5, vI 1), (6, vI 1)] [vI 0] (hput h 200 (oO 10 [vR 201, vR 202, vR 203, vR 204, vR 205, vR 206, vR 207, vR 208, vR 209, vR 210, vR 211, vR 212, vR 213, vR 214, vR 215, vR 216, vR 217, vR 218, vI mv, vI mrc, vI mmc, vI mmk, vI mdv, vI mwl, vI mwa, vI mwp, vI 0])) _ _
  refine st_if_eq (tgt := 99) C dX11_rule_94 (by decide) (fun c_94 => ?_) (fun c_94 => by omega)
  refine st_iload_n C 1 dX11_rule_99 rfl rfl ?_
  refine st_bipush C dX11_rule_100 (by decide) (by decide) ?_
  refine st_icmp_ne (tgt := 109) C dX11_rule_102 (by decide) (fun c_102 => ?_) (fun c_102 => by omega)
  refine st_iload_n C 2 dX11_rule_109 rfl rfl ?_
  refine st_istore C dX11_rule_110 (by decide) rfl ?_
  show T x 112 [(0, vR 200), (1, vI 119), (2, vI a9), (3, vI b9), (4, vI 0), (5, vI 1), (6, vI 1), (7, vI a9)] [] _ _ _
  refine st_iload C dX11_rule_112 rfl ?_
  refine st_if_eq (tgt := 121) C dX11_rule_114 (by decide) (fun c_114 => ?_) (fun c_114 => by omega)
  refine st_iconst C dX11_rule_121 (by decide) ?_
  refine st_istore C dX11_rule_122 (by decide) rfl ?_
  show T x 124 [(0, vR 200), (1, vI 119), (2, vI a9), (3, vI b9), (4, vI 0), (5, vI 1), (6, vI 1), (7, vI a9), (8, vI 0)] [] _ _ _
  refine st_aload_n C 0 dX11_rule_124 rfl rfl ?_
  refine st_callV (st := []) C dX11_rule_125 [] (k_take (mm := mm) hput_s (hput_o (by omega) hmm) hv (hput_o (by omega) h202)) hput_s w_X11_116 rfl (by decide) (by decide) (by omega) (by omega) (Nat.le_of_ble_eq_true rfl) (ko_rn ?_)
  show T x 128 [(0, vR 200), (1, vI 119), (2, vI a9), (3, vI b9), (4, vI 0), (5, vI 1), (6, vI 1), (7, vI a9), (8, vI 0)] [] (hput (hput h 200 (oO 10 [vR 201, vR 202, vR 203, vR 204, vR 205, vR 206, vR 207, vR 208, vR 209, vR 210, vR 211, vR 212, vR 213, vR 214, vR 215, vR 216, vR 217, vR 218, vI mv, vI mrc, vI mmc, vI mmk, vI mdv, vI mwl, vI mwa, vI mwp, vI 0])) 202 (oI 304 (fmix (fun s => mm (304 * mv + s)) mw 304))) _ _
  refine st_aload_n C 0 dX11_rule_128 rfl rfl ?_
  refine st_aload_n C 0 dX11_rule_129 rfl rfl ?_
  refine st_iload_n C 1 dX11_rule_130 rfl rfl ?_
  refine st_iload C dX11_rule_131 rfl ?_
  refine st_iload C dX11_rule_133 rfl ?_
  refine st_callV (st := [vR 200]) C dX11_rule_135 [vI 119, vI a9, vI 0] (k_keeps_t (f0 := f0) (mw := (fmix (fun s => mm (304 * mv + s)) mw 304)) (a9 := a9) (b9 := 0) (k9 := 119) (hput_o (by omega) hput_s) hput_s (by omega) (by omega) hwv (hput_o (by omega) (hput_o (by omega) h216)) (by omega) hP) (hput_o (by omega) hput_s) w_X11_119 rfl (by decide) (by decide) (by omega) (by omega) (Nat.le_of_ble_eq_true rfl) (ko_rz (fun f4 _ => ?_))
  show T x 138 [(0, vR 200), (1, vI 119), (2, vI a9), (3, vI b9), (4, vI 0), (5, vI 1), (6, vI 1), (7, vI a9), (8, vI 0)] [vI 1, vR 200] _ _ _
  refine st_iconst C dX11_rule_138 (by decide) ?_
  refine st_callV (st := []) C dX11_rule_139 [vI 1, vI 2] (k_no_t (p9 := 2) (hput_o (by decide) (hput_o (by omega) hput_s))) (hput_o (by decide) (hput_o (by omega) hput_s)) w_X11_112 rfl (by decide) (by decide) (by omega) (by omega) (Nat.le_of_ble_eq_true rfl) (ko_rt ?_)
  show T x 142 [(0, vR 200), (1, vI 119), (2, vI a9), (3, vI b9), (4, vI 0), (5, vI 1), (6, vI 1), (7, vI a9), (8, vI 0)] [vI 0] (hput (hput (hput (hput h 200 (oO 10 [vR 201, vR 202, vR 203, vR 204, vR 205, vR 206, vR 207, vR 208, vR 209, vR 210, vR 211, vR 212, vR 213, vR 214, vR 215, vR 216, vR 217, vR 218, vI mv, vI mrc, vI mmc, vI mmk, vI mdv, vI mwl, vI mwa, vI mwp, vI 0])) 202 (oI 304 (fmix (fun s => mm (304 * mv + s)) mw 304))) 216 (oZ 64 f4)) 200 (oO 10 [vR 201, vR 202, vR 203, vR 204, vR 205, vR 206, vR 207, vR 208, vR 209, vR 210, vR 211, vR 212, vR 213, vR 214, vR 215, vR 216, vR 217, vR 218, vI mv, vI mrc, vI mmc, vI mmk, vI mdv, vI mwl, vI mwa, vI mwp, vI 0])) _ _
  refine st_if_ne (tgt := 167) C dX11_rule_142 (by decide) (fun c_142 => by omega) (fun c_142 => ?_)
  refine st_aload_n C 0 dX11_rule_145 rfl rfl ?_
  refine st_aload_n C 0 dX11_rule_146 rfl rfl ?_
  refine st_getf C dX11_rule_147 fl_X11_122 hput_s rfl ?_
  refine st_bipush C dX11_rule_150 (by decide) (by decide) ?_
  refine st_icmp_ge (tgt := 159) C dX11_rule_152 (by decide) (fun c_152 => by omega) (fun c_152 => ?_)
  refine st_iconst C dX11_rule_155 (by decide) ?_
  refine st_goto (tgt := 160) C dX11_rule_156 (by decide) ?_
  refine st_iconst C dX11_rule_160 (by decide) ?_
  refine st_callV (st := []) C dX11_rule_161 [vI 1, vI 3] (k_no_t (p9 := 3) hput_s) hput_s w_X11_112 rfl (by decide) (by decide) (by omega) (by omega) (Nat.le_of_ble_eq_true rfl) (ko_rt ?_)
  show T x 164 [(0, vR 200), (1, vI 119), (2, vI a9), (3, vI b9), (4, vI 0), (5, vI 1), (6, vI 1), (7, vI a9), (8, vI 0)] [vI 0] (hput (hput (hput (hput (hput h 200 (oO 10 [vR 201, vR 202, vR 203, vR 204, vR 205, vR 206, vR 207, vR 208, vR 209, vR 210, vR 211, vR 212, vR 213, vR 214, vR 215, vR 216, vR 217, vR 218, vI mv, vI mrc, vI mmc, vI mmk, vI mdv, vI mwl, vI mwa, vI mwp, vI 0])) 202 (oI 304 (fmix (fun s => mm (304 * mv + s)) mw 304))) 216 (oZ 64 f4)) 200 (oO 10 [vR 201, vR 202, vR 203, vR 204, vR 205, vR 206, vR 207, vR 208, vR 209, vR 210, vR 211, vR 212, vR 213, vR 214, vR 215, vR 216, vR 217, vR 218, vI mv, vI mrc, vI mmc, vI mmk, vI mdv, vI mwl, vI mwa, vI mwp, vI 0])) 200 (oO 10 [vR 201, vR 202, vR 203, vR 204, vR 205, vR 206, vR 207, vR 208, vR 209, vR 210, vR 211, vR 212, vR 213, vR 214, vR 215, vR 216, vR 217, vR 218, vI mv, vI mrc, vI mmc, vI mmk, vI mdv, vI mwl, vI mwa, vI mwp, vI 0])) _ _
  refine st_if_eq (tgt := 169) C dX11_rule_164 (by decide) (fun c_164 => ?_) (fun c_164 => by omega)
  refine st_aload_n C 0 dX11_rule_169 rfl rfl ?_
  refine st_getf C dX11_rule_170 fl_X11_16 hput_s rfl ?_
  refine st_aload_n C 0 dX11_rule_173 rfl rfl ?_
  refine st_getf C dX11_rule_174 fl_X11_122 hput_s rfl ?_
  refine st_iload_n C 1 dX11_rule_177 rfl rfl ?_
  refine st_iast C dX11_rule_178 (hput_o (by omega) (hput_o (by omega) (hput_o (by decide) (hput_o (by omega) (hput_o (by omega) h203))))) (by omega) (by omega) ?_
  refine st_aload_n C 0 dX11_rule_179 rfl rfl ?_
  refine st_getf C dX11_rule_180 fl_X11_19 (hput_o (by omega) hput_s) rfl ?_
  refine st_aload_n C 0 dX11_rule_183 rfl rfl ?_
  refine st_getf C dX11_rule_184 fl_X11_122 (hput_o (by omega) hput_s) rfl ?_
  refine st_iload C dX11_rule_187 rfl ?_
  refine st_iast C dX11_rule_189 (hput_o (by omega) (hput_o (by omega) (hput_o (by omega) (hput_o (by decide) (hput_o (by omega) (hput_o (by omega) h204)))))) (by omega) (by omega) ?_
  refine st_aload_n C 0 dX11_rule_190 rfl rfl ?_
  refine st_getf C dX11_rule_191 fl_X11_22 (hput_o (by omega) (hput_o (by omega) hput_s)) rfl ?_
  refine st_aload_n C 0 dX11_rule_194 rfl rfl ?_
  refine st_getf C dX11_rule_195 fl_X11_122 (hput_o (by omega) (hput_o (by omega) hput_s)) rfl ?_
  refine st_iload C dX11_rule_198 rfl ?_
  refine st_iast C dX11_rule_200 (hput_o (by omega) (hput_o (by omega) (hput_o (by omega) (hput_o (by omega) (hput_o (by decide) (hput_o (by omega) (hput_o (by omega) h205))))))) (by omega) (by omega) ?_
  refine st_aload_n C 0 dX11_rule_201 rfl rfl ?_
  refine st_dup C dX11_rule_202 rfl ?_
  refine st_getf C dX11_rule_203 fl_X11_122 (hput_o (by omega) (hput_o (by omega) (hput_o (by omega) hput_s))) rfl ?_
  refine st_iconst C dX11_rule_206 (by decide) ?_
  refine st_iadd C dX11_rule_207 ⟨(by omega), (by omega)⟩ ?_
  refine st_putf C dX11_rule_208 fp_X11_122 (fun q => by cases q) (hput_o (by omega) (hput_o (by omega) (hput_o (by omega) hput_s))) (Nat.le_of_ble_eq_true rfl) fit_int ?_
  show T x 211 [(0, vR 200), (1, vI 119), (2, vI a9), (3, vI b9), (4, vI 0), (5, vI 1), (6, vI 1), (7, vI a9), (8, vI 0)] [] (hput (hput (hput (hput (hput (hput (hput (hput (hput h 200 (oO 10 [vR 201, vR 202, vR 203, vR 204, vR 205, vR 206, vR 207, vR 208, vR 209, vR 210, vR 211, vR 212, vR 213, vR 214, vR 215, vR 216, vR 217, vR 218, vI mv, vI mrc, vI mmc, vI mmk, vI mdv, vI mwl, vI mwa, vI mwp, vI 0])) 202 (oI 304 (fmix (fun s => mm (304 * mv + s)) mw 304))) 216 (oZ 64 f4)) 200 (oO 10 [vR 201, vR 202, vR 203, vR 204, vR 205, vR 206, vR 207, vR 208, vR 209, vR 210, vR 211, vR 212, vR 213, vR 214, vR 215, vR 216, vR 217, vR 218, vI mv, vI mrc, vI mmc, vI mmk, vI mdv, vI mwl, vI mwa, vI mwp, vI 0])) 200 (oO 10 [vR 201, vR 202, vR 203, vR 204, vR 205, vR 206, vR 207, vR 208, vR 209, vR 210, vR 211, vR 212, vR 213, vR 214, vR 215, vR 216, vR 217, vR 218, vI mv, vI mrc, vI mmc, vI mmk, vI mdv, vI mwl, vI mwa, vI mwp, vI 0])) 203 (oI 6 (fput kk mrc 119))) 204 (oI 6 (fput ka mrc a9))) 205 (oI 6 (fput kb mrc 0))) 200 (oO 10 [vR 201, vR 202, vR 203, vR 204, vR 205, vR 206, vR 207, vR 208, vR 209, vR 210, vR 211, vR 212, vR 213, vR 214, vR 215, vR 216, vR 217, vR 218, vI mv, vI (mrc + 1), vI mmc, vI mmk, vI mdv, vI mwl, vI mwa, vI mwp, vI 0])) _ _
  refine st_aload_n C 0 dX11_rule_211 rfl rfl ?_
  refine st_getf C dX11_rule_212 fl_X11_122 hput_s rfl ?_
  refine st_iconst C dX11_rule_215 (by decide) ?_
  refine st_isub C dX11_rule_216 ⟨(by omega), (by omega)⟩ ?_
  exact st_ireturn C F dX11_rule_217 rfl (by first | (rw [show mrc + 1 - 1 = mrc by omega]; exact ⟨by with_reducible rfl, f4, by with_reducible rfl⟩) | (exfalso; omega)) (by omega) (by omega)
/-- four rows of the branches put -/
def b4 (h : HP) (a b c d : Int → Int) : HP := hput (hput (hput (hput h 207 (oI 1216 a)) 208 (oI 1216 b)) 209 (oI 1216 c)) 210 (oI 1216 d)
theorem b4_c {h : HP} {a b c d a' b' c' d' : Int → Int} : hput (hput (hput (hput (b4 h a b c d) 207 (oI 1216 a')) 208 (oI 1216 b')) 209 (oI 1216 c')) 210 (oI 1216 d') = b4 h a' b' c' d' := by
  unfold b4
  funext j
  unfold hput
  by_cases e1 : j = 210
  · simp only [e1, if_true]
  by_cases e2 : j = 209
  · simp only [e2]; simp
  by_cases e3 : j = 208
  · simp only [e3]; simp
  by_cases e4 : j = 207
  · simp only [e4]; simp
  simp only [e1, e2, e3, e4, if_false]
theorem b4_0 {h : HP} {a b c d : Int → Int} (h7 : h 207 = some (oI 1216 a)) (h8 : h 208 = some (oI 1216 b)) (h9 : h 209 = some (oI 1216 c)) (h10 : h 210 = some (oI 1216 d)) : h = b4 h a b c d := by
  unfold b4
  rw [hput_self h7, hput_self h8, hput_self h9, hput_self h10]
theorem b4_7 {h : HP} {a b c d : Int → Int} : b4 h a b c d 207 = some (oI 1216 a) := hput_o (by decide) (hput_o (by decide) (hput_o (by decide) hput_s))
theorem b4_8 {h : HP} {a b c d : Int → Int} : b4 h a b c d 208 = some (oI 1216 b) := hput_o (by decide) (hput_o (by decide) hput_s)
theorem b4_9 {h : HP} {a b c d : Int → Int} : b4 h a b c d 209 = some (oI 1216 c) := hput_o (by decide) hput_s
theorem b4_10 {h : HP} {a b c d : Int → Int} : b4 h a b c d 210 = some (oI 1216 d) := hput_s
theorem b4_o {h : HP} {j : Nat} {a b c d : Int → Int} {e : Option PE} (n1 : j ≠ 207) (n2 : j ≠ 208) (n3 : j ≠ 209) (n4 : j ≠ 210) (he : h j = e) : b4 h a b c d j = e := hput_o n4 (hput_o n3 (hput_o n2 (hput_o n1 he)))
theorem b4_e {h : HP} {a b c d a' b' c' d' : Int → Int} (e1 : a = a') (e2 : b = b') (e3 : c = c') (e4 : d = d') : b4 h a b c d = b4 h a' b' c' d' := by rw [e1, e2, e3, e4]
theorem mcpy_s0 {mm mw : Int → Int} {i : Int} (h : 0 ≤ i) : fput (mcpy mm mw 0 i) i (mw i) = mcpy mm mw 0 (i + 1) := by have := mcpy_s (mm := mm) (mw := mw) (b := 0) h; rwa [Int.zero_add] at this
set_option maxRecDepth 20000 in
set_option maxHeartbeats 4000000 in
theorem m_open_x1 {g : Gx} {h : HP} {mv mrc mmc mmk mdv mwl mwa mwp mth : Int} {mop : Int → Int} (hm : mO h mv mrc mmc mmk mdv mwl mwa mwp mth) (h206 : h 206 = some (oZ 4 mop)) (o0 : mop 0 = 1) (o1 : mop 1 = 1) (o2 : mop 2 = 1) (o3 : mop 3 = 1) : Ct g yX11_open (.code yX11_open cX11_open 4 (some .int)) 2 0 0 [vR 200] h (Rt (some (vI 0)) (hput h 200 (oO 10 [vR 201, vR 202, vR 203, vR 204, vR 205, vR 206, vR 207, vR 208, vR 209, vR 210, vR 211, vR 212, vR 213, vR 214, vR 215, vR 216, vR 217, vR 218, vI mv, vI mrc, vI mmc, vI mmk, vI mdv, vI mwl, vI mwa, vI mwp, vI 1]))) := by
  refine Ct.of (by decide) (Nat.le_of_ble_eq_true rfl) (fun x hg C F => ?_)
  subst hg
  show T x 0 [(0, vR 200)] [] h 0 0
  refine st_iconst C dX11_open_0 (by decide) ?_
  refine st_istore_n C 1 dX11_open_1 rfl (by decide) rfl ?_
  show T x 2 [(0, vR 200), (1, vI 0)] [] _ _ _
  refine st_iload_n C 1 dX11_open_2 rfl rfl ?_
  refine st_iconst C dX11_open_3 (by decide) ?_
  refine st_icmp_ge (tgt := 22) C dX11_open_4 (by decide) (fun c_4 => by omega) (fun c_4 => ?_)
  refine st_aload_n C 0 dX11_open_7 rfl rfl ?_
  refine st_getf C dX11_open_8 fl_X11_25 hm rfl ?_
  refine st_iload_n C 1 dX11_open_11 rfl rfl ?_
  refine st_zald C dX11_open_12 h206 (by omega) (by omega) ?_
  refine st_if_eq (tgt := 22) C dX11_open_13 (by decide) (fun c_13 => by omega) (fun c_13 => ?_)
  refine st_iinc C dX11_open_16 rfl (by decide) rfl ⟨(by omega), (by omega)⟩ ?_
  show T x 19 [(0, vR 200), (1, vI 1)] [] _ _ _
  refine st_goto (tgt := 2) C dX11_open_19 (by decide) ?_
  refine st_iload_n C 1 dX11_open_2 rfl rfl ?_
  refine st_iconst C dX11_open_3 (by decide) ?_
  refine st_icmp_ge (tgt := 22) C dX11_open_4 (by decide) (fun c_4 => by omega) (fun c_4 => ?_)
  refine st_aload_n C 0 dX11_open_7 rfl rfl ?_
  refine st_getf C dX11_open_8 fl_X11_25 hm rfl ?_
  refine st_iload_n C 1 dX11_open_11 rfl rfl ?_
  refine st_zald C dX11_open_12 h206 (by omega) (by omega) ?_
  refine st_if_eq (tgt := 22) C dX11_open_13 (by decide) (fun c_13 => by omega) (fun c_13 => ?_)
  refine st_iinc C dX11_open_16 rfl (by decide) rfl ⟨(by omega), (by omega)⟩ ?_
  show T x 19 [(0, vR 200), (1, vI 2)] [] _ _ _
  refine st_goto (tgt := 2) C dX11_open_19 (by decide) ?_
  refine st_iload_n C 1 dX11_open_2 rfl rfl ?_
  refine st_iconst C dX11_open_3 (by decide) ?_
  refine st_icmp_ge (tgt := 22) C dX11_open_4 (by decide) (fun c_4 => by omega) (fun c_4 => ?_)
  refine st_aload_n C 0 dX11_open_7 rfl rfl ?_
  refine st_getf C dX11_open_8 fl_X11_25 hm rfl ?_
  refine st_iload_n C 1 dX11_open_11 rfl rfl ?_
  refine st_zald C dX11_open_12 h206 (by omega) (by omega) ?_
  refine st_if_eq (tgt := 22) C dX11_open_13 (by decide) (fun c_13 => by omega) (fun c_13 => ?_)
  refine st_iinc C dX11_open_16 rfl (by decide) rfl ⟨(by omega), (by omega)⟩ ?_
  show T x 19 [(0, vR 200), (1, vI 3)] [] _ _ _
  refine st_goto (tgt := 2) C dX11_open_19 (by decide) ?_
  refine st_iload_n C 1 dX11_open_2 rfl rfl ?_
  refine st_iconst C dX11_open_3 (by decide) ?_
  refine st_icmp_ge (tgt := 22) C dX11_open_4 (by decide) (fun c_4 => by omega) (fun c_4 => ?_)
  refine st_aload_n C 0 dX11_open_7 rfl rfl ?_
  refine st_getf C dX11_open_8 fl_X11_25 hm rfl ?_
  refine st_iload_n C 1 dX11_open_11 rfl rfl ?_
  refine st_zald C dX11_open_12 h206 (by omega) (by omega) ?_
  refine st_if_eq (tgt := 22) C dX11_open_13 (by decide) (fun c_13 => by omega) (fun c_13 => ?_)
  refine st_iinc C dX11_open_16 rfl (by decide) rfl ⟨(by omega), (by omega)⟩ ?_
  show T x 19 [(0, vR 200), (1, vI 4)] [] _ _ _
  refine st_goto (tgt := 2) C dX11_open_19 (by decide) ?_
  refine st_iload_n C 1 dX11_open_2 rfl rfl ?_
  refine st_iconst C dX11_open_3 (by decide) ?_
  refine st_icmp_ge (tgt := 22) C dX11_open_4 (by decide) (fun c_4 => ?_) (fun c_4 => by omega)
  refine st_aload_n C 0 dX11_open_22 rfl rfl ?_
  refine st_iload_n C 1 dX11_open_23 rfl rfl ?_
  refine st_iconst C dX11_open_24 (by decide) ?_
  refine st_icmp_ge (tgt := 32) C dX11_open_25 (by decide) (fun c_25 => ?_) (fun c_25 => by omega)
  refine st_iconst C dX11_open_32 (by decide) ?_
  refine st_iconst C dX11_open_33 (by decide) ?_
  refine st_callV (st := []) C dX11_open_34 [vI 0, vI 1] (k_no_f (p9 := 1) hm) hm w_X11_112 rfl (by decide) (by decide) (by omega) (by omega) (Nat.le_of_ble_eq_true rfl) (ko_rt ?_)
  show T x 37 [(0, vR 200), (1, vI 4)] [vI 1] (hput h 200 (oO 10 [vR 201, vR 202, vR 203, vR 204, vR 205, vR 206, vR 207, vR 208, vR 209, vR 210, vR 211, vR 212, vR 213, vR 214, vR 215, vR 216, vR 217, vR 218, vI mv, vI mrc, vI mmc, vI mmk, vI mdv, vI mwl, vI mwa, vI mwp, vI 1])) _ _
  refine st_if_eq (tgt := 42) C dX11_open_37 (by decide) (fun c_37 => by omega) (fun c_37 => ?_)
  refine st_iconst C dX11_open_40 (by decide) ?_
  exact st_ireturn C F dX11_open_41 rfl (by first | exact ⟨by with_reducible rfl, by with_reducible rfl⟩ | (exfalso; omega)) (by omega) (by omega)
set_option maxRecDepth 20000 in
set_option maxHeartbeats 4000000 in
theorem m_open0 {g : Gx} {h : HP} {mv mrc mmc mmk mdv mwl mwa mwp mth : Int} {mop : Int → Int} {mm : Int → Int} {mb : Int → Int} {me : Int → Int} {mt : Int → Int} {mi : Int → Int} (hm : mO h mv mrc mmc mmk mdv mwl mwa mwp mth) (h206 : h 206 = some (oZ 4 mop)) (hmm : h 201 = some (oI 12464 mm)) (h207 : h 207 = some (oI 1216 mb)) (h208 : h 208 = some (oI 1216 me)) (h209 : h 209 = some (oI 1216 mt)) (h210 : h 210 = some (oI 1216 mi)) (hv : 0 ≤ mv ∧ mv ≤ 40) (o0 : mop 0 = 0) : Ct g yX11_open (.code yX11_open cX11_open 4 (some .int)) 2 0 0 [vR 200] h (Rt (some (vI 0)) (b4 (hput (hput h 200 (oO 10 [vR 201, vR 202, vR 203, vR 204, vR 205, vR 206, vR 207, vR 208, vR 209, vR 210, vR 211, vR 212, vR 213, vR 214, vR 215, vR 216, vR 217, vR 218, vI mv, vI mrc, vI mmc, vI mmk, vI mdv, vI mwl, vI mwa, vI mwp, vI 0])) 206 (oZ 4 (fput mop 0 1))) (mcpy mb (fun s => mm (304 * mv + s)) 0 304) (mcpy me (fun _ => -1) 0 304) (mcpy mt (fun _ => -1) 0 304) (mcpy mi (fun _ => -1000000) 0 304))) := by
  refine Ct.of (by decide) (Nat.le_of_ble_eq_true rfl) (fun x hg C F => ?_)
  subst hg
  show T x 0 [(0, vR 200)] [] h 0 0
  refine st_iconst C dX11_open_0 (by decide) ?_
  refine st_istore_n C 1 dX11_open_1 rfl (by decide) rfl ?_
  show T x 2 [(0, vR 200), (1, vI 0)] [] _ _ _
  refine st_iload_n C 1 dX11_open_2 rfl rfl ?_
  refine st_iconst C dX11_open_3 (by decide) ?_
  refine st_icmp_ge (tgt := 22) C dX11_open_4 (by decide) (fun c_4 => by omega) (fun c_4 => ?_)
  refine st_aload_n C 0 dX11_open_7 rfl rfl ?_
  refine st_getf C dX11_open_8 fl_X11_25 hm rfl ?_
  refine st_iload_n C 1 dX11_open_11 rfl rfl ?_
  refine st_zald C dX11_open_12 h206 (by omega) (by omega) ?_
  refine st_if_eq (tgt := 22) C dX11_open_13 (by decide) (fun c_13 => ?_) (fun c_13 => by omega)
  refine st_aload_n C 0 dX11_open_22 rfl rfl ?_
  refine st_iload_n C 1 dX11_open_23 rfl rfl ?_
  refine st_iconst C dX11_open_24 (by decide) ?_
  refine st_icmp_ge (tgt := 32) C dX11_open_25 (by decide) (fun c_25 => by omega) (fun c_25 => ?_)
  refine st_iconst C dX11_open_28 (by decide) ?_
  refine st_goto (tgt := 33) C dX11_open_29 (by decide) ?_
  refine st_iconst C dX11_open_33 (by decide) ?_
  refine st_callV (st := []) C dX11_open_34 [vI 1, vI 1] (k_no_t (p9 := 1) hm) hm w_X11_112 rfl (by decide) (by decide) (by omega) (by omega) (Nat.le_of_ble_eq_true rfl) (ko_rt ?_)
  show T x 37 [(0, vR 200), (1, vI 0)] [vI 0] (hput h 200 (oO 10 [vR 201, vR 202, vR 203, vR 204, vR 205, vR 206, vR 207, vR 208, vR 209, vR 210, vR 211, vR 212, vR 213, vR 214, vR 215, vR 216, vR 217, vR 218, vI mv, vI mrc, vI mmc, vI mmk, vI mdv, vI mwl, vI mwa, vI mwp, vI 0])) _ _
  refine st_if_eq (tgt := 42) C dX11_open_37 (by decide) (fun c_37 => ?_) (fun c_37 => by omega)
  refine st_aload_n C 0 dX11_open_42 rfl rfl ?_
  refine st_getf C dX11_open_43 fl_X11_25 hput_s rfl ?_
  refine st_iload_n C 1 dX11_open_46 rfl rfl ?_
  refine st_iconst C dX11_open_47 (by decide) ?_
  refine st_zast C dX11_open_48 (by omega) (hput_o (by omega) h206) (by omega) (by omega) ?_
  refine st_iconst C dX11_open_49 (by decide) ?_
  refine st_istore_n C 2 dX11_open_50 rfl (by decide) rfl ?_
  show T x 51 [(0, vR 200), (1, vI 0), (2, vI 0)] [] _ _ _
  have loop_51 : ∀ (n_51 : Nat) (i : Int) (h1 : HP), (0 ≤ i) → (i ≤ 304) → (h1 = b4 (hput (hput h 200 (oO 10 [vR 201, vR 202, vR 203, vR 204, vR 205, vR 206, vR 207, vR 208, vR 209, vR 210, vR 211, vR 212, vR 213, vR 214, vR 215, vR 216, vR 217, vR 218, vI mv, vI mrc, vI mmc, vI mmk, vI mdv, vI mwl, vI mwa, vI mwp, vI 0])) 206 (oZ 4 (fput mop 0 1))) (mcpy mb (fun s => mm (304 * mv + s)) 0 i) (mcpy me (fun _ => -1) 0 i) (mcpy mt (fun _ => -1) 0 i) (mcpy mi (fun _ => -1000000) 0 i)) → (304 - i).toNat < n_51 → T x 51 [(0, vR 200), (1, vI 0), (2, vI i)] [] h1 0 0 := by
    intro n_51
    induction n_51 with
    | zero => intro i h1 g1 g2 hh hm_51; exact absurd hm_51 (Nat.not_lt_zero _)
    | succ n_51 ih_51 =>
      intro i h1 g1 g2 hh hm_51
      refine st_iload_n C 2 dX11_open_51 rfl rfl ?_
      refine st_sipush C dX11_open_52 (by decide) (by decide) ?_
      refine st_icmp_ge (tgt := 105) C dX11_open_55 (by decide) (fun c_55 => ?_) (fun c_55 => ?_)
      · refine st_iload_n C 1 dX11_open_105 rfl rfl ?_
        exact st_ireturn C F dX11_open_106 rfl (by rw [show i = 304 by omega] at hh; exact ⟨by with_reducible rfl, hh⟩) (by omega) (by omega)
      · refine st_sipush C dX11_open_58 (by decide) (by decide) ?_
        refine st_iload_n C 1 dX11_open_61 rfl rfl ?_
        refine st_imul C dX11_open_62 ⟨(by omega), (by omega)⟩ ?_
        refine st_iload_n C 2 dX11_open_63 rfl rfl ?_
        refine st_iadd C dX11_open_64 ⟨(by omega), (by omega)⟩ ?_
        refine st_istore_n C 3 dX11_open_65 rfl (by decide) rfl ?_
        show T x 66 [(0, vR 200), (1, vI 0), (2, vI i), (3, vI (0 + i))] [] _ _ _
        refine st_aload_n C 0 dX11_open_66 rfl rfl ?_
        refine st_getf C dX11_open_67 fl_X11_29 (by rw [hh]; exact b4_o (by decide) (by decide) (by decide) (by decide) (hput_o (by decide) hput_s)) rfl ?_
        refine st_iload_n C 3 dX11_open_70 rfl rfl ?_
        refine st_aload_n C 0 dX11_open_71 rfl rfl ?_
        refine st_iload_n C 2 dX11_open_72 rfl rfl ?_
        refine st_callV (st := [vI (0 + i), vR 207]) C dX11_open_73 [vI i] (k_now (mm := mm) (s9 := i) (by rw [hh]; exact b4_o (by decide) (by decide) (by decide) (by decide) (hput_o (by decide) hput_s)) (by rw [hh]; exact b4_o (by decide) (by decide) (by decide) (by decide) (hput_o (by decide) (hput_o (by decide) hmm))) hv (by omega)) (by rw [hh]; exact b4_o (by decide) (by decide) (by decide) (by decide) (hput_o (by decide) hput_s)) w_X11_105 rfl (by decide) (by decide) (by omega) (by omega) (Nat.le_of_ble_eq_true rfl) (ko_rt ?_)
        show T x 76 [(0, vR 200), (1, vI 0), (2, vI i), (3, vI (0 + i))] [vI (mm (304 * mv + i)), vI (0 + i), vR 207] _ _ _
        refine st_iast C dX11_open_76 (by rw [hh]; exact b4_7) (by omega) (by omega) ?_
        refine st_aload_n C 0 dX11_open_77 rfl rfl ?_
        refine st_getf C dX11_open_78 fl_X11_32 (hput_o (by omega) (by rw [hh]; exact b4_o (by decide) (by decide) (by decide) (by decide) (hput_o (by decide) hput_s))) rfl ?_
        refine st_iload_n C 3 dX11_open_81 rfl rfl ?_
        refine st_iconst C dX11_open_82 (by decide) ?_
        refine st_iast C dX11_open_83 (hput_o (by omega) (by rw [hh]; exact b4_8)) (by omega) (by omega) ?_
        refine st_aload_n C 0 dX11_open_84 rfl rfl ?_
        refine st_getf C dX11_open_85 fl_X11_35 (hput_o (by omega) (hput_o (by omega) (by rw [hh]; exact b4_o (by decide) (by decide) (by decide) (by decide) (hput_o (by decide) hput_s)))) rfl ?_
        refine st_iload_n C 3 dX11_open_88 rfl rfl ?_
        refine st_iconst C dX11_open_89 (by decide) ?_
        refine st_iast C dX11_open_90 (hput_o (by omega) (hput_o (by omega) (by rw [hh]; exact b4_9))) (by omega) (by omega) ?_
        refine st_aload_n C 0 dX11_open_91 rfl rfl ?_
        refine st_getf C dX11_open_92 fl_X11_38 (hput_o (by omega) (hput_o (by omega) (hput_o (by omega) (by rw [hh]; exact b4_o (by decide) (by decide) (by decide) (by decide) (hput_o (by decide) hput_s))))) rfl ?_
        refine st_iload_n C 3 dX11_open_95 rfl rfl ?_
        refine st_ldc (a := (-1000000)) C dX11_open_96 (by decide) (by decide) cn_X11_125 ?_
        refine st_iast C dX11_open_98 (hput_o (by omega) (hput_o (by omega) (hput_o (by omega) (by rw [hh]; exact b4_10)))) (by omega) (by omega) ?_
        refine st_iinc C dX11_open_99 rfl (by decide) rfl ⟨(by omega), (by omega)⟩ ?_
        show T x 102 [(0, vR 200), (1, vI 0), (2, vI (i + 1)), (3, vI (0 + i))] [] _ _ _
        refine st_goto (tgt := 51) C dX11_open_102 (by decide) ?_
        refine st_sub [0, 1, 2] rfl ?_
        exact ih_51 (i + 1) (hput (hput (hput (hput h1 207 (oI 1216 (fput (mcpy mb (fun s => mm (304 * mv + s)) 0 i) (0 + i) (mm (304 * mv + i))))) 208 (oI 1216 (fput (mcpy me (fun _ => -1) 0 i) (0 + i) (-1)))) 209 (oI 1216 (fput (mcpy mt (fun _ => -1) 0 i) (0 + i) (-1)))) 210 (oI 1216 (fput (mcpy mi (fun _ => -1000000) 0 i) (0 + i) (-1000000)))) (by omega) (by omega) (by rw [hh, b4_c]; exact b4_e (mcpy_s g1) (mcpy_s g1) (mcpy_s g1) (mcpy_s g1)) (by omega)
  exact loop_51 _ 0 (hput (hput h 200 (oO 10 [vR 201, vR 202, vR 203, vR 204, vR 205, vR 206, vR 207, vR 208, vR 209, vR 210, vR 211, vR 212, vR 213, vR 214, vR 215, vR 216, vR 217, vR 218, vI mv, vI mrc, vI mmc, vI mmk, vI mdv, vI mwl, vI mwa, vI mwp, vI 0])) 206 (oZ 4 (fput mop 0 1))) (by omega) (by omega) (by simp only [mcpy_0]; exact b4_0 (hput_o (by decide) (hput_o (by decide) h207)) (hput_o (by decide) (hput_o (by decide) h208)) (hput_o (by decide) (hput_o (by decide) h209)) (hput_o (by decide) (hput_o (by decide) h210))) (Nat.lt_succ_self _)
set_option maxRecDepth 20000 in
set_option maxHeartbeats 4000000 in
theorem m_open1 {g : Gx} {h : HP} {mv mrc mmc mmk mdv mwl mwa mwp mth : Int} {mop : Int → Int} {mm : Int → Int} {mb : Int → Int} {me : Int → Int} {mt : Int → Int} {mi : Int → Int} (hm : mO h mv mrc mmc mmk mdv mwl mwa mwp mth) (h206 : h 206 = some (oZ 4 mop)) (hmm : h 201 = some (oI 12464 mm)) (h207 : h 207 = some (oI 1216 mb)) (h208 : h 208 = some (oI 1216 me)) (h209 : h 209 = some (oI 1216 mt)) (h210 : h 210 = some (oI 1216 mi)) (hv : 0 ≤ mv ∧ mv ≤ 40) (o0 : mop 0 = 1) (o1 : mop 1 = 0) : Ct g yX11_open (.code yX11_open cX11_open 4 (some .int)) 2 0 0 [vR 200] h (Rt (some (vI 1)) (b4 (hput (hput h 200 (oO 10 [vR 201, vR 202, vR 203, vR 204, vR 205, vR 206, vR 207, vR 208, vR 209, vR 210, vR 211, vR 212, vR 213, vR 214, vR 215, vR 216, vR 217, vR 218, vI mv, vI mrc, vI mmc, vI mmk, vI mdv, vI mwl, vI mwa, vI mwp, vI 0])) 206 (oZ 4 (fput mop 1 1))) (mcpy mb (fun s => mm (304 * mv + s)) 304 304) (mcpy me (fun _ => -1) 304 304) (mcpy mt (fun _ => -1) 304 304) (mcpy mi (fun _ => -1000000) 304 304))) := by
  refine Ct.of (by decide) (Nat.le_of_ble_eq_true rfl) (fun x hg C F => ?_)
  subst hg
  show T x 0 [(0, vR 200)] [] h 0 0
  refine st_iconst C dX11_open_0 (by decide) ?_
  refine st_istore_n C 1 dX11_open_1 rfl (by decide) rfl ?_
  show T x 2 [(0, vR 200), (1, vI 0)] [] _ _ _
  refine st_iload_n C 1 dX11_open_2 rfl rfl ?_
  refine st_iconst C dX11_open_3 (by decide) ?_
  refine st_icmp_ge (tgt := 22) C dX11_open_4 (by decide) (fun c_4 => by omega) (fun c_4 => ?_)
  refine st_aload_n C 0 dX11_open_7 rfl rfl ?_
  refine st_getf C dX11_open_8 fl_X11_25 hm rfl ?_
  refine st_iload_n C 1 dX11_open_11 rfl rfl ?_
  refine st_zald C dX11_open_12 h206 (by omega) (by omega) ?_
  refine st_if_eq (tgt := 22) C dX11_open_13 (by decide) (fun c_13 => by omega) (fun c_13 => ?_)
  refine st_iinc C dX11_open_16 rfl (by decide) rfl ⟨(by omega), (by omega)⟩ ?_
  show T x 19 [(0, vR 200), (1, vI 1)] [] _ _ _
  refine st_goto (tgt := 2) C dX11_open_19 (by decide) ?_
  refine st_iload_n C 1 dX11_open_2 rfl rfl ?_
  refine st_iconst C dX11_open_3 (by decide) ?_
  refine st_icmp_ge (tgt := 22) C dX11_open_4 (by decide) (fun c_4 => by omega) (fun c_4 => ?_)
  refine st_aload_n C 0 dX11_open_7 rfl rfl ?_
  refine st_getf C dX11_open_8 fl_X11_25 hm rfl ?_
  refine st_iload_n C 1 dX11_open_11 rfl rfl ?_
  refine st_zald C dX11_open_12 h206 (by omega) (by omega) ?_
  refine st_if_eq (tgt := 22) C dX11_open_13 (by decide) (fun c_13 => ?_) (fun c_13 => by omega)
  refine st_aload_n C 0 dX11_open_22 rfl rfl ?_
  refine st_iload_n C 1 dX11_open_23 rfl rfl ?_
  refine st_iconst C dX11_open_24 (by decide) ?_
  refine st_icmp_ge (tgt := 32) C dX11_open_25 (by decide) (fun c_25 => by omega) (fun c_25 => ?_)
  refine st_iconst C dX11_open_28 (by decide) ?_
  refine st_goto (tgt := 33) C dX11_open_29 (by decide) ?_
  refine st_iconst C dX11_open_33 (by decide) ?_
  refine st_callV (st := []) C dX11_open_34 [vI 1, vI 1] (k_no_t (p9 := 1) hm) hm w_X11_112 rfl (by decide) (by decide) (by omega) (by omega) (Nat.le_of_ble_eq_true rfl) (ko_rt ?_)
  show T x 37 [(0, vR 200), (1, vI 1)] [vI 0] (hput h 200 (oO 10 [vR 201, vR 202, vR 203, vR 204, vR 205, vR 206, vR 207, vR 208, vR 209, vR 210, vR 211, vR 212, vR 213, vR 214, vR 215, vR 216, vR 217, vR 218, vI mv, vI mrc, vI mmc, vI mmk, vI mdv, vI mwl, vI mwa, vI mwp, vI 0])) _ _
  refine st_if_eq (tgt := 42) C dX11_open_37 (by decide) (fun c_37 => ?_) (fun c_37 => by omega)
  refine st_aload_n C 0 dX11_open_42 rfl rfl ?_
  refine st_getf C dX11_open_43 fl_X11_25 hput_s rfl ?_
  refine st_iload_n C 1 dX11_open_46 rfl rfl ?_
  refine st_iconst C dX11_open_47 (by decide) ?_
  refine st_zast C dX11_open_48 (by omega) (hput_o (by omega) h206) (by omega) (by omega) ?_
  refine st_iconst C dX11_open_49 (by decide) ?_
  refine st_istore_n C 2 dX11_open_50 rfl (by decide) rfl ?_
  show T x 51 [(0, vR 200), (1, vI 1), (2, vI 0)] [] _ _ _
  have loop_51 : ∀ (n_51 : Nat) (i : Int) (h1 : HP), (0 ≤ i) → (i ≤ 304) → (h1 = b4 (hput (hput h 200 (oO 10 [vR 201, vR 202, vR 203, vR 204, vR 205, vR 206, vR 207, vR 208, vR 209, vR 210, vR 211, vR 212, vR 213, vR 214, vR 215, vR 216, vR 217, vR 218, vI mv, vI mrc, vI mmc, vI mmk, vI mdv, vI mwl, vI mwa, vI mwp, vI 0])) 206 (oZ 4 (fput mop 1 1))) (mcpy mb (fun s => mm (304 * mv + s)) 304 i) (mcpy me (fun _ => -1) 304 i) (mcpy mt (fun _ => -1) 304 i) (mcpy mi (fun _ => -1000000) 304 i)) → (304 - i).toNat < n_51 → T x 51 [(0, vR 200), (1, vI 1), (2, vI i)] [] h1 0 0 := by
    intro n_51
    induction n_51 with
    | zero => intro i h1 g1 g2 hh hm_51; exact absurd hm_51 (Nat.not_lt_zero _)
    | succ n_51 ih_51 =>
      intro i h1 g1 g2 hh hm_51
      refine st_iload_n C 2 dX11_open_51 rfl rfl ?_
      refine st_sipush C dX11_open_52 (by decide) (by decide) ?_
      refine st_icmp_ge (tgt := 105) C dX11_open_55 (by decide) (fun c_55 => ?_) (fun c_55 => ?_)
      · refine st_iload_n C 1 dX11_open_105 rfl rfl ?_
        exact st_ireturn C F dX11_open_106 rfl (by rw [show i = 304 by omega] at hh; exact ⟨by with_reducible rfl, hh⟩) (by omega) (by omega)
      · refine st_sipush C dX11_open_58 (by decide) (by decide) ?_
        refine st_iload_n C 1 dX11_open_61 rfl rfl ?_
        refine st_imul C dX11_open_62 ⟨(by omega), (by omega)⟩ ?_
        refine st_iload_n C 2 dX11_open_63 rfl rfl ?_
        refine st_iadd C dX11_open_64 ⟨(by omega), (by omega)⟩ ?_
        refine st_istore_n C 3 dX11_open_65 rfl (by decide) rfl ?_
        show T x 66 [(0, vR 200), (1, vI 1), (2, vI i), (3, vI (304 + i))] [] _ _ _
        refine st_aload_n C 0 dX11_open_66 rfl rfl ?_
        refine st_getf C dX11_open_67 fl_X11_29 (by rw [hh]; exact b4_o (by decide) (by decide) (by decide) (by decide) (hput_o (by decide) hput_s)) rfl ?_
        refine st_iload_n C 3 dX11_open_70 rfl rfl ?_
        refine st_aload_n C 0 dX11_open_71 rfl rfl ?_
        refine st_iload_n C 2 dX11_open_72 rfl rfl ?_
        refine st_callV (st := [vI (304 + i), vR 207]) C dX11_open_73 [vI i] (k_now (mm := mm) (s9 := i) (by rw [hh]; exact b4_o (by decide) (by decide) (by decide) (by decide) (hput_o (by decide) hput_s)) (by rw [hh]; exact b4_o (by decide) (by decide) (by decide) (by decide) (hput_o (by decide) (hput_o (by decide) hmm))) hv (by omega)) (by rw [hh]; exact b4_o (by decide) (by decide) (by decide) (by decide) (hput_o (by decide) hput_s)) w_X11_105 rfl (by decide) (by decide) (by omega) (by omega) (Nat.le_of_ble_eq_true rfl) (ko_rt ?_)
        show T x 76 [(0, vR 200), (1, vI 1), (2, vI i), (3, vI (304 + i))] [vI (mm (304 * mv + i)), vI (304 + i), vR 207] _ _ _
        refine st_iast C dX11_open_76 (by rw [hh]; exact b4_7) (by omega) (by omega) ?_
        refine st_aload_n C 0 dX11_open_77 rfl rfl ?_
        refine st_getf C dX11_open_78 fl_X11_32 (hput_o (by omega) (by rw [hh]; exact b4_o (by decide) (by decide) (by decide) (by decide) (hput_o (by decide) hput_s))) rfl ?_
        refine st_iload_n C 3 dX11_open_81 rfl rfl ?_
        refine st_iconst C dX11_open_82 (by decide) ?_
        refine st_iast C dX11_open_83 (hput_o (by omega) (by rw [hh]; exact b4_8)) (by omega) (by omega) ?_
        refine st_aload_n C 0 dX11_open_84 rfl rfl ?_
        refine st_getf C dX11_open_85 fl_X11_35 (hput_o (by omega) (hput_o (by omega) (by rw [hh]; exact b4_o (by decide) (by decide) (by decide) (by decide) (hput_o (by decide) hput_s)))) rfl ?_
        refine st_iload_n C 3 dX11_open_88 rfl rfl ?_
        refine st_iconst C dX11_open_89 (by decide) ?_
        refine st_iast C dX11_open_90 (hput_o (by omega) (hput_o (by omega) (by rw [hh]; exact b4_9))) (by omega) (by omega) ?_
        refine st_aload_n C 0 dX11_open_91 rfl rfl ?_
        refine st_getf C dX11_open_92 fl_X11_38 (hput_o (by omega) (hput_o (by omega) (hput_o (by omega) (by rw [hh]; exact b4_o (by decide) (by decide) (by decide) (by decide) (hput_o (by decide) hput_s))))) rfl ?_
        refine st_iload_n C 3 dX11_open_95 rfl rfl ?_
        refine st_ldc (a := (-1000000)) C dX11_open_96 (by decide) (by decide) cn_X11_125 ?_
        refine st_iast C dX11_open_98 (hput_o (by omega) (hput_o (by omega) (hput_o (by omega) (by rw [hh]; exact b4_10)))) (by omega) (by omega) ?_
        refine st_iinc C dX11_open_99 rfl (by decide) rfl ⟨(by omega), (by omega)⟩ ?_
        show T x 102 [(0, vR 200), (1, vI 1), (2, vI (i + 1)), (3, vI (304 + i))] [] _ _ _
        refine st_goto (tgt := 51) C dX11_open_102 (by decide) ?_
        refine st_sub [0, 1, 2] rfl ?_
        exact ih_51 (i + 1) (hput (hput (hput (hput h1 207 (oI 1216 (fput (mcpy mb (fun s => mm (304 * mv + s)) 304 i) (304 + i) (mm (304 * mv + i))))) 208 (oI 1216 (fput (mcpy me (fun _ => -1) 304 i) (304 + i) (-1)))) 209 (oI 1216 (fput (mcpy mt (fun _ => -1) 304 i) (304 + i) (-1)))) 210 (oI 1216 (fput (mcpy mi (fun _ => -1000000) 304 i) (304 + i) (-1000000)))) (by omega) (by omega) (by rw [hh, b4_c]; exact b4_e (mcpy_s g1) (mcpy_s g1) (mcpy_s g1) (mcpy_s g1)) (by omega)
  exact loop_51 _ 0 (hput (hput h 200 (oO 10 [vR 201, vR 202, vR 203, vR 204, vR 205, vR 206, vR 207, vR 208, vR 209, vR 210, vR 211, vR 212, vR 213, vR 214, vR 215, vR 216, vR 217, vR 218, vI mv, vI mrc, vI mmc, vI mmk, vI mdv, vI mwl, vI mwa, vI mwp, vI 0])) 206 (oZ 4 (fput mop 1 1))) (by omega) (by omega) (by simp only [mcpy_0]; exact b4_0 (hput_o (by decide) (hput_o (by decide) h207)) (hput_o (by decide) (hput_o (by decide) h208)) (hput_o (by decide) (hput_o (by decide) h209)) (hput_o (by decide) (hput_o (by decide) h210))) (Nat.lt_succ_self _)
set_option maxRecDepth 20000 in
set_option maxHeartbeats 4000000 in
theorem m_open2 {g : Gx} {h : HP} {mv mrc mmc mmk mdv mwl mwa mwp mth : Int} {mop : Int → Int} {mm : Int → Int} {mb : Int → Int} {me : Int → Int} {mt : Int → Int} {mi : Int → Int} (hm : mO h mv mrc mmc mmk mdv mwl mwa mwp mth) (h206 : h 206 = some (oZ 4 mop)) (hmm : h 201 = some (oI 12464 mm)) (h207 : h 207 = some (oI 1216 mb)) (h208 : h 208 = some (oI 1216 me)) (h209 : h 209 = some (oI 1216 mt)) (h210 : h 210 = some (oI 1216 mi)) (hv : 0 ≤ mv ∧ mv ≤ 40) (o0 : mop 0 = 1) (o1 : mop 1 = 1) (o2 : mop 2 = 0) : Ct g yX11_open (.code yX11_open cX11_open 4 (some .int)) 2 0 0 [vR 200] h (Rt (some (vI 2)) (b4 (hput (hput h 200 (oO 10 [vR 201, vR 202, vR 203, vR 204, vR 205, vR 206, vR 207, vR 208, vR 209, vR 210, vR 211, vR 212, vR 213, vR 214, vR 215, vR 216, vR 217, vR 218, vI mv, vI mrc, vI mmc, vI mmk, vI mdv, vI mwl, vI mwa, vI mwp, vI 0])) 206 (oZ 4 (fput mop 2 1))) (mcpy mb (fun s => mm (304 * mv + s)) 608 304) (mcpy me (fun _ => -1) 608 304) (mcpy mt (fun _ => -1) 608 304) (mcpy mi (fun _ => -1000000) 608 304))) := by
  refine Ct.of (by decide) (Nat.le_of_ble_eq_true rfl) (fun x hg C F => ?_)
  subst hg
  show T x 0 [(0, vR 200)] [] h 0 0
  refine st_iconst C dX11_open_0 (by decide) ?_
  refine st_istore_n C 1 dX11_open_1 rfl (by decide) rfl ?_
  show T x 2 [(0, vR 200), (1, vI 0)] [] _ _ _
  refine st_iload_n C 1 dX11_open_2 rfl rfl ?_
  refine st_iconst C dX11_open_3 (by decide) ?_
  refine st_icmp_ge (tgt := 22) C dX11_open_4 (by decide) (fun c_4 => by omega) (fun c_4 => ?_)
  refine st_aload_n C 0 dX11_open_7 rfl rfl ?_
  refine st_getf C dX11_open_8 fl_X11_25 hm rfl ?_
  refine st_iload_n C 1 dX11_open_11 rfl rfl ?_
  refine st_zald C dX11_open_12 h206 (by omega) (by omega) ?_
  refine st_if_eq (tgt := 22) C dX11_open_13 (by decide) (fun c_13 => by omega) (fun c_13 => ?_)
  refine st_iinc C dX11_open_16 rfl (by decide) rfl ⟨(by omega), (by omega)⟩ ?_
  show T x 19 [(0, vR 200), (1, vI 1)] [] _ _ _
  refine st_goto (tgt := 2) C dX11_open_19 (by decide) ?_
  refine st_iload_n C 1 dX11_open_2 rfl rfl ?_
  refine st_iconst C dX11_open_3 (by decide) ?_
  refine st_icmp_ge (tgt := 22) C dX11_open_4 (by decide) (fun c_4 => by omega) (fun c_4 => ?_)
  refine st_aload_n C 0 dX11_open_7 rfl rfl ?_
  refine st_getf C dX11_open_8 fl_X11_25 hm rfl ?_
  refine st_iload_n C 1 dX11_open_11 rfl rfl ?_
  refine st_zald C dX11_open_12 h206 (by omega) (by omega) ?_
  refine st_if_eq (tgt := 22) C dX11_open_13 (by decide) (fun c_13 => by omega) (fun c_13 => ?_)
  refine st_iinc C dX11_open_16 rfl (by decide) rfl ⟨(by omega), (by omega)⟩ ?_
  show T x 19 [(0, vR 200), (1, vI 2)] [] _ _ _
  refine st_goto (tgt := 2) C dX11_open_19 (by decide) ?_
  refine st_iload_n C 1 dX11_open_2 rfl rfl ?_
  refine st_iconst C dX11_open_3 (by decide) ?_
  refine st_icmp_ge (tgt := 22) C dX11_open_4 (by decide) (fun c_4 => by omega) (fun c_4 => ?_)
  refine st_aload_n C 0 dX11_open_7 rfl rfl ?_
  refine st_getf C dX11_open_8 fl_X11_25 hm rfl ?_
  refine st_iload_n C 1 dX11_open_11 rfl rfl ?_
  refine st_zald C dX11_open_12 h206 (by omega) (by omega) ?_
  refine st_if_eq (tgt := 22) C dX11_open_13 (by decide) (fun c_13 => ?_) (fun c_13 => by omega)
  refine st_aload_n C 0 dX11_open_22 rfl rfl ?_
  refine st_iload_n C 1 dX11_open_23 rfl rfl ?_
  refine st_iconst C dX11_open_24 (by decide) ?_
  refine st_icmp_ge (tgt := 32) C dX11_open_25 (by decide) (fun c_25 => by omega) (fun c_25 => ?_)
  refine st_iconst C dX11_open_28 (by decide) ?_
  refine st_goto (tgt := 33) C dX11_open_29 (by decide) ?_
  refine st_iconst C dX11_open_33 (by decide) ?_
  refine st_callV (st := []) C dX11_open_34 [vI 1, vI 1] (k_no_t (p9 := 1) hm) hm w_X11_112 rfl (by decide) (by decide) (by omega) (by omega) (Nat.le_of_ble_eq_true rfl) (ko_rt ?_)
  show T x 37 [(0, vR 200), (1, vI 2)] [vI 0] (hput h 200 (oO 10 [vR 201, vR 202, vR 203, vR 204, vR 205, vR 206, vR 207, vR 208, vR 209, vR 210, vR 211, vR 212, vR 213, vR 214, vR 215, vR 216, vR 217, vR 218, vI mv, vI mrc, vI mmc, vI mmk, vI mdv, vI mwl, vI mwa, vI mwp, vI 0])) _ _
  refine st_if_eq (tgt := 42) C dX11_open_37 (by decide) (fun c_37 => ?_) (fun c_37 => by omega)
  refine st_aload_n C 0 dX11_open_42 rfl rfl ?_
  refine st_getf C dX11_open_43 fl_X11_25 hput_s rfl ?_
  refine st_iload_n C 1 dX11_open_46 rfl rfl ?_
  refine st_iconst C dX11_open_47 (by decide) ?_
  refine st_zast C dX11_open_48 (by omega) (hput_o (by omega) h206) (by omega) (by omega) ?_
  refine st_iconst C dX11_open_49 (by decide) ?_
  refine st_istore_n C 2 dX11_open_50 rfl (by decide) rfl ?_
  show T x 51 [(0, vR 200), (1, vI 2), (2, vI 0)] [] _ _ _
  have loop_51 : ∀ (n_51 : Nat) (i : Int) (h1 : HP), (0 ≤ i) → (i ≤ 304) → (h1 = b4 (hput (hput h 200 (oO 10 [vR 201, vR 202, vR 203, vR 204, vR 205, vR 206, vR 207, vR 208, vR 209, vR 210, vR 211, vR 212, vR 213, vR 214, vR 215, vR 216, vR 217, vR 218, vI mv, vI mrc, vI mmc, vI mmk, vI mdv, vI mwl, vI mwa, vI mwp, vI 0])) 206 (oZ 4 (fput mop 2 1))) (mcpy mb (fun s => mm (304 * mv + s)) 608 i) (mcpy me (fun _ => -1) 608 i) (mcpy mt (fun _ => -1) 608 i) (mcpy mi (fun _ => -1000000) 608 i)) → (304 - i).toNat < n_51 → T x 51 [(0, vR 200), (1, vI 2), (2, vI i)] [] h1 0 0 := by
    intro n_51
    induction n_51 with
    | zero => intro i h1 g1 g2 hh hm_51; exact absurd hm_51 (Nat.not_lt_zero _)
    | succ n_51 ih_51 =>
      intro i h1 g1 g2 hh hm_51
      refine st_iload_n C 2 dX11_open_51 rfl rfl ?_
      refine st_sipush C dX11_open_52 (by decide) (by decide) ?_
      refine st_icmp_ge (tgt := 105) C dX11_open_55 (by decide) (fun c_55 => ?_) (fun c_55 => ?_)
      · refine st_iload_n C 1 dX11_open_105 rfl rfl ?_
        exact st_ireturn C F dX11_open_106 rfl (by rw [show i = 304 by omega] at hh; exact ⟨by with_reducible rfl, hh⟩) (by omega) (by omega)
      · refine st_sipush C dX11_open_58 (by decide) (by decide) ?_
        refine st_iload_n C 1 dX11_open_61 rfl rfl ?_
        refine st_imul C dX11_open_62 ⟨(by omega), (by omega)⟩ ?_
        refine st_iload_n C 2 dX11_open_63 rfl rfl ?_
        refine st_iadd C dX11_open_64 ⟨(by omega), (by omega)⟩ ?_
        refine st_istore_n C 3 dX11_open_65 rfl (by decide) rfl ?_
        show T x 66 [(0, vR 200), (1, vI 2), (2, vI i), (3, vI (608 + i))] [] _ _ _
        refine st_aload_n C 0 dX11_open_66 rfl rfl ?_
        refine st_getf C dX11_open_67 fl_X11_29 (by rw [hh]; exact b4_o (by decide) (by decide) (by decide) (by decide) (hput_o (by decide) hput_s)) rfl ?_
        refine st_iload_n C 3 dX11_open_70 rfl rfl ?_
        refine st_aload_n C 0 dX11_open_71 rfl rfl ?_
        refine st_iload_n C 2 dX11_open_72 rfl rfl ?_
        refine st_callV (st := [vI (608 + i), vR 207]) C dX11_open_73 [vI i] (k_now (mm := mm) (s9 := i) (by rw [hh]; exact b4_o (by decide) (by decide) (by decide) (by decide) (hput_o (by decide) hput_s)) (by rw [hh]; exact b4_o (by decide) (by decide) (by decide) (by decide) (hput_o (by decide) (hput_o (by decide) hmm))) hv (by omega)) (by rw [hh]; exact b4_o (by decide) (by decide) (by decide) (by decide) (hput_o (by decide) hput_s)) w_X11_105 rfl (by decide) (by decide) (by omega) (by omega) (Nat.le_of_ble_eq_true rfl) (ko_rt ?_)
        show T x 76 [(0, vR 200), (1, vI 2), (2, vI i), (3, vI (608 + i))] [vI (mm (304 * mv + i)), vI (608 + i), vR 207] _ _ _
        refine st_iast C dX11_open_76 (by rw [hh]; exact b4_7) (by omega) (by omega) ?_
        refine st_aload_n C 0 dX11_open_77 rfl rfl ?_
        refine st_getf C dX11_open_78 fl_X11_32 (hput_o (by omega) (by rw [hh]; exact b4_o (by decide) (by decide) (by decide) (by decide) (hput_o (by decide) hput_s))) rfl ?_
        refine st_iload_n C 3 dX11_open_81 rfl rfl ?_
        refine st_iconst C dX11_open_82 (by decide) ?_
        refine st_iast C dX11_open_83 (hput_o (by omega) (by rw [hh]; exact b4_8)) (by omega) (by omega) ?_
        refine st_aload_n C 0 dX11_open_84 rfl rfl ?_
        refine st_getf C dX11_open_85 fl_X11_35 (hput_o (by omega) (hput_o (by omega) (by rw [hh]; exact b4_o (by decide) (by decide) (by decide) (by decide) (hput_o (by decide) hput_s)))) rfl ?_
        refine st_iload_n C 3 dX11_open_88 rfl rfl ?_
        refine st_iconst C dX11_open_89 (by decide) ?_
        refine st_iast C dX11_open_90 (hput_o (by omega) (hput_o (by omega) (by rw [hh]; exact b4_9))) (by omega) (by omega) ?_
        refine st_aload_n C 0 dX11_open_91 rfl rfl ?_
        refine st_getf C dX11_open_92 fl_X11_38 (hput_o (by omega) (hput_o (by omega) (hput_o (by omega) (by rw [hh]; exact b4_o (by decide) (by decide) (by decide) (by decide) (hput_o (by decide) hput_s))))) rfl ?_
        refine st_iload_n C 3 dX11_open_95 rfl rfl ?_
        refine st_ldc (a := (-1000000)) C dX11_open_96 (by decide) (by decide) cn_X11_125 ?_
        refine st_iast C dX11_open_98 (hput_o (by omega) (hput_o (by omega) (hput_o (by omega) (by rw [hh]; exact b4_10)))) (by omega) (by omega) ?_
        refine st_iinc C dX11_open_99 rfl (by decide) rfl ⟨(by omega), (by omega)⟩ ?_
        show T x 102 [(0, vR 200), (1, vI 2), (2, vI (i + 1)), (3, vI (608 + i))] [] _ _ _
        refine st_goto (tgt := 51) C dX11_open_102 (by decide) ?_
        refine st_sub [0, 1, 2] rfl ?_
        exact ih_51 (i + 1) (hput (hput (hput (hput h1 207 (oI 1216 (fput (mcpy mb (fun s => mm (304 * mv + s)) 608 i) (608 + i) (mm (304 * mv + i))))) 208 (oI 1216 (fput (mcpy me (fun _ => -1) 608 i) (608 + i) (-1)))) 209 (oI 1216 (fput (mcpy mt (fun _ => -1) 608 i) (608 + i) (-1)))) 210 (oI 1216 (fput (mcpy mi (fun _ => -1000000) 608 i) (608 + i) (-1000000)))) (by omega) (by omega) (by rw [hh, b4_c]; exact b4_e (mcpy_s g1) (mcpy_s g1) (mcpy_s g1) (mcpy_s g1)) (by omega)
  exact loop_51 _ 0 (hput (hput h 200 (oO 10 [vR 201, vR 202, vR 203, vR 204, vR 205, vR 206, vR 207, vR 208, vR 209, vR 210, vR 211, vR 212, vR 213, vR 214, vR 215, vR 216, vR 217, vR 218, vI mv, vI mrc, vI mmc, vI mmk, vI mdv, vI mwl, vI mwa, vI mwp, vI 0])) 206 (oZ 4 (fput mop 2 1))) (by omega) (by omega) (by simp only [mcpy_0]; exact b4_0 (hput_o (by decide) (hput_o (by decide) h207)) (hput_o (by decide) (hput_o (by decide) h208)) (hput_o (by decide) (hput_o (by decide) h209)) (hput_o (by decide) (hput_o (by decide) h210))) (Nat.lt_succ_self _)
set_option maxRecDepth 20000 in
set_option maxHeartbeats 4000000 in
theorem m_open3 {g : Gx} {h : HP} {mv mrc mmc mmk mdv mwl mwa mwp mth : Int} {mop : Int → Int} {mm : Int → Int} {mb : Int → Int} {me : Int → Int} {mt : Int → Int} {mi : Int → Int} (hm : mO h mv mrc mmc mmk mdv mwl mwa mwp mth) (h206 : h 206 = some (oZ 4 mop)) (hmm : h 201 = some (oI 12464 mm)) (h207 : h 207 = some (oI 1216 mb)) (h208 : h 208 = some (oI 1216 me)) (h209 : h 209 = some (oI 1216 mt)) (h210 : h 210 = some (oI 1216 mi)) (hv : 0 ≤ mv ∧ mv ≤ 40) (o0 : mop 0 = 1) (o1 : mop 1 = 1) (o2 : mop 2 = 1) (o3 : mop 3 = 0) : Ct g yX11_open (.code yX11_open cX11_open 4 (some .int)) 2 0 0 [vR 200] h (Rt (some (vI 3)) (b4 (hput (hput h 200 (oO 10 [vR 201, vR 202, vR 203, vR 204, vR 205, vR 206, vR 207, vR 208, vR 209, vR 210, vR 211, vR 212, vR 213, vR 214, vR 215, vR 216, vR 217, vR 218, vI mv, vI mrc, vI mmc, vI mmk, vI mdv, vI mwl, vI mwa, vI mwp, vI 0])) 206 (oZ 4 (fput mop 3 1))) (mcpy mb (fun s => mm (304 * mv + s)) 912 304) (mcpy me (fun _ => -1) 912 304) (mcpy mt (fun _ => -1) 912 304) (mcpy mi (fun _ => -1000000) 912 304))) := by
  refine Ct.of (by decide) (Nat.le_of_ble_eq_true rfl) (fun x hg C F => ?_)
  subst hg
  show T x 0 [(0, vR 200)] [] h 0 0
  refine st_iconst C dX11_open_0 (by decide) ?_
  refine st_istore_n C 1 dX11_open_1 rfl (by decide) rfl ?_
  show T x 2 [(0, vR 200), (1, vI 0)] [] _ _ _
  refine st_iload_n C 1 dX11_open_2 rfl rfl ?_
  refine st_iconst C dX11_open_3 (by decide) ?_
  refine st_icmp_ge (tgt := 22) C dX11_open_4 (by decide) (fun c_4 => by omega) (fun c_4 => ?_)
  refine st_aload_n C 0 dX11_open_7 rfl rfl ?_
  refine st_getf C dX11_open_8 fl_X11_25 hm rfl ?_
  refine st_iload_n C 1 dX11_open_11 rfl rfl ?_
  refine st_zald C dX11_open_12 h206 (by omega) (by omega) ?_
  refine st_if_eq (tgt := 22) C dX11_open_13 (by decide) (fun c_13 => by omega) (fun c_13 => ?_)
  refine st_iinc C dX11_open_16 rfl (by decide) rfl ⟨(by omega), (by omega)⟩ ?_
  show T x 19 [(0, vR 200), (1, vI 1)] [] _ _ _
  refine st_goto (tgt := 2) C dX11_open_19 (by decide) ?_
  refine st_iload_n C 1 dX11_open_2 rfl rfl ?_
  refine st_iconst C dX11_open_3 (by decide) ?_
  refine st_icmp_ge (tgt := 22) C dX11_open_4 (by decide) (fun c_4 => by omega) (fun c_4 => ?_)
  refine st_aload_n C 0 dX11_open_7 rfl rfl ?_
  refine st_getf C dX11_open_8 fl_X11_25 hm rfl ?_
  refine st_iload_n C 1 dX11_open_11 rfl rfl ?_
  refine st_zald C dX11_open_12 h206 (by omega) (by omega) ?_
  refine st_if_eq (tgt := 22) C dX11_open_13 (by decide) (fun c_13 => by omega) (fun c_13 => ?_)
  refine st_iinc C dX11_open_16 rfl (by decide) rfl ⟨(by omega), (by omega)⟩ ?_
  show T x 19 [(0, vR 200), (1, vI 2)] [] _ _ _
  refine st_goto (tgt := 2) C dX11_open_19 (by decide) ?_
  refine st_iload_n C 1 dX11_open_2 rfl rfl ?_
  refine st_iconst C dX11_open_3 (by decide) ?_
  refine st_icmp_ge (tgt := 22) C dX11_open_4 (by decide) (fun c_4 => by omega) (fun c_4 => ?_)
  refine st_aload_n C 0 dX11_open_7 rfl rfl ?_
  refine st_getf C dX11_open_8 fl_X11_25 hm rfl ?_
  refine st_iload_n C 1 dX11_open_11 rfl rfl ?_
  refine st_zald C dX11_open_12 h206 (by omega) (by omega) ?_
  refine st_if_eq (tgt := 22) C dX11_open_13 (by decide) (fun c_13 => by omega) (fun c_13 => ?_)
  refine st_iinc C dX11_open_16 rfl (by decide) rfl ⟨(by omega), (by omega)⟩ ?_
  show T x 19 [(0, vR 200), (1, vI 3)] [] _ _ _
  refine st_goto (tgt := 2) C dX11_open_19 (by decide) ?_
  refine st_iload_n C 1 dX11_open_2 rfl rfl ?_
  refine st_iconst C dX11_open_3 (by decide) ?_
  refine st_icmp_ge (tgt := 22) C dX11_open_4 (by decide) (fun c_4 => by omega) (fun c_4 => ?_)
  refine st_aload_n C 0 dX11_open_7 rfl rfl ?_
  refine st_getf C dX11_open_8 fl_X11_25 hm rfl ?_
  refine st_iload_n C 1 dX11_open_11 rfl rfl ?_
  refine st_zald C dX11_open_12 h206 (by omega) (by omega) ?_
  refine st_if_eq (tgt := 22) C dX11_open_13 (by decide) (fun c_13 => ?_) (fun c_13 => by omega)
  refine st_aload_n C 0 dX11_open_22 rfl rfl ?_
  refine st_iload_n C 1 dX11_open_23 rfl rfl ?_
  refine st_iconst C dX11_open_24 (by decide) ?_
  refine st_icmp_ge (tgt := 32) C dX11_open_25 (by decide) (fun c_25 => by omega) (fun c_25 => ?_)
  refine st_iconst C dX11_open_28 (by decide) ?_
  refine st_goto (tgt := 33) C dX11_open_29 (by decide) ?_
  refine st_iconst C dX11_open_33 (by decide) ?_
  refine st_callV (st := []) C dX11_open_34 [vI 1, vI 1] (k_no_t (p9 := 1) hm) hm w_X11_112 rfl (by decide) (by decide) (by omega) (by omega) (Nat.le_of_ble_eq_true rfl) (ko_rt ?_)
  show T x 37 [(0, vR 200), (1, vI 3)] [vI 0] (hput h 200 (oO 10 [vR 201, vR 202, vR 203, vR 204, vR 205, vR 206, vR 207, vR 208, vR 209, vR 210, vR 211, vR 212, vR 213, vR 214, vR 215, vR 216, vR 217, vR 218, vI mv, vI mrc, vI mmc, vI mmk, vI mdv, vI mwl, vI mwa, vI mwp, vI 0])) _ _
  refine st_if_eq (tgt := 42) C dX11_open_37 (by decide) (fun c_37 => ?_) (fun c_37 => by omega)
  refine st_aload_n C 0 dX11_open_42 rfl rfl ?_
  refine st_getf C dX11_open_43 fl_X11_25 hput_s rfl ?_
  refine st_iload_n C 1 dX11_open_46 rfl rfl ?_
  refine st_iconst C dX11_open_47 (by decide) ?_
  refine st_zast C dX11_open_48 (by omega) (hput_o (by omega) h206) (by omega) (by omega) ?_
  refine st_iconst C dX11_open_49 (by decide) ?_
  refine st_istore_n C 2 dX11_open_50 rfl (by decide) rfl ?_
  show T x 51 [(0, vR 200), (1, vI 3), (2, vI 0)] [] _ _ _
  have loop_51 : ∀ (n_51 : Nat) (i : Int) (h1 : HP), (0 ≤ i) → (i ≤ 304) → (h1 = b4 (hput (hput h 200 (oO 10 [vR 201, vR 202, vR 203, vR 204, vR 205, vR 206, vR 207, vR 208, vR 209, vR 210, vR 211, vR 212, vR 213, vR 214, vR 215, vR 216, vR 217, vR 218, vI mv, vI mrc, vI mmc, vI mmk, vI mdv, vI mwl, vI mwa, vI mwp, vI 0])) 206 (oZ 4 (fput mop 3 1))) (mcpy mb (fun s => mm (304 * mv + s)) 912 i) (mcpy me (fun _ => -1) 912 i) (mcpy mt (fun _ => -1) 912 i) (mcpy mi (fun _ => -1000000) 912 i)) → (304 - i).toNat < n_51 → T x 51 [(0, vR 200), (1, vI 3), (2, vI i)] [] h1 0 0 := by
    intro n_51
    induction n_51 with
    | zero => intro i h1 g1 g2 hh hm_51; exact absurd hm_51 (Nat.not_lt_zero _)
    | succ n_51 ih_51 =>
      intro i h1 g1 g2 hh hm_51
      refine st_iload_n C 2 dX11_open_51 rfl rfl ?_
      refine st_sipush C dX11_open_52 (by decide) (by decide) ?_
      refine st_icmp_ge (tgt := 105) C dX11_open_55 (by decide) (fun c_55 => ?_) (fun c_55 => ?_)
      · refine st_iload_n C 1 dX11_open_105 rfl rfl ?_
        exact st_ireturn C F dX11_open_106 rfl (by rw [show i = 304 by omega] at hh; exact ⟨by with_reducible rfl, hh⟩) (by omega) (by omega)
      · refine st_sipush C dX11_open_58 (by decide) (by decide) ?_
        refine st_iload_n C 1 dX11_open_61 rfl rfl ?_
        refine st_imul C dX11_open_62 ⟨(by omega), (by omega)⟩ ?_
        refine st_iload_n C 2 dX11_open_63 rfl rfl ?_
        refine st_iadd C dX11_open_64 ⟨(by omega), (by omega)⟩ ?_
        refine st_istore_n C 3 dX11_open_65 rfl (by decide) rfl ?_
        show T x 66 [(0, vR 200), (1, vI 3), (2, vI i), (3, vI (912 + i))] [] _ _ _
        refine st_aload_n C 0 dX11_open_66 rfl rfl ?_
        refine st_getf C dX11_open_67 fl_X11_29 (by rw [hh]; exact b4_o (by decide) (by decide) (by decide) (by decide) (hput_o (by decide) hput_s)) rfl ?_
        refine st_iload_n C 3 dX11_open_70 rfl rfl ?_
        refine st_aload_n C 0 dX11_open_71 rfl rfl ?_
        refine st_iload_n C 2 dX11_open_72 rfl rfl ?_
        refine st_callV (st := [vI (912 + i), vR 207]) C dX11_open_73 [vI i] (k_now (mm := mm) (s9 := i) (by rw [hh]; exact b4_o (by decide) (by decide) (by decide) (by decide) (hput_o (by decide) hput_s)) (by rw [hh]; exact b4_o (by decide) (by decide) (by decide) (by decide) (hput_o (by decide) (hput_o (by decide) hmm))) hv (by omega)) (by rw [hh]; exact b4_o (by decide) (by decide) (by decide) (by decide) (hput_o (by decide) hput_s)) w_X11_105 rfl (by decide) (by decide) (by omega) (by omega) (Nat.le_of_ble_eq_true rfl) (ko_rt ?_)
        show T x 76 [(0, vR 200), (1, vI 3), (2, vI i), (3, vI (912 + i))] [vI (mm (304 * mv + i)), vI (912 + i), vR 207] _ _ _
        refine st_iast C dX11_open_76 (by rw [hh]; exact b4_7) (by omega) (by omega) ?_
        refine st_aload_n C 0 dX11_open_77 rfl rfl ?_
        refine st_getf C dX11_open_78 fl_X11_32 (hput_o (by omega) (by rw [hh]; exact b4_o (by decide) (by decide) (by decide) (by decide) (hput_o (by decide) hput_s))) rfl ?_
        refine st_iload_n C 3 dX11_open_81 rfl rfl ?_
        refine st_iconst C dX11_open_82 (by decide) ?_
        refine st_iast C dX11_open_83 (hput_o (by omega) (by rw [hh]; exact b4_8)) (by omega) (by omega) ?_
        refine st_aload_n C 0 dX11_open_84 rfl rfl ?_
        refine st_getf C dX11_open_85 fl_X11_35 (hput_o (by omega) (hput_o (by omega) (by rw [hh]; exact b4_o (by decide) (by decide) (by decide) (by decide) (hput_o (by decide) hput_s)))) rfl ?_
        refine st_iload_n C 3 dX11_open_88 rfl rfl ?_
        refine st_iconst C dX11_open_89 (by decide) ?_
        refine st_iast C dX11_open_90 (hput_o (by omega) (hput_o (by omega) (by rw [hh]; exact b4_9))) (by omega) (by omega) ?_
        refine st_aload_n C 0 dX11_open_91 rfl rfl ?_
        refine st_getf C dX11_open_92 fl_X11_38 (hput_o (by omega) (hput_o (by omega) (hput_o (by omega) (by rw [hh]; exact b4_o (by decide) (by decide) (by decide) (by decide) (hput_o (by decide) hput_s))))) rfl ?_
        refine st_iload_n C 3 dX11_open_95 rfl rfl ?_
        refine st_ldc (a := (-1000000)) C dX11_open_96 (by decide) (by decide) cn_X11_125 ?_
        refine st_iast C dX11_open_98 (hput_o (by omega) (hput_o (by omega) (hput_o (by omega) (by rw [hh]; exact b4_10)))) (by omega) (by omega) ?_
        refine st_iinc C dX11_open_99 rfl (by decide) rfl ⟨(by omega), (by omega)⟩ ?_
        show T x 102 [(0, vR 200), (1, vI 3), (2, vI (i + 1)), (3, vI (912 + i))] [] _ _ _
        refine st_goto (tgt := 51) C dX11_open_102 (by decide) ?_
        refine st_sub [0, 1, 2] rfl ?_
        exact ih_51 (i + 1) (hput (hput (hput (hput h1 207 (oI 1216 (fput (mcpy mb (fun s => mm (304 * mv + s)) 912 i) (912 + i) (mm (304 * mv + i))))) 208 (oI 1216 (fput (mcpy me (fun _ => -1) 912 i) (912 + i) (-1)))) 209 (oI 1216 (fput (mcpy mt (fun _ => -1) 912 i) (912 + i) (-1)))) 210 (oI 1216 (fput (mcpy mi (fun _ => -1000000) 912 i) (912 + i) (-1000000)))) (by omega) (by omega) (by rw [hh, b4_c]; exact b4_e (mcpy_s g1) (mcpy_s g1) (mcpy_s g1) (mcpy_s g1)) (by omega)
  exact loop_51 _ 0 (hput (hput h 200 (oO 10 [vR 201, vR 202, vR 203, vR 204, vR 205, vR 206, vR 207, vR 208, vR 209, vR 210, vR 211, vR 212, vR 213, vR 214, vR 215, vR 216, vR 217, vR 218, vI mv, vI mrc, vI mmc, vI mmk, vI mdv, vI mwl, vI mwa, vI mwp, vI 0])) 206 (oZ 4 (fput mop 3 1))) (by omega) (by omega) (by simp only [mcpy_0]; exact b4_0 (hput_o (by decide) (hput_o (by decide) h207)) (hput_o (by decide) (hput_o (by decide) h208)) (hput_o (by decide) (hput_o (by decide) h209)) (hput_o (by decide) (hput_o (by decide) h210))) (Nat.lt_succ_self _)
set_option maxRecDepth 20000 in
set_option maxHeartbeats 4000000 in
theorem m_breaks_x1 {g : Gx} {h : HP} {mv mrc mmc mmk mdv mwl mwa mwp mth : Int} {mop : Int → Int} {b9 : Int} (hm : mO h mv mrc mmc mmk mdv mwl mwa mwp mth) (h206 : h 206 = some (oZ 4 mop)) (hv : 0 ≤ mv ∧ mv ≤ 40) (hz : ∀ i, 0 ≤ i → i ≤ 3 → mop i = 0 ∨ mop i = 1) (hO : ¬ (0 ≤ b9 ∧ b9 ≤ 3 ∧ mop b9 = 1)) : Ct g yX11_breaks (.code yX11_breaks cX11_breaks 2 (some .int)) 8 0 0 [vR 200, vI b9] h (Rt (some (vI 0)) (hput h 200 (oO 10 [vR 201, vR 202, vR 203, vR 204, vR 205, vR 206, vR 207, vR 208, vR 209, vR 210, vR 211, vR 212, vR 213, vR 214, vR 215, vR 216, vR 217, vR 218, vI mv, vI mrc, vI mmc, vI mmk, vI mdv, vI mwl, vI mwa, vI mwp, vI 1]))) := by
  refine Ct.of (by decide) (Nat.le_of_ble_eq_true rfl) (fun x hg C F => ?_)
  subst hg
  show T x 0 [(0, vR 200), (1, vI b9)] [] h 0 0
  refine st_aload_n C 0 dX11_breaks_0 rfl rfl ?_
  refine st_aload_n C 0 dX11_breaks_1 rfl rfl ?_
  refine st_iload_n C 1 dX11_breaks_2 rfl rfl ?_
  refine st_callV (st := [vR 200]) C dX11_breaks_3 [vI b9] (k_isBranch_f (b9 := b9) hm h206 hz hO) hm w_X11_126 rfl (by decide) (by decide) (by omega) (by omega) (Nat.le_of_ble_eq_true rfl) (ko_rt ?_)
  show T x 6 [(0, vR 200), (1, vI b9)] [vI 0, vR 200] _ _ _
  refine st_iconst C dX11_breaks_6 (by decide) ?_
  refine st_callV (st := []) C dX11_breaks_7 [vI 0, vI 1] (k_no_f (p9 := 1) hm) hm w_X11_112 rfl (by decide) (by decide) (by omega) (by omega) (Nat.le_of_ble_eq_true rfl) (ko_rt ?_)
  show T x 10 [(0, vR 200), (1, vI b9)] [vI 1] (hput h 200 (oO 10 [vR 201, vR 202, vR 203, vR 204, vR 205, vR 206, vR 207, vR 208, vR 209, vR 210, vR 211, vR 212, vR 213, vR 214, vR 215, vR 216, vR 217, vR 218, vI mv, vI mrc, vI mmc, vI mmk, vI mdv, vI mwl, vI mwa, vI mwp, vI 1])) _ _
  refine st_if_eq (tgt := 15) C dX11_breaks_10 (by decide) (fun c_10 => by omega) (fun c_10 => ?_)
  refine st_iconst C dX11_breaks_13 (by decide) ?_
  exact st_ireturn C F dX11_breaks_14 rfl (by first | exact ⟨by with_reducible rfl, by with_reducible rfl⟩ | (exfalso; omega)) (by omega) (by omega)
set_option maxRecDepth 20000 in
set_option maxHeartbeats 4000000 in
theorem m_breaks {g : Gx} {h : HP} {mv mrc mmc mmk mdv mwl mwa mwp mth : Int} {mop : Int → Int} {mm : Int → Int} {mw : Int → Int} {me : Int → Int} {f0 : Int → Int} {kk : Int → Int} {ka : Int → Int} {kb : Int → Int} {b9 : Int} {r9 : Int} (hm : mO h mv mrc mmc mmk mdv mwl mwa mwp mth) (h206 : h 206 = some (oZ 4 mop)) (hmm : h 201 = some (oI 12464 mm)) (h202 : h 202 = some (oI 304 mw)) (h208 : h 208 = some (oI 1216 me)) (h216 : h 216 = some (oZ 64 f0)) (h203 : h 203 = some (oI 6 kk)) (h204 : h 204 = some (oI 6 ka)) (h205 : h 205 = some (oI 6 kb)) (hv : 0 ≤ mv ∧ mv ≤ 40) (hz : ∀ i, 0 ≤ i → i ≤ 3 → mop i = 0 ∨ mop i = 1) (hO : 0 ≤ b9 ∧ b9 ≤ 3 ∧ mop b9 = 1) (hrc : 0 ≤ mrc ∧ mrc ≤ 6) (hru : ∀ i, 0 ≤ i → i < mrc → (0 ≤ ka i ∧ ka i ≤ 2) ∧ (0 ≤ kb i ∧ kb i ≤ 2) ∧ (kk i = 99 ∨ kk i = 120 ∨ kk i = 103 ∨ kk i = 119 ∨ kk i = 109)) (hwv : RowV (fmix (fun s => if 0 ≤ me (304 * b9 + s) then me (304 * b9 + s) else mm (304 * mv + s)) mw 304)) (hF : IsFirst (fun i => ¬ RuleHolds (kk i) (ka i) (kb i) (fmix (fun s => if 0 ≤ me (304 * b9 + s) then me (304 * b9 + s) else mm (304 * mv + s)) mw 304)) mrc r9) : Ct g yX11_breaks (.code yX11_breaks cX11_breaks 2 (some .int)) 8 0 0 [vR 200, vI b9] h ((fun r h' => r = .inl (some (vI r9)) ∧ ∃ f4 : Int → Int, h' = (hput (hput (hput h 200 (oO 10 [vR 201, vR 202, vR 203, vR 204, vR 205, vR 206, vR 207, vR 208, vR 209, vR 210, vR 211, vR 212, vR 213, vR 214, vR 215, vR 216, vR 217, vR 218, vI mv, vI mrc, vI mmc, vI mmk, vI mdv, vI mwl, vI mwa, vI mwp, vI 0])) 202 (oI 304 (fmix (fun s => if 0 ≤ me (304 * b9 + s) then me (304 * b9 + s) else mm (304 * mv + s)) mw 304))) 216 (oZ 64 f4)))) := by
  refine Ct.of (by decide) (Nat.le_of_ble_eq_true rfl) (fun x hg C F => ?_)
  subst hg
  have hb : 0 ≤ b9 ∧ b9 ≤ 3 := ⟨hO.1, hO.2.1⟩
  show T x 0 [(0, vR 200), (1, vI b9)] [] h 0 0
  refine st_aload_n C 0 dX11_breaks_0 rfl rfl ?_
  refine st_aload_n C 0 dX11_breaks_1 rfl rfl ?_
  refine st_iload_n C 1 dX11_breaks_2 rfl rfl ?_
  refine st_callV (st := [vR 200]) C dX11_breaks_3 [vI b9] (k_isBranch_t (b9 := b9) hm h206 hz hO) hm w_X11_126 rfl (by decide) (by decide) (by omega) (by omega) (Nat.le_of_ble_eq_true rfl) (ko_rt ?_)
  show T x 6 [(0, vR 200), (1, vI b9)] [vI 1, vR 200] _ _ _
  refine st_iconst C dX11_breaks_6 (by decide) ?_
  refine st_callV (st := []) C dX11_breaks_7 [vI 1, vI 1] (k_no_t (p9 := 1) hm) hm w_X11_112 rfl (by decide) (by decide) (by omega) (by omega) (Nat.le_of_ble_eq_true rfl) (ko_rt ?_)
  show T x 10 [(0, vR 200), (1, vI b9)] [vI 0] (hput h 200 (oO 10 [vR 201, vR 202, vR 203, vR 204, vR 205, vR 206, vR 207, vR 208, vR 209, vR 210, vR 211, vR 212, vR 213, vR 214, vR 215, vR 216, vR 217, vR 218, vI mv, vI mrc, vI mmc, vI mmk, vI mdv, vI mwl, vI mwa, vI mwp, vI 0])) _ _
  refine st_if_eq (tgt := 15) C dX11_breaks_10 (by decide) (fun c_10 => ?_) (fun c_10 => by omega)
  refine st_aload_n C 0 dX11_breaks_15 rfl rfl ?_
  refine st_iload_n C 1 dX11_breaks_16 rfl rfl ?_
  refine st_callV (st := []) C dX11_breaks_17 [vI b9] (k_mbring (b9 := b9) hput_s (hput_o (by omega) hmm) hv (hput_o (by omega) h202) (hput_o (by omega) h208) hb) hput_s w_X11_148 rfl (by decide) (by decide) (by omega) (by omega) (Nat.le_of_ble_eq_true rfl) (ko_rn ?_)
  show T x 20 [(0, vR 200), (1, vI b9)] [] (hput (hput h 200 (oO 10 [vR 201, vR 202, vR 203, vR 204, vR 205, vR 206, vR 207, vR 208, vR 209, vR 210, vR 211, vR 212, vR 213, vR 214, vR 215, vR 216, vR 217, vR 218, vI mv, vI mrc, vI mmc, vI mmk, vI mdv, vI mwl, vI mwa, vI mwp, vI 0])) 202 (oI 304 (fmix (fun s => if 0 ≤ me (304 * b9 + s) then me (304 * b9 + s) else mm (304 * mv + s)) mw 304))) _ _
  refine st_aload_n C 0 dX11_breaks_20 rfl rfl ?_
  refine st_callV (st := []) C dX11_breaks_21 [] (k_mbroken (mw := (fmix (fun s => if 0 ≤ me (304 * b9 + s) then me (304 * b9 + s) else mm (304 * mv + s)) mw 304)) (f0 := f0) (hput_o (by omega) hput_s) hput_s (hput_o (by omega) (hput_o (by omega) h216)) (hput_o (by omega) (hput_o (by omega) h203)) (hput_o (by omega) (hput_o (by omega) h204)) (hput_o (by omega) (hput_o (by omega) h205)) hrc hwv hru hF) (hput_o (by omega) hput_s) w_X11_152 rfl (by decide) (by decide) (by omega) (by omega) (Nat.le_of_ble_eq_true rfl) (ko_rz (fun f4 _ => ?_))
  show T x 24 [(0, vR 200), (1, vI b9)] [vI r9] _ _ _
  exact st_ireturn C F dX11_breaks_24 rfl (by first | exact ⟨by with_reducible rfl, f4, by with_reducible rfl⟩ | (exfalso; omega)) (by omega) (by omega)
set_option maxRecDepth 20000 in
set_option maxHeartbeats 4000000 in
theorem m_merge_x1 {g : Gx} {h : HP} {mv mrc mmc mmk mdv mwl mwa mwp mth : Int} {mop : Int → Int} {b9 : Int} (hm : mO h mv mrc mmc mmk mdv mwl mwa mwp mth) (h206 : h 206 = some (oZ 4 mop)) (hv : 0 ≤ mv ∧ mv ≤ 40) (hz : ∀ i, 0 ≤ i → i ≤ 3 → mop i = 0 ∨ mop i = 1) (hO : ¬ (0 ≤ b9 ∧ b9 ≤ 3 ∧ mop b9 = 1)) : Ct g yX11_merge (.code yX11_merge cX11_merge 3 (some .int)) 8 0 0 [vR 200, vI b9] h (Rt (some (vI 0)) (hput h 200 (oO 10 [vR 201, vR 202, vR 203, vR 204, vR 205, vR 206, vR 207, vR 208, vR 209, vR 210, vR 211, vR 212, vR 213, vR 214, vR 215, vR 216, vR 217, vR 218, vI mv, vI mrc, vI mmc, vI mmk, vI mdv, vI mwl, vI mwa, vI mwp, vI 1]))) := by
  refine Ct.of (by decide) (Nat.le_of_ble_eq_true rfl) (fun x hg C F => ?_)
  subst hg
  show T x 0 [(0, vR 200), (1, vI b9)] [] h 0 0
  refine st_aload_n C 0 dX11_merge_0 rfl rfl ?_
  refine st_aload_n C 0 dX11_merge_1 rfl rfl ?_
  refine st_iload_n C 1 dX11_merge_2 rfl rfl ?_
  refine st_callV (st := [vR 200]) C dX11_merge_3 [vI b9] (k_isBranch_f (b9 := b9) hm h206 hz hO) hm w_X11_126 rfl (by decide) (by decide) (by omega) (by omega) (Nat.le_of_ble_eq_true rfl) (ko_rt ?_)
  show T x 6 [(0, vR 200), (1, vI b9)] [vI 0, vR 200] _ _ _
  refine st_iconst C dX11_merge_6 (by decide) ?_
  refine st_callV (st := []) C dX11_merge_7 [vI 0, vI 1] (k_no_f (p9 := 1) hm) hm w_X11_112 rfl (by decide) (by decide) (by omega) (by omega) (Nat.le_of_ble_eq_true rfl) (ko_rt ?_)
  show T x 10 [(0, vR 200), (1, vI b9)] [vI 1] (hput h 200 (oO 10 [vR 201, vR 202, vR 203, vR 204, vR 205, vR 206, vR 207, vR 208, vR 209, vR 210, vR 211, vR 212, vR 213, vR 214, vR 215, vR 216, vR 217, vR 218, vI mv, vI mrc, vI mmc, vI mmk, vI mdv, vI mwl, vI mwa, vI mwp, vI 1])) _ _
  refine st_if_eq (tgt := 15) C dX11_merge_10 (by decide) (fun c_10 => by omega) (fun c_10 => ?_)
  refine st_iconst C dX11_merge_13 (by decide) ?_
  exact st_ireturn C F dX11_merge_14 rfl (by first | exact ⟨by with_reducible rfl, by with_reducible rfl⟩ | (exfalso; omega)) (by omega) (by omega)
set_option maxRecDepth 20000 in
set_option maxHeartbeats 4000000 in
theorem m_merge_x2c {g : Gx} {h : HP} {mv mrc mmc mmk mdv mwl mwa mwp mth : Int} {mop : Int → Int} {mm : Int → Int} {mw : Int → Int} {mb : Int → Int} {me : Int → Int} {mt : Int → Int} {f0 : Int → Int} {kk : Int → Int} {ka : Int → Int} {kb : Int → Int} {mg : Int → Int} {ml : Int → Int} {b9 : Int} {r9 : Int} (hm : mO h mv mrc mmc mmk mdv mwl mwa mwp mth) (h206 : h 206 = some (oZ 4 mop)) (hmm : h 201 = some (oI 12464 mm)) (h202 : h 202 = some (oI 304 mw)) (h207 : h 207 = some (oI 1216 mb)) (h208 : h 208 = some (oI 1216 me)) (h209 : h 209 = some (oI 1216 mt)) (h216 : h 216 = some (oZ 64 f0)) (h203 : h 203 = some (oI 6 kk)) (h204 : h 204 = some (oI 6 ka)) (h205 : h 205 = some (oI 6 kb)) (h211 : h 211 = some (oI 41 mg)) (h212 : h 212 = some (oI 768 ml)) (hv : 0 ≤ mv ∧ mv ≤ 40) (hz : ∀ i, 0 ≤ i → i ≤ 3 → mop i = 0 ∨ mop i = 1) (hO : 0 ≤ b9 ∧ b9 ≤ 3 ∧ mop b9 = 1) (hrc : 0 ≤ mrc ∧ mrc ≤ 6) (hru : ∀ i, 0 ≤ i → i < mrc → (0 ≤ ka i ∧ ka i ≤ 2) ∧ (0 ≤ kb i ∧ kb i ≤ 2) ∧ (kk i = 99 ∨ kk i = 120 ∨ kk i = 103 ∨ kk i = 119 ∨ kk i = 109)) (hwv : RowV (fmix (fun s => if 0 ≤ me (304 * b9 + s) then me (304 * b9 + s) else mm (304 * mv + s)) mw 304)) (hF : IsFirst (fun i => ¬ RuleHolds (kk i) (ka i) (kb i) (fmix (fun s => if 0 ≤ me (304 * b9 + s) then me (304 * b9 + s) else mm (304 * mv + s)) mw 304)) mrc r9) (hc : 0 < cnt (fun j9 => (0 ≤ me (304 * b9 + j9) ∧ mm (304 * mv + j9) ≠ mb (304 * b9 + j9) ∧ mm (304 * mv + j9) ≠ me (304 * b9 + j9) ∧ mm (304 * mv + j9) ≠ mt (304 * b9 + j9))) 304) : Ct g yX11_merge (.code yX11_merge cX11_merge 3 (some .int)) 8 0 0 [vR 200, vI b9] h (Rt (some (vI 0)) (hput (hput (hput h 200 (oO 10 [vR 201, vR 202, vR 203, vR 204, vR 205, vR 206, vR 207, vR 208, vR 209, vR 210, vR 211, vR 212, vR 213, vR 214, vR 215, vR 216, vR 217, vR 218, vI mv, vI mrc, vI mmc, vI mmk, vI mdv, vI mwl, vI mwa, vI mwp, vI 0])) 202 (oI 304 (fmix (fun s => if 0 ≤ me (304 * b9 + s) then me (304 * b9 + s) else mm (304 * mv + s)) mw 304))) 200 (oO 10 [vR 201, vR 202, vR 203, vR 204, vR 205, vR 206, vR 207, vR 208, vR 209, vR 210, vR 211, vR 212, vR 213, vR 214, vR 215, vR 216, vR 217, vR 218, vI mv, vI mrc, vI mmc, vI mmk, vI mdv, vI mwl, vI mwa, vI mwp, vI 2]))) := by
  refine Ct.of (by decide) (Nat.le_of_ble_eq_true rfl) (fun x hg C F => ?_)
  subst hg
  have hb : 0 ≤ b9 ∧ b9 ≤ 3 := ⟨hO.1, hO.2.1⟩
  show T x 0 [(0, vR 200), (1, vI b9)] [] h 0 0
  refine st_aload_n C 0 dX11_merge_0 rfl rfl ?_
  refine st_aload_n C 0 dX11_merge_1 rfl rfl ?_
  refine st_iload_n C 1 dX11_merge_2 rfl rfl ?_
  refine st_callV (st := [vR 200]) C dX11_merge_3 [vI b9] (k_isBranch_t (b9 := b9) hm h206 hz hO) hm w_X11_126 rfl (by decide) (by decide) (by omega) (by omega) (Nat.le_of_ble_eq_true rfl) (ko_rt ?_)
  show T x 6 [(0, vR 200), (1, vI b9)] [vI 1, vR 200] _ _ _
  refine st_iconst C dX11_merge_6 (by decide) ?_
  refine st_callV (st := []) C dX11_merge_7 [vI 1, vI 1] (k_no_t (p9 := 1) hm) hm w_X11_112 rfl (by decide) (by decide) (by omega) (by omega) (Nat.le_of_ble_eq_true rfl) (ko_rt ?_)
  show T x 10 [(0, vR 200), (1, vI b9)] [vI 0] (hput h 200 (oO 10 [vR 201, vR 202, vR 203, vR 204, vR 205, vR 206, vR 207, vR 208, vR 209, vR 210, vR 211, vR 212, vR 213, vR 214, vR 215, vR 216, vR 217, vR 218, vI mv, vI mrc, vI mmc, vI mmk, vI mdv, vI mwl, vI mwa, vI mwp, vI 0])) _ _
  refine st_if_eq (tgt := 15) C dX11_merge_10 (by decide) (fun c_10 => ?_) (fun c_10 => by omega)
  refine st_aload_n C 0 dX11_merge_15 rfl rfl ?_
  refine st_iload_n C 1 dX11_merge_16 rfl rfl ?_
  refine st_callV (st := []) C dX11_merge_17 [vI b9] (k_mbring (b9 := b9) hput_s (hput_o (by omega) hmm) hv (hput_o (by omega) h202) (hput_o (by omega) h208) hb) hput_s w_X11_148 rfl (by decide) (by decide) (by omega) (by omega) (Nat.le_of_ble_eq_true rfl) (ko_rn ?_)
  show T x 20 [(0, vR 200), (1, vI b9)] [] (hput (hput h 200 (oO 10 [vR 201, vR 202, vR 203, vR 204, vR 205, vR 206, vR 207, vR 208, vR 209, vR 210, vR 211, vR 212, vR 213, vR 214, vR 215, vR 216, vR 217, vR 218, vI mv, vI mrc, vI mmc, vI mmk, vI mdv, vI mwl, vI mwa, vI mwp, vI 0])) 202 (oI 304 (fmix (fun s => if 0 ≤ me (304 * b9 + s) then me (304 * b9 + s) else mm (304 * mv + s)) mw 304))) _ _
  refine st_aload_n C 0 dX11_merge_20 rfl rfl ?_
  refine st_callV (st := []) C dX11_merge_21 [] (k_munlike (mw := (fmix (fun s => if 0 ≤ me (304 * b9 + s) then me (304 * b9 + s) else mm (304 * mv + s)) mw 304)) (hput_o (by omega) hput_s) (hput_o (by omega) (hput_o (by omega) hmm)) hv hput_s) (hput_o (by omega) hput_s) w_X11_159 rfl (by decide) (by decide) (by omega) (by omega) (Nat.le_of_ble_eq_true rfl) (ko_rt ?_)
  show T x 24 [(0, vR 200), (1, vI b9)] [vI (cnt (fun j => (fmix (fun s => if 0 ≤ me (304 * b9 + s) then me (304 * b9 + s) else mm (304 * mv + s)) mw 304) j ≠ mm (304 * mv + j)) 304)] _ _ _
  refine st_istore_n C 2 dX11_merge_24 rfl (by decide) rfl ?_
  show T x 25 [(0, vR 200), (1, vI b9), (2, vI (cnt (fun j => (fmix (fun s => if 0 ≤ me (304 * b9 + s) then me (304 * b9 + s) else mm (304 * mv + s)) mw 304) j ≠ mm (304 * mv + j)) 304))] [] _ _ _
  refine st_aload_n C 0 dX11_merge_25 rfl rfl ?_
  refine st_aload_n C 0 dX11_merge_26 rfl rfl ?_
  refine st_iload_n C 1 dX11_merge_27 rfl rfl ?_
  refine st_callV (st := [vR 200]) C dX11_merge_28 [vI b9] (k_conflictsOf (b9 := b9) (hput_o (by omega) hput_s) (hput_o (by omega) (hput_o (by omega) hmm)) hv (hput_o (by omega) (hput_o (by omega) h207)) (hput_o (by omega) (hput_o (by omega) h208)) (hput_o (by omega) (hput_o (by omega) h209)) (by omega)) (hput_o (by omega) hput_s) w_X11_145 rfl (by decide) (by decide) (by omega) (by omega) (Nat.le_of_ble_eq_true rfl) (ko_rt ?_)
  show T x 31 [(0, vR 200), (1, vI b9), (2, vI (cnt (fun j => (fmix (fun s => if 0 ≤ me (304 * b9 + s) then me (304 * b9 + s) else mm (304 * mv + s)) mw 304) j ≠ mm (304 * mv + j)) 304))] [vI (cnt (fun j9 => (0 ≤ me (304 * b9 + j9) ∧ mm (304 * mv + j9) ≠ mb (304 * b9 + j9) ∧ mm (304 * mv + j9) ≠ me (304 * b9 + j9) ∧ mm (304 * mv + j9) ≠ mt (304 * b9 + j9))) 304), vR 200] _ _ _
  refine st_if_ne (tgt := 45) C dX11_merge_31 (by decide) (fun c_31 => ?_) (fun c_31 => by omega)
  refine st_iconst C dX11_merge_45 (by decide) ?_
  refine st_iconst C dX11_merge_46 (by decide) ?_
  refine st_callV (st := []) C dX11_merge_47 [vI 0, vI 2] (k_no_f (p9 := 2) (hput_o (by omega) hput_s)) (hput_o (by omega) hput_s) w_X11_112 rfl (by decide) (by decide) (by omega) (by omega) (Nat.le_of_ble_eq_true rfl) (ko_rt ?_)
  show T x 50 [(0, vR 200), (1, vI b9), (2, vI (cnt (fun j => (fmix (fun s => if 0 ≤ me (304 * b9 + s) then me (304 * b9 + s) else mm (304 * mv + s)) mw 304) j ≠ mm (304 * mv + j)) 304))] [vI 1] (hput (hput (hput h 200 (oO 10 [vR 201, vR 202, vR 203, vR 204, vR 205, vR 206, vR 207, vR 208, vR 209, vR 210, vR 211, vR 212, vR 213, vR 214, vR 215, vR 216, vR 217, vR 218, vI mv, vI mrc, vI mmc, vI mmk, vI mdv, vI mwl, vI mwa, vI mwp, vI 0])) 202 (oI 304 (fmix (fun s => if 0 ≤ me (304 * b9 + s) then me (304 * b9 + s) else mm (304 * mv + s)) mw 304))) 200 (oO 10 [vR 201, vR 202, vR 203, vR 204, vR 205, vR 206, vR 207, vR 208, vR 209, vR 210, vR 211, vR 212, vR 213, vR 214, vR 215, vR 216, vR 217, vR 218, vI mv, vI mrc, vI mmc, vI mmk, vI mdv, vI mwl, vI mwa, vI mwp, vI 2])) _ _
  refine st_if_ne (tgt := 79) C dX11_merge_50 (by decide) (fun c_50 => ?_) (fun c_50 => by omega)
  refine st_iconst C dX11_merge_79 (by decide) ?_
  exact st_ireturn C F dX11_merge_80 rfl (by first | exact ⟨by with_reducible rfl, by with_reducible rfl⟩ | (exfalso; omega)) (by omega) (by omega)
set_option maxRecDepth 20000 in
set_option maxHeartbeats 4000000 in
theorem m_merge_x2b {g : Gx} {h : HP} {mv mrc mmc mmk mdv mwl mwa mwp mth : Int} {mop : Int → Int} {mm : Int → Int} {mw : Int → Int} {mb : Int → Int} {me : Int → Int} {mt : Int → Int} {f0 : Int → Int} {kk : Int → Int} {ka : Int → Int} {kb : Int → Int} {mg : Int → Int} {ml : Int → Int} {b9 : Int} {r9 : Int} (hm : mO h mv mrc mmc mmk mdv mwl mwa mwp mth) (h206 : h 206 = some (oZ 4 mop)) (hmm : h 201 = some (oI 12464 mm)) (h202 : h 202 = some (oI 304 mw)) (h207 : h 207 = some (oI 1216 mb)) (h208 : h 208 = some (oI 1216 me)) (h209 : h 209 = some (oI 1216 mt)) (h216 : h 216 = some (oZ 64 f0)) (h203 : h 203 = some (oI 6 kk)) (h204 : h 204 = some (oI 6 ka)) (h205 : h 205 = some (oI 6 kb)) (h211 : h 211 = some (oI 41 mg)) (h212 : h 212 = some (oI 768 ml)) (hv : 0 ≤ mv ∧ mv ≤ 40) (hz : ∀ i, 0 ≤ i → i ≤ 3 → mop i = 0 ∨ mop i = 1) (hO : 0 ≤ b9 ∧ b9 ≤ 3 ∧ mop b9 = 1) (hrc : 0 ≤ mrc ∧ mrc ≤ 6) (hru : ∀ i, 0 ≤ i → i < mrc → (0 ≤ ka i ∧ ka i ≤ 2) ∧ (0 ≤ kb i ∧ kb i ≤ 2) ∧ (kk i = 99 ∨ kk i = 120 ∨ kk i = 103 ∨ kk i = 119 ∨ kk i = 109)) (hwv : RowV (fmix (fun s => if 0 ≤ me (304 * b9 + s) then me (304 * b9 + s) else mm (304 * mv + s)) mw 304)) (hF : IsFirst (fun i => ¬ RuleHolds (kk i) (ka i) (kb i) (fmix (fun s => if 0 ≤ me (304 * b9 + s) then me (304 * b9 + s) else mm (304 * mv + s)) mw 304)) mrc r9) (hc : cnt (fun j9 => (0 ≤ me (304 * b9 + j9) ∧ mm (304 * mv + j9) ≠ mb (304 * b9 + j9) ∧ mm (304 * mv + j9) ≠ me (304 * b9 + j9) ∧ mm (304 * mv + j9) ≠ mt (304 * b9 + j9))) 304 = 0) (hr : 0 ≤ r9) : Ct g yX11_merge (.code yX11_merge cX11_merge 3 (some .int)) 8 0 0 [vR 200, vI b9] h ((fun r h' => r = .inl (some (vI 0)) ∧ ∃ f4 : Int → Int, h' = (hput (hput (hput (hput h 200 (oO 10 [vR 201, vR 202, vR 203, vR 204, vR 205, vR 206, vR 207, vR 208, vR 209, vR 210, vR 211, vR 212, vR 213, vR 214, vR 215, vR 216, vR 217, vR 218, vI mv, vI mrc, vI mmc, vI mmk, vI mdv, vI mwl, vI mwa, vI mwp, vI 0])) 202 (oI 304 (fmix (fun s => if 0 ≤ me (304 * b9 + s) then me (304 * b9 + s) else mm (304 * mv + s)) mw 304))) 216 (oZ 64 f4)) 200 (oO 10 [vR 201, vR 202, vR 203, vR 204, vR 205, vR 206, vR 207, vR 208, vR 209, vR 210, vR 211, vR 212, vR 213, vR 214, vR 215, vR 216, vR 217, vR 218, vI mv, vI mrc, vI mmc, vI mmk, vI mdv, vI mwl, vI mwa, vI mwp, vI 2])))) := by
  refine Ct.of (by decide) (Nat.le_of_ble_eq_true rfl) (fun x hg C F => ?_)
  subst hg
  have hb : 0 ≤ b9 ∧ b9 ≤ 3 := ⟨hO.1, hO.2.1⟩
  show T x 0 [(0, vR 200), (1, vI b9)] [] h 0 0
  refine st_aload_n C 0 dX11_merge_0 rfl rfl ?_
  refine st_aload_n C 0 dX11_merge_1 rfl rfl ?_
  refine st_iload_n C 1 dX11_merge_2 rfl rfl ?_
  refine st_callV (st := [vR 200]) C dX11_merge_3 [vI b9] (k_isBranch_t (b9 := b9) hm h206 hz hO) hm w_X11_126 rfl (by decide) (by decide) (by omega) (by omega) (Nat.le_of_ble_eq_true rfl) (ko_rt ?_)
  show T x 6 [(0, vR 200), (1, vI b9)] [vI 1, vR 200] _ _ _
  refine st_iconst C dX11_merge_6 (by decide) ?_
  refine st_callV (st := []) C dX11_merge_7 [vI 1, vI 1] (k_no_t (p9 := 1) hm) hm w_X11_112 rfl (by decide) (by decide) (by omega) (by omega) (Nat.le_of_ble_eq_true rfl) (ko_rt ?_)
  show T x 10 [(0, vR 200), (1, vI b9)] [vI 0] (hput h 200 (oO 10 [vR 201, vR 202, vR 203, vR 204, vR 205, vR 206, vR 207, vR 208, vR 209, vR 210, vR 211, vR 212, vR 213, vR 214, vR 215, vR 216, vR 217, vR 218, vI mv, vI mrc, vI mmc, vI mmk, vI mdv, vI mwl, vI mwa, vI mwp, vI 0])) _ _
  refine st_if_eq (tgt := 15) C dX11_merge_10 (by decide) (fun c_10 => ?_) (fun c_10 => by omega)
  refine st_aload_n C 0 dX11_merge_15 rfl rfl ?_
  refine st_iload_n C 1 dX11_merge_16 rfl rfl ?_
  refine st_callV (st := []) C dX11_merge_17 [vI b9] (k_mbring (b9 := b9) hput_s (hput_o (by omega) hmm) hv (hput_o (by omega) h202) (hput_o (by omega) h208) hb) hput_s w_X11_148 rfl (by decide) (by decide) (by omega) (by omega) (Nat.le_of_ble_eq_true rfl) (ko_rn ?_)
  show T x 20 [(0, vR 200), (1, vI b9)] [] (hput (hput h 200 (oO 10 [vR 201, vR 202, vR 203, vR 204, vR 205, vR 206, vR 207, vR 208, vR 209, vR 210, vR 211, vR 212, vR 213, vR 214, vR 215, vR 216, vR 217, vR 218, vI mv, vI mrc, vI mmc, vI mmk, vI mdv, vI mwl, vI mwa, vI mwp, vI 0])) 202 (oI 304 (fmix (fun s => if 0 ≤ me (304 * b9 + s) then me (304 * b9 + s) else mm (304 * mv + s)) mw 304))) _ _
  refine st_aload_n C 0 dX11_merge_20 rfl rfl ?_
  refine st_callV (st := []) C dX11_merge_21 [] (k_munlike (mw := (fmix (fun s => if 0 ≤ me (304 * b9 + s) then me (304 * b9 + s) else mm (304 * mv + s)) mw 304)) (hput_o (by omega) hput_s) (hput_o (by omega) (hput_o (by omega) hmm)) hv hput_s) (hput_o (by omega) hput_s) w_X11_159 rfl (by decide) (by decide) (by omega) (by omega) (Nat.le_of_ble_eq_true rfl) (ko_rt ?_)
  show T x 24 [(0, vR 200), (1, vI b9)] [vI (cnt (fun j => (fmix (fun s => if 0 ≤ me (304 * b9 + s) then me (304 * b9 + s) else mm (304 * mv + s)) mw 304) j ≠ mm (304 * mv + j)) 304)] _ _ _
  refine st_istore_n C 2 dX11_merge_24 rfl (by decide) rfl ?_
  show T x 25 [(0, vR 200), (1, vI b9), (2, vI (cnt (fun j => (fmix (fun s => if 0 ≤ me (304 * b9 + s) then me (304 * b9 + s) else mm (304 * mv + s)) mw 304) j ≠ mm (304 * mv + j)) 304))] [] _ _ _
  refine st_aload_n C 0 dX11_merge_25 rfl rfl ?_
  refine st_aload_n C 0 dX11_merge_26 rfl rfl ?_
  refine st_iload_n C 1 dX11_merge_27 rfl rfl ?_
  refine st_callV (st := [vR 200]) C dX11_merge_28 [vI b9] (k_conflictsOf (b9 := b9) (hput_o (by omega) hput_s) (hput_o (by omega) (hput_o (by omega) hmm)) hv (hput_o (by omega) (hput_o (by omega) h207)) (hput_o (by omega) (hput_o (by omega) h208)) (hput_o (by omega) (hput_o (by omega) h209)) (by omega)) (hput_o (by omega) hput_s) w_X11_145 rfl (by decide) (by decide) (by omega) (by omega) (Nat.le_of_ble_eq_true rfl) (ko_rt ?_)
  show T x 31 [(0, vR 200), (1, vI b9), (2, vI (cnt (fun j => (fmix (fun s => if 0 ≤ me (304 * b9 + s) then me (304 * b9 + s) else mm (304 * mv + s)) mw 304) j ≠ mm (304 * mv + j)) 304))] [vI (cnt (fun j9 => (0 ≤ me (304 * b9 + j9) ∧ mm (304 * mv + j9) ≠ mb (304 * b9 + j9) ∧ mm (304 * mv + j9) ≠ me (304 * b9 + j9) ∧ mm (304 * mv + j9) ≠ mt (304 * b9 + j9))) 304), vR 200] _ _ _
  refine st_if_ne (tgt := 45) C dX11_merge_31 (by decide) (fun c_31 => by omega) (fun c_31 => ?_)
  refine st_aload_n C 0 dX11_merge_34 rfl rfl ?_
  refine st_callV (st := [vR 200]) C dX11_merge_35 [] (k_mbroken (mw := (fmix (fun s => if 0 ≤ me (304 * b9 + s) then me (304 * b9 + s) else mm (304 * mv + s)) mw 304)) (f0 := f0) (hput_o (by omega) hput_s) hput_s (hput_o (by omega) (hput_o (by omega) h216)) (hput_o (by omega) (hput_o (by omega) h203)) (hput_o (by omega) (hput_o (by omega) h204)) (hput_o (by omega) (hput_o (by omega) h205)) hrc hwv hru hF) (hput_o (by omega) hput_s) w_X11_152 rfl (by decide) (by decide) (by omega) (by omega) (Nat.le_of_ble_eq_true rfl) (ko_rz (fun f4 _ => ?_))
  show T x 38 [(0, vR 200), (1, vI b9), (2, vI (cnt (fun j => (fmix (fun s => if 0 ≤ me (304 * b9 + s) then me (304 * b9 + s) else mm (304 * mv + s)) mw 304) j ≠ mm (304 * mv + j)) 304))] [vI r9, vR 200] _ _ _
  refine st_if_ge (tgt := 45) C dX11_merge_38 (by decide) (fun c_38 => ?_) (fun c_38 => by omega)
  refine st_iconst C dX11_merge_45 (by decide) ?_
  refine st_iconst C dX11_merge_46 (by decide) ?_
  refine st_callV (st := []) C dX11_merge_47 [vI 0, vI 2] (k_no_f (p9 := 2) (hput_o (by decide) (hput_o (by omega) hput_s))) (hput_o (by decide) (hput_o (by omega) hput_s)) w_X11_112 rfl (by decide) (by decide) (by omega) (by omega) (Nat.le_of_ble_eq_true rfl) (ko_rt ?_)
  show T x 50 [(0, vR 200), (1, vI b9), (2, vI (cnt (fun j => (fmix (fun s => if 0 ≤ me (304 * b9 + s) then me (304 * b9 + s) else mm (304 * mv + s)) mw 304) j ≠ mm (304 * mv + j)) 304))] [vI 1] (hput (hput (hput (hput h 200 (oO 10 [vR 201, vR 202, vR 203, vR 204, vR 205, vR 206, vR 207, vR 208, vR 209, vR 210, vR 211, vR 212, vR 213, vR 214, vR 215, vR 216, vR 217, vR 218, vI mv, vI mrc, vI mmc, vI mmk, vI mdv, vI mwl, vI mwa, vI mwp, vI 0])) 202 (oI 304 (fmix (fun s => if 0 ≤ me (304 * b9 + s) then me (304 * b9 + s) else mm (304 * mv + s)) mw 304))) 216 (oZ 64 f4)) 200 (oO 10 [vR 201, vR 202, vR 203, vR 204, vR 205, vR 206, vR 207, vR 208, vR 209, vR 210, vR 211, vR 212, vR 213, vR 214, vR 215, vR 216, vR 217, vR 218, vI mv, vI mrc, vI mmc, vI mmk, vI mdv, vI mwl, vI mwa, vI mwp, vI 2])) _ _
  refine st_if_ne (tgt := 79) C dX11_merge_50 (by decide) (fun c_50 => ?_) (fun c_50 => by omega)
  refine st_iconst C dX11_merge_79 (by decide) ?_
  exact st_ireturn C F dX11_merge_80 rfl (by first | exact ⟨by with_reducible rfl, f4, by with_reducible rfl⟩ | (exfalso; omega)) (by omega) (by omega)
set_option maxRecDepth 20000 in
set_option maxHeartbeats 4000000 in
theorem m_merge_x3 {g : Gx} {h : HP} {mv mrc mmc mmk mdv mwl mwa mwp mth : Int} {mop : Int → Int} {mm : Int → Int} {mw : Int → Int} {mb : Int → Int} {me : Int → Int} {mt : Int → Int} {f0 : Int → Int} {kk : Int → Int} {ka : Int → Int} {kb : Int → Int} {mg : Int → Int} {ml : Int → Int} {b9 : Int} {r9 : Int} (hm : mO h mv mrc mmc mmk mdv mwl mwa mwp mth) (h206 : h 206 = some (oZ 4 mop)) (hmm : h 201 = some (oI 12464 mm)) (h202 : h 202 = some (oI 304 mw)) (h207 : h 207 = some (oI 1216 mb)) (h208 : h 208 = some (oI 1216 me)) (h209 : h 209 = some (oI 1216 mt)) (h216 : h 216 = some (oZ 64 f0)) (h203 : h 203 = some (oI 6 kk)) (h204 : h 204 = some (oI 6 ka)) (h205 : h 205 = some (oI 6 kb)) (h211 : h 211 = some (oI 41 mg)) (h212 : h 212 = some (oI 768 ml)) (hv : 0 ≤ mv ∧ mv ≤ 40) (hz : ∀ i, 0 ≤ i → i ≤ 3 → mop i = 0 ∨ mop i = 1) (hO : 0 ≤ b9 ∧ b9 ≤ 3 ∧ mop b9 = 1) (hrc : 0 ≤ mrc ∧ mrc ≤ 6) (hru : ∀ i, 0 ≤ i → i < mrc → (0 ≤ ka i ∧ ka i ≤ 2) ∧ (0 ≤ kb i ∧ kb i ≤ 2) ∧ (kk i = 99 ∨ kk i = 120 ∨ kk i = 103 ∨ kk i = 119 ∨ kk i = 109)) (hwv : RowV (fmix (fun s => if 0 ≤ me (304 * b9 + s) then me (304 * b9 + s) else mm (304 * mv + s)) mw 304)) (hF : IsFirst (fun i => ¬ RuleHolds (kk i) (ka i) (kb i) (fmix (fun s => if 0 ≤ me (304 * b9 + s) then me (304 * b9 + s) else mm (304 * mv + s)) mw 304)) mrc r9) (hc : cnt (fun j9 => (0 ≤ me (304 * b9 + j9) ∧ mm (304 * mv + j9) ≠ mb (304 * b9 + j9) ∧ mm (304 * mv + j9) ≠ me (304 * b9 + j9) ∧ mm (304 * mv + j9) ≠ mt (304 * b9 + j9))) 304 = 0) (hr : r9 = -1) (hu : 0 < cnt (fun j => (fmix (fun s => if 0 ≤ me (304 * b9 + s) then me (304 * b9 + s) else mm (304 * mv + s)) mw 304) j ≠ mm (304 * mv + j)) 304) (hf : 40 ≤ mv) : Ct g yX11_merge (.code yX11_merge cX11_merge 3 (some .int)) 8 0 0 [vR 200, vI b9] h ((fun r h' => r = .inl (some (vI 0)) ∧ ∃ f4 : Int → Int, h' = (hput (hput (hput (hput (hput h 200 (oO 10 [vR 201, vR 202, vR 203, vR 204, vR 205, vR 206, vR 207, vR 208, vR 209, vR 210, vR 211, vR 212, vR 213, vR 214, vR 215, vR 216, vR 217, vR 218, vI mv, vI mrc, vI mmc, vI mmk, vI mdv, vI mwl, vI mwa, vI mwp, vI 0])) 202 (oI 304 (fmix (fun s => if 0 ≤ me (304 * b9 + s) then me (304 * b9 + s) else mm (304 * mv + s)) mw 304))) 216 (oZ 64 f4)) 200 (oO 10 [vR 201, vR 202, vR 203, vR 204, vR 205, vR 206, vR 207, vR 208, vR 209, vR 210, vR 211, vR 212, vR 213, vR 214, vR 215, vR 216, vR 217, vR 218, vI mv, vI mrc, vI mmc, vI mmk, vI mdv, vI mwl, vI mwa, vI mwp, vI 0])) 200 (oO 10 [vR 201, vR 202, vR 203, vR 204, vR 205, vR 206, vR 207, vR 208, vR 209, vR 210, vR 211, vR 212, vR 213, vR 214, vR 215, vR 216, vR 217, vR 218, vI mv, vI mrc, vI mmc, vI mmk, vI mdv, vI mwl, vI mwa, vI mwp, vI 3])))) := by
  refine Ct.of (by decide) (Nat.le_of_ble_eq_true rfl) (fun x hg C F => ?_)
  subst hg
  have hb : 0 ≤ b9 ∧ b9 ≤ 3 := ⟨hO.1, hO.2.1⟩
  show T x 0 [(0, vR 200), (1, vI b9)] [] h 0 0
  refine st_aload_n C 0 dX11_merge_0 rfl rfl ?_
  refine st_aload_n C 0 dX11_merge_1 rfl rfl ?_
  refine st_iload_n C 1 dX11_merge_2 rfl rfl ?_
  refine st_callV (st := [vR 200]) C dX11_merge_3 [vI b9] (k_isBranch_t (b9 := b9) hm h206 hz hO) hm w_X11_126 rfl (by decide) (by decide) (by omega) (by omega) (Nat.le_of_ble_eq_true rfl) (ko_rt ?_)
  show T x 6 [(0, vR 200), (1, vI b9)] [vI 1, vR 200] _ _ _
  refine st_iconst C dX11_merge_6 (by decide) ?_
  refine st_callV (st := []) C dX11_merge_7 [vI 1, vI 1] (k_no_t (p9 := 1) hm) hm w_X11_112 rfl (by decide) (by decide) (by omega) (by omega) (Nat.le_of_ble_eq_true rfl) (ko_rt ?_)
  show T x 10 [(0, vR 200), (1, vI b9)] [vI 0] (hput h 200 (oO 10 [vR 201, vR 202, vR 203, vR 204, vR 205, vR 206, vR 207, vR 208, vR 209, vR 210, vR 211, vR 212, vR 213, vR 214, vR 215, vR 216, vR 217, vR 218, vI mv, vI mrc, vI mmc, vI mmk, vI mdv, vI mwl, vI mwa, vI mwp, vI 0])) _ _
  refine st_if_eq (tgt := 15) C dX11_merge_10 (by decide) (fun c_10 => ?_) (fun c_10 => by omega)
  refine st_aload_n C 0 dX11_merge_15 rfl rfl ?_
  refine st_iload_n C 1 dX11_merge_16 rfl rfl ?_
  refine st_callV (st := []) C dX11_merge_17 [vI b9] (k_mbring (b9 := b9) hput_s (hput_o (by omega) hmm) hv (hput_o (by omega) h202) (hput_o (by omega) h208) hb) hput_s w_X11_148 rfl (by decide) (by decide) (by omega) (by omega) (Nat.le_of_ble_eq_true rfl) (ko_rn ?_)
  show T x 20 [(0, vR 200), (1, vI b9)] [] (hput (hput h 200 (oO 10 [vR 201, vR 202, vR 203, vR 204, vR 205, vR 206, vR 207, vR 208, vR 209, vR 210, vR 211, vR 212, vR 213, vR 214, vR 215, vR 216, vR 217, vR 218, vI mv, vI mrc, vI mmc, vI mmk, vI mdv, vI mwl, vI mwa, vI mwp, vI 0])) 202 (oI 304 (fmix (fun s => if 0 ≤ me (304 * b9 + s) then me (304 * b9 + s) else mm (304 * mv + s)) mw 304))) _ _
  refine st_aload_n C 0 dX11_merge_20 rfl rfl ?_
  refine st_callV (st := []) C dX11_merge_21 [] (k_munlike (mw := (fmix (fun s => if 0 ≤ me (304 * b9 + s) then me (304 * b9 + s) else mm (304 * mv + s)) mw 304)) (hput_o (by omega) hput_s) (hput_o (by omega) (hput_o (by omega) hmm)) hv hput_s) (hput_o (by omega) hput_s) w_X11_159 rfl (by decide) (by decide) (by omega) (by omega) (Nat.le_of_ble_eq_true rfl) (ko_rt ?_)
  show T x 24 [(0, vR 200), (1, vI b9)] [vI (cnt (fun j => (fmix (fun s => if 0 ≤ me (304 * b9 + s) then me (304 * b9 + s) else mm (304 * mv + s)) mw 304) j ≠ mm (304 * mv + j)) 304)] _ _ _
  refine st_istore_n C 2 dX11_merge_24 rfl (by decide) rfl ?_
  show T x 25 [(0, vR 200), (1, vI b9), (2, vI (cnt (fun j => (fmix (fun s => if 0 ≤ me (304 * b9 + s) then me (304 * b9 + s) else mm (304 * mv + s)) mw 304) j ≠ mm (304 * mv + j)) 304))] [] _ _ _
  refine st_aload_n C 0 dX11_merge_25 rfl rfl ?_
  refine st_aload_n C 0 dX11_merge_26 rfl rfl ?_
  refine st_iload_n C 1 dX11_merge_27 rfl rfl ?_
  refine st_callV (st := [vR 200]) C dX11_merge_28 [vI b9] (k_conflictsOf (b9 := b9) (hput_o (by omega) hput_s) (hput_o (by omega) (hput_o (by omega) hmm)) hv (hput_o (by omega) (hput_o (by omega) h207)) (hput_o (by omega) (hput_o (by omega) h208)) (hput_o (by omega) (hput_o (by omega) h209)) (by omega)) (hput_o (by omega) hput_s) w_X11_145 rfl (by decide) (by decide) (by omega) (by omega) (Nat.le_of_ble_eq_true rfl) (ko_rt ?_)
  show T x 31 [(0, vR 200), (1, vI b9), (2, vI (cnt (fun j => (fmix (fun s => if 0 ≤ me (304 * b9 + s) then me (304 * b9 + s) else mm (304 * mv + s)) mw 304) j ≠ mm (304 * mv + j)) 304))] [vI (cnt (fun j9 => (0 ≤ me (304 * b9 + j9) ∧ mm (304 * mv + j9) ≠ mb (304 * b9 + j9) ∧ mm (304 * mv + j9) ≠ me (304 * b9 + j9) ∧ mm (304 * mv + j9) ≠ mt (304 * b9 + j9))) 304), vR 200] _ _ _
  refine st_if_ne (tgt := 45) C dX11_merge_31 (by decide) (fun c_31 => by omega) (fun c_31 => ?_)
  refine st_aload_n C 0 dX11_merge_34 rfl rfl ?_
  refine st_callV (st := [vR 200]) C dX11_merge_35 [] (k_mbroken (mw := (fmix (fun s => if 0 ≤ me (304 * b9 + s) then me (304 * b9 + s) else mm (304 * mv + s)) mw 304)) (f0 := f0) (hput_o (by omega) hput_s) hput_s (hput_o (by omega) (hput_o (by omega) h216)) (hput_o (by omega) (hput_o (by omega) h203)) (hput_o (by omega) (hput_o (by omega) h204)) (hput_o (by omega) (hput_o (by omega) h205)) hrc hwv hru hF) (hput_o (by omega) hput_s) w_X11_152 rfl (by decide) (by decide) (by omega) (by omega) (Nat.le_of_ble_eq_true rfl) (ko_rz (fun f4 _ => ?_))
  show T x 38 [(0, vR 200), (1, vI b9), (2, vI (cnt (fun j => (fmix (fun s => if 0 ≤ me (304 * b9 + s) then me (304 * b9 + s) else mm (304 * mv + s)) mw 304) j ≠ mm (304 * mv + j)) 304))] [vI r9, vR 200] _ _ _
  refine st_if_ge (tgt := 45) C dX11_merge_38 (by decide) (fun c_38 => by omega) (fun c_38 => ?_)
  refine st_iconst C dX11_merge_41 (by decide) ?_
  refine st_goto (tgt := 46) C dX11_merge_42 (by decide) ?_
  refine st_iconst C dX11_merge_46 (by decide) ?_
  refine st_callV (st := []) C dX11_merge_47 [vI 1, vI 2] (k_no_t (p9 := 2) (hput_o (by decide) (hput_o (by omega) hput_s))) (hput_o (by decide) (hput_o (by omega) hput_s)) w_X11_112 rfl (by decide) (by decide) (by omega) (by omega) (Nat.le_of_ble_eq_true rfl) (ko_rt ?_)
  show T x 50 [(0, vR 200), (1, vI b9), (2, vI (cnt (fun j => (fmix (fun s => if 0 ≤ me (304 * b9 + s) then me (304 * b9 + s) else mm (304 * mv + s)) mw 304) j ≠ mm (304 * mv + j)) 304))] [vI 0] (hput (hput (hput (hput h 200 (oO 10 [vR 201, vR 202, vR 203, vR 204, vR 205, vR 206, vR 207, vR 208, vR 209, vR 210, vR 211, vR 212, vR 213, vR 214, vR 215, vR 216, vR 217, vR 218, vI mv, vI mrc, vI mmc, vI mmk, vI mdv, vI mwl, vI mwa, vI mwp, vI 0])) 202 (oI 304 (fmix (fun s => if 0 ≤ me (304 * b9 + s) then me (304 * b9 + s) else mm (304 * mv + s)) mw 304))) 216 (oZ 64 f4)) 200 (oO 10 [vR 201, vR 202, vR 203, vR 204, vR 205, vR 206, vR 207, vR 208, vR 209, vR 210, vR 211, vR 212, vR 213, vR 214, vR 215, vR 216, vR 217, vR 218, vI mv, vI mrc, vI mmc, vI mmk, vI mdv, vI mwl, vI mwa, vI mwp, vI 0])) _ _
  refine st_if_ne (tgt := 79) C dX11_merge_50 (by decide) (fun c_50 => by omega) (fun c_50 => ?_)
  refine st_aload_n C 0 dX11_merge_53 rfl rfl ?_
  refine st_iload_n C 2 dX11_merge_54 rfl rfl ?_
  refine st_if_eq (tgt := 67) C dX11_merge_55 (by decide) (fun c_55 => by omega) (fun c_55 => ?_)
  refine st_aload_n C 0 dX11_merge_58 rfl rfl ?_
  refine st_getf C dX11_merge_59 fl_X11_72 hput_s rfl ?_
  refine st_bipush C dX11_merge_62 (by decide) (by decide) ?_
  refine st_icmp_ge (tgt := 71) C dX11_merge_64 (by decide) (fun c_64 => ?_) (fun c_64 => by omega)
  refine st_iconst C dX11_merge_71 (by decide) ?_
  refine st_iconst C dX11_merge_72 (by decide) ?_
  refine st_callV (st := []) C dX11_merge_73 [vI 0, vI 3] (k_no_f (p9 := 3) hput_s) hput_s w_X11_112 rfl (by decide) (by decide) (by omega) (by omega) (Nat.le_of_ble_eq_true rfl) (ko_rt ?_)
  show T x 76 [(0, vR 200), (1, vI b9), (2, vI (cnt (fun j => (fmix (fun s => if 0 ≤ me (304 * b9 + s) then me (304 * b9 + s) else mm (304 * mv + s)) mw 304) j ≠ mm (304 * mv + j)) 304))] [vI 1] (hput (hput (hput (hput (hput h 200 (oO 10 [vR 201, vR 202, vR 203, vR 204, vR 205, vR 206, vR 207, vR 208, vR 209, vR 210, vR 211, vR 212, vR 213, vR 214, vR 215, vR 216, vR 217, vR 218, vI mv, vI mrc, vI mmc, vI mmk, vI mdv, vI mwl, vI mwa, vI mwp, vI 0])) 202 (oI 304 (fmix (fun s => if 0 ≤ me (304 * b9 + s) then me (304 * b9 + s) else mm (304 * mv + s)) mw 304))) 216 (oZ 64 f4)) 200 (oO 10 [vR 201, vR 202, vR 203, vR 204, vR 205, vR 206, vR 207, vR 208, vR 209, vR 210, vR 211, vR 212, vR 213, vR 214, vR 215, vR 216, vR 217, vR 218, vI mv, vI mrc, vI mmc, vI mmk, vI mdv, vI mwl, vI mwa, vI mwp, vI 0])) 200 (oO 10 [vR 201, vR 202, vR 203, vR 204, vR 205, vR 206, vR 207, vR 208, vR 209, vR 210, vR 211, vR 212, vR 213, vR 214, vR 215, vR 216, vR 217, vR 218, vI mv, vI mrc, vI mmc, vI mmk, vI mdv, vI mwl, vI mwa, vI mwp, vI 3])) _ _
  refine st_if_eq (tgt := 81) C dX11_merge_76 (by decide) (fun c_76 => by omega) (fun c_76 => ?_)
  refine st_iconst C dX11_merge_79 (by decide) ?_
  exact st_ireturn C F dX11_merge_80 rfl (by first | exact ⟨by with_reducible rfl, f4, by with_reducible rfl⟩ | (exfalso; omega)) (by omega) (by omega)
set_option maxRecDepth 20000 in
set_option maxHeartbeats 4000000 in
theorem m_merge_0 {g : Gx} {h : HP} {mv mrc mmc mmk mdv mwl mwa mwp mth : Int} {mop : Int → Int} {mm : Int → Int} {mw : Int → Int} {mb : Int → Int} {me : Int → Int} {mt : Int → Int} {f0 : Int → Int} {kk : Int → Int} {ka : Int → Int} {kb : Int → Int} {mg : Int → Int} {ml : Int → Int} {b9 : Int} {r9 : Int} (hm : mO h mv mrc mmc mmk mdv mwl mwa mwp mth) (h206 : h 206 = some (oZ 4 mop)) (hmm : h 201 = some (oI 12464 mm)) (h202 : h 202 = some (oI 304 mw)) (h207 : h 207 = some (oI 1216 mb)) (h208 : h 208 = some (oI 1216 me)) (h209 : h 209 = some (oI 1216 mt)) (h216 : h 216 = some (oZ 64 f0)) (h203 : h 203 = some (oI 6 kk)) (h204 : h 204 = some (oI 6 ka)) (h205 : h 205 = some (oI 6 kb)) (h211 : h 211 = some (oI 41 mg)) (h212 : h 212 = some (oI 768 ml)) (hv : 0 ≤ mv ∧ mv ≤ 40) (hz : ∀ i, 0 ≤ i → i ≤ 3 → mop i = 0 ∨ mop i = 1) (hO : 0 ≤ b9 ∧ b9 ≤ 3 ∧ mop b9 = 1) (hrc : 0 ≤ mrc ∧ mrc ≤ 6) (hru : ∀ i, 0 ≤ i → i < mrc → (0 ≤ ka i ∧ ka i ≤ 2) ∧ (0 ≤ kb i ∧ kb i ≤ 2) ∧ (kk i = 99 ∨ kk i = 120 ∨ kk i = 103 ∨ kk i = 119 ∨ kk i = 109)) (hwv : RowV (fmix (fun s => if 0 ≤ me (304 * b9 + s) then me (304 * b9 + s) else mm (304 * mv + s)) mw 304)) (hF : IsFirst (fun i => ¬ RuleHolds (kk i) (ka i) (kb i) (fmix (fun s => if 0 ≤ me (304 * b9 + s) then me (304 * b9 + s) else mm (304 * mv + s)) mw 304)) mrc r9) (hc : cnt (fun j9 => (0 ≤ me (304 * b9 + j9) ∧ mm (304 * mv + j9) ≠ mb (304 * b9 + j9) ∧ mm (304 * mv + j9) ≠ me (304 * b9 + j9) ∧ mm (304 * mv + j9) ≠ mt (304 * b9 + j9))) 304 = 0) (hr : r9 = -1) (hu : cnt (fun j => (fmix (fun s => if 0 ≤ me (304 * b9 + s) then me (304 * b9 + s) else mm (304 * mv + s)) mw 304) j ≠ mm (304 * mv + j)) 304 = 0) : Ct g yX11_merge (.code yX11_merge cX11_merge 3 (some .int)) 8 0 0 [vR 200, vI b9] h ((fun r h' => r = .inl (some (vI (cnt (fun j => (fmix (fun s => if 0 ≤ me (304 * b9 + s) then me (304 * b9 + s) else mm (304 * mv + s)) mw 304) j ≠ mm (304 * mv + j)) 304))) ∧ ∃ f4 : Int → Int, h' = (hput (hput (hput (hput (hput (hput h 200 (oO 10 [vR 201, vR 202, vR 203, vR 204, vR 205, vR 206, vR 207, vR 208, vR 209, vR 210, vR 211, vR 212, vR 213, vR 214, vR 215, vR 216, vR 217, vR 218, vI mv, vI mrc, vI mmc, vI mmk, vI mdv, vI mwl, vI mwa, vI mwp, vI 0])) 202 (oI 304 (fmix (fun s => if 0 ≤ me (304 * b9 + s) then me (304 * b9 + s) else mm (304 * mv + s)) mw 304))) 216 (oZ 64 f4)) 200 (oO 10 [vR 201, vR 202, vR 203, vR 204, vR 205, vR 206, vR 207, vR 208, vR 209, vR 210, vR 211, vR 212, vR 213, vR 214, vR 215, vR 216, vR 217, vR 218, vI mv, vI mrc, vI mmc, vI mmk, vI mdv, vI mwl, vI mwa, vI mwp, vI 0])) 200 (oO 10 [vR 201, vR 202, vR 203, vR 204, vR 205, vR 206, vR 207, vR 208, vR 209, vR 210, vR 211, vR 212, vR 213, vR 214, vR 215, vR 216, vR 217, vR 218, vI mv, vI mrc, vI mmc, vI mmk, vI mdv, vI mwl, vI mwa, vI mwp, vI 0])) 206 (oZ 4 (fput mop b9 0))))) := by
  refine Ct.of (by decide) (Nat.le_of_ble_eq_true rfl) (fun x hg C F => ?_)
  subst hg
  have hb : 0 ≤ b9 ∧ b9 ≤ 3 := ⟨hO.1, hO.2.1⟩
  show T x 0 [(0, vR 200), (1, vI b9)] [] h 0 0
  refine st_aload_n C 0 dX11_merge_0 rfl rfl ?_
  refine st_aload_n C 0 dX11_merge_1 rfl rfl ?_
  refine st_iload_n C 1 dX11_merge_2 rfl rfl ?_
  refine st_callV (st := [vR 200]) C dX11_merge_3 [vI b9] (k_isBranch_t (b9 := b9) hm h206 hz hO) hm w_X11_126 rfl (by decide) (by decide) (by omega) (by omega) (Nat.le_of_ble_eq_true rfl) (ko_rt ?_)
  show T x 6 [(0, vR 200), (1, vI b9)] [vI 1, vR 200] _ _ _
  refine st_iconst C dX11_merge_6 (by decide) ?_
  refine st_callV (st := []) C dX11_merge_7 [vI 1, vI 1] (k_no_t (p9 := 1) hm) hm w_X11_112 rfl (by decide) (by decide) (by omega) (by omega) (Nat.le_of_ble_eq_true rfl) (ko_rt ?_)
  show T x 10 [(0, vR 200), (1, vI b9)] [vI 0] (hput h 200 (oO 10 [vR 201, vR 202, vR 203, vR 204, vR 205, vR 206, vR 207, vR 208, vR 209, vR 210, vR 211, vR 212, vR 213, vR 214, vR 215, vR 216, vR 217, vR 218, vI mv, vI mrc, vI mmc, vI mmk, vI mdv, vI mwl, vI mwa, vI mwp, vI 0])) _ _
  refine st_if_eq (tgt := 15) C dX11_merge_10 (by decide) (fun c_10 => ?_) (fun c_10 => by omega)
  refine st_aload_n C 0 dX11_merge_15 rfl rfl ?_
  refine st_iload_n C 1 dX11_merge_16 rfl rfl ?_
  refine st_callV (st := []) C dX11_merge_17 [vI b9] (k_mbring (b9 := b9) hput_s (hput_o (by omega) hmm) hv (hput_o (by omega) h202) (hput_o (by omega) h208) hb) hput_s w_X11_148 rfl (by decide) (by decide) (by omega) (by omega) (Nat.le_of_ble_eq_true rfl) (ko_rn ?_)
  show T x 20 [(0, vR 200), (1, vI b9)] [] (hput (hput h 200 (oO 10 [vR 201, vR 202, vR 203, vR 204, vR 205, vR 206, vR 207, vR 208, vR 209, vR 210, vR 211, vR 212, vR 213, vR 214, vR 215, vR 216, vR 217, vR 218, vI mv, vI mrc, vI mmc, vI mmk, vI mdv, vI mwl, vI mwa, vI mwp, vI 0])) 202 (oI 304 (fmix (fun s => if 0 ≤ me (304 * b9 + s) then me (304 * b9 + s) else mm (304 * mv + s)) mw 304))) _ _
  refine st_aload_n C 0 dX11_merge_20 rfl rfl ?_
  refine st_callV (st := []) C dX11_merge_21 [] (k_munlike (mw := (fmix (fun s => if 0 ≤ me (304 * b9 + s) then me (304 * b9 + s) else mm (304 * mv + s)) mw 304)) (hput_o (by omega) hput_s) (hput_o (by omega) (hput_o (by omega) hmm)) hv hput_s) (hput_o (by omega) hput_s) w_X11_159 rfl (by decide) (by decide) (by omega) (by omega) (Nat.le_of_ble_eq_true rfl) (ko_rt ?_)
  show T x 24 [(0, vR 200), (1, vI b9)] [vI (cnt (fun j => (fmix (fun s => if 0 ≤ me (304 * b9 + s) then me (304 * b9 + s) else mm (304 * mv + s)) mw 304) j ≠ mm (304 * mv + j)) 304)] _ _ _
  refine st_istore_n C 2 dX11_merge_24 rfl (by decide) rfl ?_
  show T x 25 [(0, vR 200), (1, vI b9), (2, vI (cnt (fun j => (fmix (fun s => if 0 ≤ me (304 * b9 + s) then me (304 * b9 + s) else mm (304 * mv + s)) mw 304) j ≠ mm (304 * mv + j)) 304))] [] _ _ _
  refine st_aload_n C 0 dX11_merge_25 rfl rfl ?_
  refine st_aload_n C 0 dX11_merge_26 rfl rfl ?_
  refine st_iload_n C 1 dX11_merge_27 rfl rfl ?_
  refine st_callV (st := [vR 200]) C dX11_merge_28 [vI b9] (k_conflictsOf (b9 := b9) (hput_o (by omega) hput_s) (hput_o (by omega) (hput_o (by omega) hmm)) hv (hput_o (by omega) (hput_o (by omega) h207)) (hput_o (by omega) (hput_o (by omega) h208)) (hput_o (by omega) (hput_o (by omega) h209)) (by omega)) (hput_o (by omega) hput_s) w_X11_145 rfl (by decide) (by decide) (by omega) (by omega) (Nat.le_of_ble_eq_true rfl) (ko_rt ?_)
  show T x 31 [(0, vR 200), (1, vI b9), (2, vI (cnt (fun j => (fmix (fun s => if 0 ≤ me (304 * b9 + s) then me (304 * b9 + s) else mm (304 * mv + s)) mw 304) j ≠ mm (304 * mv + j)) 304))] [vI (cnt (fun j9 => (0 ≤ me (304 * b9 + j9) ∧ mm (304 * mv + j9) ≠ mb (304 * b9 + j9) ∧ mm (304 * mv + j9) ≠ me (304 * b9 + j9) ∧ mm (304 * mv + j9) ≠ mt (304 * b9 + j9))) 304), vR 200] _ _ _
  refine st_if_ne (tgt := 45) C dX11_merge_31 (by decide) (fun c_31 => by omega) (fun c_31 => ?_)
  refine st_aload_n C 0 dX11_merge_34 rfl rfl ?_
  refine st_callV (st := [vR 200]) C dX11_merge_35 [] (k_mbroken (mw := (fmix (fun s => if 0 ≤ me (304 * b9 + s) then me (304 * b9 + s) else mm (304 * mv + s)) mw 304)) (f0 := f0) (hput_o (by omega) hput_s) hput_s (hput_o (by omega) (hput_o (by omega) h216)) (hput_o (by omega) (hput_o (by omega) h203)) (hput_o (by omega) (hput_o (by omega) h204)) (hput_o (by omega) (hput_o (by omega) h205)) hrc hwv hru hF) (hput_o (by omega) hput_s) w_X11_152 rfl (by decide) (by decide) (by omega) (by omega) (Nat.le_of_ble_eq_true rfl) (ko_rz (fun f4 _ => ?_))
  show T x 38 [(0, vR 200), (1, vI b9), (2, vI (cnt (fun j => (fmix (fun s => if 0 ≤ me (304 * b9 + s) then me (304 * b9 + s) else mm (304 * mv + s)) mw 304) j ≠ mm (304 * mv + j)) 304))] [vI r9, vR 200] _ _ _
  refine st_if_ge (tgt := 45) C dX11_merge_38 (by decide) (fun c_38 => by omega) (fun c_38 => ?_)
  refine st_iconst C dX11_merge_41 (by decide) ?_
  refine st_goto (tgt := 46) C dX11_merge_42 (by decide) ?_
  refine st_iconst C dX11_merge_46 (by decide) ?_
  refine st_callV (st := []) C dX11_merge_47 [vI 1, vI 2] (k_no_t (p9 := 2) (hput_o (by decide) (hput_o (by omega) hput_s))) (hput_o (by decide) (hput_o (by omega) hput_s)) w_X11_112 rfl (by decide) (by decide) (by omega) (by omega) (Nat.le_of_ble_eq_true rfl) (ko_rt ?_)
  show T x 50 [(0, vR 200), (1, vI b9), (2, vI (cnt (fun j => (fmix (fun s => if 0 ≤ me (304 * b9 + s) then me (304 * b9 + s) else mm (304 * mv + s)) mw 304) j ≠ mm (304 * mv + j)) 304))] [vI 0] (hput (hput (hput (hput h 200 (oO 10 [vR 201, vR 202, vR 203, vR 204, vR 205, vR 206, vR 207, vR 208, vR 209, vR 210, vR 211, vR 212, vR 213, vR 214, vR 215, vR 216, vR 217, vR 218, vI mv, vI mrc, vI mmc, vI mmk, vI mdv, vI mwl, vI mwa, vI mwp, vI 0])) 202 (oI 304 (fmix (fun s => if 0 ≤ me (304 * b9 + s) then me (304 * b9 + s) else mm (304 * mv + s)) mw 304))) 216 (oZ 64 f4)) 200 (oO 10 [vR 201, vR 202, vR 203, vR 204, vR 205, vR 206, vR 207, vR 208, vR 209, vR 210, vR 211, vR 212, vR 213, vR 214, vR 215, vR 216, vR 217, vR 218, vI mv, vI mrc, vI mmc, vI mmk, vI mdv, vI mwl, vI mwa, vI mwp, vI 0])) _ _
  refine st_if_ne (tgt := 79) C dX11_merge_50 (by decide) (fun c_50 => by omega) (fun c_50 => ?_)
  refine st_aload_n C 0 dX11_merge_53 rfl rfl ?_
  refine st_iload_n C 2 dX11_merge_54 rfl rfl ?_
  refine st_if_eq (tgt := 67) C dX11_merge_55 (by decide) (fun c_55 => ?_) (fun c_55 => by omega)
  refine st_iconst C dX11_merge_67 (by decide) ?_
  refine st_goto (tgt := 72) C dX11_merge_68 (by decide) ?_
  refine st_iconst C dX11_merge_72 (by decide) ?_
  refine st_callV (st := []) C dX11_merge_73 [vI 1, vI 3] (k_no_t (p9 := 3) hput_s) hput_s w_X11_112 rfl (by decide) (by decide) (by omega) (by omega) (Nat.le_of_ble_eq_true rfl) (ko_rt ?_)
  show T x 76 [(0, vR 200), (1, vI b9), (2, vI (cnt (fun j => (fmix (fun s => if 0 ≤ me (304 * b9 + s) then me (304 * b9 + s) else mm (304 * mv + s)) mw 304) j ≠ mm (304 * mv + j)) 304))] [vI 0] (hput (hput (hput (hput (hput h 200 (oO 10 [vR 201, vR 202, vR 203, vR 204, vR 205, vR 206, vR 207, vR 208, vR 209, vR 210, vR 211, vR 212, vR 213, vR 214, vR 215, vR 216, vR 217, vR 218, vI mv, vI mrc, vI mmc, vI mmk, vI mdv, vI mwl, vI mwa, vI mwp, vI 0])) 202 (oI 304 (fmix (fun s => if 0 ≤ me (304 * b9 + s) then me (304 * b9 + s) else mm (304 * mv + s)) mw 304))) 216 (oZ 64 f4)) 200 (oO 10 [vR 201, vR 202, vR 203, vR 204, vR 205, vR 206, vR 207, vR 208, vR 209, vR 210, vR 211, vR 212, vR 213, vR 214, vR 215, vR 216, vR 217, vR 218, vI mv, vI mrc, vI mmc, vI mmk, vI mdv, vI mwl, vI mwa, vI mwp, vI 0])) 200 (oO 10 [vR 201, vR 202, vR 203, vR 204, vR 205, vR 206, vR 207, vR 208, vR 209, vR 210, vR 211, vR 212, vR 213, vR 214, vR 215, vR 216, vR 217, vR 218, vI mv, vI mrc, vI mmc, vI mmk, vI mdv, vI mwl, vI mwa, vI mwp, vI 0])) _ _
  refine st_if_eq (tgt := 81) C dX11_merge_76 (by decide) (fun c_76 => ?_) (fun c_76 => by omega)
  refine st_aload_n C 0 dX11_merge_81 rfl rfl ?_
  refine st_getf C dX11_merge_82 fl_X11_25 hput_s rfl ?_
  refine st_iload_n C 1 dX11_merge_85 rfl rfl ?_
  refine st_iconst C dX11_merge_86 (by decide) ?_
  refine st_zast C dX11_merge_87 (by omega) (hput_o (by omega) (hput_o (by omega) (hput_o (by decide) (hput_o (by omega) (hput_o (by omega) h206))))) (by omega) (by omega) ?_
  refine st_iload_n C 2 dX11_merge_88 rfl rfl ?_
  refine st_if_le (tgt := 119) C dX11_merge_89 (by decide) (fun c_89 => ?_) (fun c_89 => by omega)
  refine st_iload_n C 2 dX11_merge_119 rfl rfl ?_
  exact st_ireturn C F dX11_merge_120 rfl (by first | exact ⟨by with_reducible rfl, f4, by with_reducible rfl⟩ | (exfalso; omega)) (by omega) (by omega)
set_option maxRecDepth 20000 in
set_option maxHeartbeats 4000000 in
theorem m_merge_1 {g : Gx} {h : HP} {mv mrc mmc mmk mdv mwl mwa mwp mth : Int} {mop : Int → Int} {mm : Int → Int} {mw : Int → Int} {mb : Int → Int} {me : Int → Int} {mt : Int → Int} {f0 : Int → Int} {kk : Int → Int} {ka : Int → Int} {kb : Int → Int} {mg : Int → Int} {ml : Int → Int} {b9 : Int} {r9 : Int} (hm : mO h mv mrc mmc mmk mdv mwl mwa mwp mth) (h206 : h 206 = some (oZ 4 mop)) (hmm : h 201 = some (oI 12464 mm)) (h202 : h 202 = some (oI 304 mw)) (h207 : h 207 = some (oI 1216 mb)) (h208 : h 208 = some (oI 1216 me)) (h209 : h 209 = some (oI 1216 mt)) (h216 : h 216 = some (oZ 64 f0)) (h203 : h 203 = some (oI 6 kk)) (h204 : h 204 = some (oI 6 ka)) (h205 : h 205 = some (oI 6 kb)) (h211 : h 211 = some (oI 41 mg)) (h212 : h 212 = some (oI 768 ml)) (hv : 0 ≤ mv ∧ mv ≤ 40) (hz : ∀ i, 0 ≤ i → i ≤ 3 → mop i = 0 ∨ mop i = 1) (hO : 0 ≤ b9 ∧ b9 ≤ 3 ∧ mop b9 = 1) (hrc : 0 ≤ mrc ∧ mrc ≤ 6) (hru : ∀ i, 0 ≤ i → i < mrc → (0 ≤ ka i ∧ ka i ≤ 2) ∧ (0 ≤ kb i ∧ kb i ≤ 2) ∧ (kk i = 99 ∨ kk i = 120 ∨ kk i = 103 ∨ kk i = 119 ∨ kk i = 109)) (hwv : RowV (fmix (fun s => if 0 ≤ me (304 * b9 + s) then me (304 * b9 + s) else mm (304 * mv + s)) mw 304)) (hF : IsFirst (fun i => ¬ RuleHolds (kk i) (ka i) (kb i) (fmix (fun s => if 0 ≤ me (304 * b9 + s) then me (304 * b9 + s) else mm (304 * mv + s)) mw 304)) mrc r9) (hc : cnt (fun j9 => (0 ≤ me (304 * b9 + j9) ∧ mm (304 * mv + j9) ≠ mb (304 * b9 + j9) ∧ mm (304 * mv + j9) ≠ me (304 * b9 + j9) ∧ mm (304 * mv + j9) ≠ mt (304 * b9 + j9))) 304 = 0) (hr : r9 = -1) (hu : 0 < cnt (fun j => (fmix (fun s => if 0 ≤ me (304 * b9 + s) then me (304 * b9 + s) else mm (304 * mv + s)) mw 304) j ≠ mm (304 * mv + j)) 304) (hf : mv ≤ 39) (hmc : 0 ≤ mmc ∧ mmc ≤ 39) : Ct g yX11_merge (.code yX11_merge cX11_merge 3 (some .int)) 8 0 0 [vR 200, vI b9] h ((fun r h' => r = .inl (some (vI (cnt (fun j => (fmix (fun s => if 0 ≤ me (304 * b9 + s) then me (304 * b9 + s) else mm (304 * mv + s)) mw 304) j ≠ mm (304 * mv + j)) 304))) ∧ ∃ f4 : Int → Int, h' = (hput (hput (hput (hput (hput (hput (hput (hput (hput (hput (hput h 200 (oO 10 [vR 201, vR 202, vR 203, vR 204, vR 205, vR 206, vR 207, vR 208, vR 209, vR 210, vR 211, vR 212, vR 213, vR 214, vR 215, vR 216, vR 217, vR 218, vI mv, vI mrc, vI mmc, vI mmk, vI mdv, vI mwl, vI mwa, vI mwp, vI 0])) 202 (oI 304 (fmix (fun s => if 0 ≤ me (304 * b9 + s) then me (304 * b9 + s) else mm (304 * mv + s)) mw 304))) 216 (oZ 64 f4)) 200 (oO 10 [vR 201, vR 202, vR 203, vR 204, vR 205, vR 206, vR 207, vR 208, vR 209, vR 210, vR 211, vR 212, vR 213, vR 214, vR 215, vR 216, vR 217, vR 218, vI mv, vI mrc, vI mmc, vI mmk, vI mdv, vI mwl, vI mwa, vI mwp, vI 0])) 200 (oO 10 [vR 201, vR 202, vR 203, vR 204, vR 205, vR 206, vR 207, vR 208, vR 209, vR 210, vR 211, vR 212, vR 213, vR 214, vR 215, vR 216, vR 217, vR 218, vI mv, vI mrc, vI mmc, vI mmk, vI mdv, vI mwl, vI mwa, vI mwp, vI 0])) 206 (oZ 4 (fput mop b9 0))) 212 (oI 768 (mthU ml (fmix (fun s => if 0 ≤ me (304 * b9 + s) then me (304 * b9 + s) else mm (304 * mv + s)) mw 304) (fun s => mm (304 * mv + s)) 192))) 200 (oO 10 [vR 201, vR 202, vR 203, vR 204, vR 205, vR 206, vR 207, vR 208, vR 209, vR 210, vR 211, vR 212, vR 213, vR 214, vR 215, vR 216, vR 217, vR 218, vI (mv + 1), vI mrc, vI mmc, vI mmk, vI mdv, vI mwl, vI mwa, vI mwp, vI 0])) 201 (oI 12464 (mcpy mm (fmix (fun s => if 0 ≤ me (304 * b9 + s) then me (304 * b9 + s) else mm (304 * mv + s)) mw 304) (304 * (mv + 1)) 304))) 211 (oI 41 (fput mg mmc (mv + 1)))) 200 (oO 10 [vR 201, vR 202, vR 203, vR 204, vR 205, vR 206, vR 207, vR 208, vR 209, vR 210, vR 211, vR 212, vR 213, vR 214, vR 215, vR 216, vR 217, vR 218, vI (mv + 1), vI mrc, vI (mmc + 1), vI mmk, vI mdv, vI mwl, vI mwa, vI mwp, vI 0])))) := by
  refine Ct.of (by decide) (Nat.le_of_ble_eq_true rfl) (fun x hg C F => ?_)
  subst hg
  have hb : 0 ≤ b9 ∧ b9 ≤ 3 := ⟨hO.1, hO.2.1⟩
  show T x 0 [(0, vR 200), (1, vI b9)] [] h 0 0
  refine st_aload_n C 0 dX11_merge_0 rfl rfl ?_
  refine st_aload_n C 0 dX11_merge_1 rfl rfl ?_
  refine st_iload_n C 1 dX11_merge_2 rfl rfl ?_
  refine st_callV (st := [vR 200]) C dX11_merge_3 [vI b9] (k_isBranch_t (b9 := b9) hm h206 hz hO) hm w_X11_126 rfl (by decide) (by decide) (by omega) (by omega) (Nat.le_of_ble_eq_true rfl) (ko_rt ?_)
  show T x 6 [(0, vR 200), (1, vI b9)] [vI 1, vR 200] _ _ _
  refine st_iconst C dX11_merge_6 (by decide) ?_
  refine st_callV (st := []) C dX11_merge_7 [vI 1, vI 1] (k_no_t (p9 := 1) hm) hm w_X11_112 rfl (by decide) (by decide) (by omega) (by omega) (Nat.le_of_ble_eq_true rfl) (ko_rt ?_)
  show T x 10 [(0, vR 200), (1, vI b9)] [vI 0] (hput h 200 (oO 10 [vR 201, vR 202, vR 203, vR 204, vR 205, vR 206, vR 207, vR 208, vR 209, vR 210, vR 211, vR 212, vR 213, vR 214, vR 215, vR 216, vR 217, vR 218, vI mv, vI mrc, vI mmc, vI mmk, vI mdv, vI mwl, vI mwa, vI mwp, vI 0])) _ _
  refine st_if_eq (tgt := 15) C dX11_merge_10 (by decide) (fun c_10 => ?_) (fun c_10 => by omega)
  refine st_aload_n C 0 dX11_merge_15 rfl rfl ?_
  refine st_iload_n C 1 dX11_merge_16 rfl rfl ?_
  refine st_callV (st := []) C dX11_merge_17 [vI b9] (k_mbring (b9 := b9) hput_s (hput_o (by omega) hmm) hv (hput_o (by omega) h202) (hput_o (by omega) h208) hb) hput_s w_X11_148 rfl (by decide) (by decide) (by omega) (by omega) (Nat.le_of_ble_eq_true rfl) (ko_rn ?_)
  show T x 20 [(0, vR 200), (1, vI b9)] [] (hput (hput h 200 (oO 10 [vR 201, vR 202, vR 203, vR 204, vR 205, vR 206, vR 207, vR 208, vR 209, vR 210, vR 211, vR 212, vR 213, vR 214, vR 215, vR 216, vR 217, vR 218, vI mv, vI mrc, vI mmc, vI mmk, vI mdv, vI mwl, vI mwa, vI mwp, vI 0])) 202 (oI 304 (fmix (fun s => if 0 ≤ me (304 * b9 + s) then me (304 * b9 + s) else mm (304 * mv + s)) mw 304))) _ _
  refine st_aload_n C 0 dX11_merge_20 rfl rfl ?_
  refine st_callV (st := []) C dX11_merge_21 [] (k_munlike (mw := (fmix (fun s => if 0 ≤ me (304 * b9 + s) then me (304 * b9 + s) else mm (304 * mv + s)) mw 304)) (hput_o (by omega) hput_s) (hput_o (by omega) (hput_o (by omega) hmm)) hv hput_s) (hput_o (by omega) hput_s) w_X11_159 rfl (by decide) (by decide) (by omega) (by omega) (Nat.le_of_ble_eq_true rfl) (ko_rt ?_)
  show T x 24 [(0, vR 200), (1, vI b9)] [vI (cnt (fun j => (fmix (fun s => if 0 ≤ me (304 * b9 + s) then me (304 * b9 + s) else mm (304 * mv + s)) mw 304) j ≠ mm (304 * mv + j)) 304)] _ _ _
  refine st_istore_n C 2 dX11_merge_24 rfl (by decide) rfl ?_
  show T x 25 [(0, vR 200), (1, vI b9), (2, vI (cnt (fun j => (fmix (fun s => if 0 ≤ me (304 * b9 + s) then me (304 * b9 + s) else mm (304 * mv + s)) mw 304) j ≠ mm (304 * mv + j)) 304))] [] _ _ _
  refine st_aload_n C 0 dX11_merge_25 rfl rfl ?_
  refine st_aload_n C 0 dX11_merge_26 rfl rfl ?_
  refine st_iload_n C 1 dX11_merge_27 rfl rfl ?_
  refine st_callV (st := [vR 200]) C dX11_merge_28 [vI b9] (k_conflictsOf (b9 := b9) (hput_o (by omega) hput_s) (hput_o (by omega) (hput_o (by omega) hmm)) hv (hput_o (by omega) (hput_o (by omega) h207)) (hput_o (by omega) (hput_o (by omega) h208)) (hput_o (by omega) (hput_o (by omega) h209)) (by omega)) (hput_o (by omega) hput_s) w_X11_145 rfl (by decide) (by decide) (by omega) (by omega) (Nat.le_of_ble_eq_true rfl) (ko_rt ?_)
  show T x 31 [(0, vR 200), (1, vI b9), (2, vI (cnt (fun j => (fmix (fun s => if 0 ≤ me (304 * b9 + s) then me (304 * b9 + s) else mm (304 * mv + s)) mw 304) j ≠ mm (304 * mv + j)) 304))] [vI (cnt (fun j9 => (0 ≤ me (304 * b9 + j9) ∧ mm (304 * mv + j9) ≠ mb (304 * b9 + j9) ∧ mm (304 * mv + j9) ≠ me (304 * b9 + j9) ∧ mm (304 * mv + j9) ≠ mt (304 * b9 + j9))) 304), vR 200] _ _ _
  refine st_if_ne (tgt := 45) C dX11_merge_31 (by decide) (fun c_31 => by omega) (fun c_31 => ?_)
  refine st_aload_n C 0 dX11_merge_34 rfl rfl ?_
  refine st_callV (st := [vR 200]) C dX11_merge_35 [] (k_mbroken (mw := (fmix (fun s => if 0 ≤ me (304 * b9 + s) then me (304 * b9 + s) else mm (304 * mv + s)) mw 304)) (f0 := f0) (hput_o (by omega) hput_s) hput_s (hput_o (by omega) (hput_o (by omega) h216)) (hput_o (by omega) (hput_o (by omega) h203)) (hput_o (by omega) (hput_o (by omega) h204)) (hput_o (by omega) (hput_o (by omega) h205)) hrc hwv hru hF) (hput_o (by omega) hput_s) w_X11_152 rfl (by decide) (by decide) (by omega) (by omega) (Nat.le_of_ble_eq_true rfl) (ko_rz (fun f4 _ => ?_))
  show T x 38 [(0, vR 200), (1, vI b9), (2, vI (cnt (fun j => (fmix (fun s => if 0 ≤ me (304 * b9 + s) then me (304 * b9 + s) else mm (304 * mv + s)) mw 304) j ≠ mm (304 * mv + j)) 304))] [vI r9, vR 200] _ _ _
  refine st_if_ge (tgt := 45) C dX11_merge_38 (by decide) (fun c_38 => by omega) (fun c_38 => ?_)
  refine st_iconst C dX11_merge_41 (by decide) ?_
  refine st_goto (tgt := 46) C dX11_merge_42 (by decide) ?_
  refine st_iconst C dX11_merge_46 (by decide) ?_
  refine st_callV (st := []) C dX11_merge_47 [vI 1, vI 2] (k_no_t (p9 := 2) (hput_o (by decide) (hput_o (by omega) hput_s))) (hput_o (by decide) (hput_o (by omega) hput_s)) w_X11_112 rfl (by decide) (by decide) (by omega) (by omega) (Nat.le_of_ble_eq_true rfl) (ko_rt ?_)
  show T x 50 [(0, vR 200), (1, vI b9), (2, vI (cnt (fun j => (fmix (fun s => if 0 ≤ me (304 * b9 + s) then me (304 * b9 + s) else mm (304 * mv + s)) mw 304) j ≠ mm (304 * mv + j)) 304))] [vI 0] (hput (hput (hput (hput h 200 (oO 10 [vR 201, vR 202, vR 203, vR 204, vR 205, vR 206, vR 207, vR 208, vR 209, vR 210, vR 211, vR 212, vR 213, vR 214, vR 215, vR 216, vR 217, vR 218, vI mv, vI mrc, vI mmc, vI mmk, vI mdv, vI mwl, vI mwa, vI mwp, vI 0])) 202 (oI 304 (fmix (fun s => if 0 ≤ me (304 * b9 + s) then me (304 * b9 + s) else mm (304 * mv + s)) mw 304))) 216 (oZ 64 f4)) 200 (oO 10 [vR 201, vR 202, vR 203, vR 204, vR 205, vR 206, vR 207, vR 208, vR 209, vR 210, vR 211, vR 212, vR 213, vR 214, vR 215, vR 216, vR 217, vR 218, vI mv, vI mrc, vI mmc, vI mmk, vI mdv, vI mwl, vI mwa, vI mwp, vI 0])) _ _
  refine st_if_ne (tgt := 79) C dX11_merge_50 (by decide) (fun c_50 => by omega) (fun c_50 => ?_)
  refine st_aload_n C 0 dX11_merge_53 rfl rfl ?_
  refine st_iload_n C 2 dX11_merge_54 rfl rfl ?_
  refine st_if_eq (tgt := 67) C dX11_merge_55 (by decide) (fun c_55 => by omega) (fun c_55 => ?_)
  refine st_aload_n C 0 dX11_merge_58 rfl rfl ?_
  refine st_getf C dX11_merge_59 fl_X11_72 hput_s rfl ?_
  refine st_bipush C dX11_merge_62 (by decide) (by decide) ?_
  refine st_icmp_ge (tgt := 71) C dX11_merge_64 (by decide) (fun c_64 => by omega) (fun c_64 => ?_)
  refine st_iconst C dX11_merge_67 (by decide) ?_
  refine st_goto (tgt := 72) C dX11_merge_68 (by decide) ?_
  refine st_iconst C dX11_merge_72 (by decide) ?_
  refine st_callV (st := []) C dX11_merge_73 [vI 1, vI 3] (k_no_t (p9 := 3) hput_s) hput_s w_X11_112 rfl (by decide) (by decide) (by omega) (by omega) (Nat.le_of_ble_eq_true rfl) (ko_rt ?_)
  show T x 76 [(0, vR 200), (1, vI b9), (2, vI (cnt (fun j => (fmix (fun s => if 0 ≤ me (304 * b9 + s) then me (304 * b9 + s) else mm (304 * mv + s)) mw 304) j ≠ mm (304 * mv + j)) 304))] [vI 0] (hput (hput (hput (hput (hput h 200 (oO 10 [vR 201, vR 202, vR 203, vR 204, vR 205, vR 206, vR 207, vR 208, vR 209, vR 210, vR 211, vR 212, vR 213, vR 214, vR 215, vR 216, vR 217, vR 218, vI mv, vI mrc, vI mmc, vI mmk, vI mdv, vI mwl, vI mwa, vI mwp, vI 0])) 202 (oI 304 (fmix (fun s => if 0 ≤ me (304 * b9 + s) then me (304 * b9 + s) else mm (304 * mv + s)) mw 304))) 216 (oZ 64 f4)) 200 (oO 10 [vR 201, vR 202, vR 203, vR 204, vR 205, vR 206, vR 207, vR 208, vR 209, vR 210, vR 211, vR 212, vR 213, vR 214, vR 215, vR 216, vR 217, vR 218, vI mv, vI mrc, vI mmc, vI mmk, vI mdv, vI mwl, vI mwa, vI mwp, vI 0])) 200 (oO 10 [vR 201, vR 202, vR 203, vR 204, vR 205, vR 206, vR 207, vR 208, vR 209, vR 210, vR 211, vR 212, vR 213, vR 214, vR 215, vR 216, vR 217, vR 218, vI mv, vI mrc, vI mmc, vI mmk, vI mdv, vI mwl, vI mwa, vI mwp, vI 0])) _ _
  refine st_if_eq (tgt := 81) C dX11_merge_76 (by decide) (fun c_76 => ?_) (fun c_76 => by omega)
  refine st_aload_n C 0 dX11_merge_81 rfl rfl ?_
  refine st_getf C dX11_merge_82 fl_X11_25 hput_s rfl ?_
  refine st_iload_n C 1 dX11_merge_85 rfl rfl ?_
  refine st_iconst C dX11_merge_86 (by decide) ?_
  refine st_zast C dX11_merge_87 (by omega) (hput_o (by omega) (hput_o (by omega) (hput_o (by decide) (hput_o (by omega) (hput_o (by omega) h206))))) (by omega) (by omega) ?_
  refine st_iload_n C 2 dX11_merge_88 rfl rfl ?_
  refine st_if_le (tgt := 119) C dX11_merge_89 (by decide) (fun c_89 => by omega) (fun c_89 => ?_)
  refine st_aload_n C 0 dX11_merge_92 rfl rfl ?_
  refine st_callV (st := []) C dX11_merge_93 [] (k_become (mw := (fmix (fun s => if 0 ≤ me (304 * b9 + s) then me (304 * b9 + s) else mm (304 * mv + s)) mw 304)) (hput_o (by omega) hput_s) (hput_o (by omega) (hput_o (by omega) (hput_o (by omega) (hput_o (by decide) (hput_o (by omega) (hput_o (by omega) hmm)))))) (by omega) (hput_o (by omega) (hput_o (by omega) (hput_o (by omega) (hput_o (by decide) hput_s)))) (hput_o (by omega) (hput_o (by omega) (hput_o (by omega) (hput_o (by decide) (hput_o (by omega) (hput_o (by omega) h212))))))) (hput_o (by omega) hput_s) w_X11_162 rfl (by decide) (by decide) (by omega) (by omega) (Nat.le_of_ble_eq_true rfl) (ko_rn ?_)
  show T x 96 [(0, vR 200), (1, vI b9), (2, vI (cnt (fun j => (fmix (fun s => if 0 ≤ me (304 * b9 + s) then me (304 * b9 + s) else mm (304 * mv + s)) mw 304) j ≠ mm (304 * mv + j)) 304))] [] (hput (hput (hput (hput (hput (hput (hput (hput (hput h 200 (oO 10 [vR 201, vR 202, vR 203, vR 204, vR 205, vR 206, vR 207, vR 208, vR 209, vR 210, vR 211, vR 212, vR 213, vR 214, vR 215, vR 216, vR 217, vR 218, vI mv, vI mrc, vI mmc, vI mmk, vI mdv, vI mwl, vI mwa, vI mwp, vI 0])) 202 (oI 304 (fmix (fun s => if 0 ≤ me (304 * b9 + s) then me (304 * b9 + s) else mm (304 * mv + s)) mw 304))) 216 (oZ 64 f4)) 200 (oO 10 [vR 201, vR 202, vR 203, vR 204, vR 205, vR 206, vR 207, vR 208, vR 209, vR 210, vR 211, vR 212, vR 213, vR 214, vR 215, vR 216, vR 217, vR 218, vI mv, vI mrc, vI mmc, vI mmk, vI mdv, vI mwl, vI mwa, vI mwp, vI 0])) 200 (oO 10 [vR 201, vR 202, vR 203, vR 204, vR 205, vR 206, vR 207, vR 208, vR 209, vR 210, vR 211, vR 212, vR 213, vR 214, vR 215, vR 216, vR 217, vR 218, vI mv, vI mrc, vI mmc, vI mmk, vI mdv, vI mwl, vI mwa, vI mwp, vI 0])) 206 (oZ 4 (fput mop b9 0))) 212 (oI 768 (mthU ml (fmix (fun s => if 0 ≤ me (304 * b9 + s) then me (304 * b9 + s) else mm (304 * mv + s)) mw 304) (fun s => mm (304 * mv + s)) 192))) 200 (oO 10 [vR 201, vR 202, vR 203, vR 204, vR 205, vR 206, vR 207, vR 208, vR 209, vR 210, vR 211, vR 212, vR 213, vR 214, vR 215, vR 216, vR 217, vR 218, vI (mv + 1), vI mrc, vI mmc, vI mmk, vI mdv, vI mwl, vI mwa, vI mwp, vI 0])) 201 (oI 12464 (mcpy mm (fmix (fun s => if 0 ≤ me (304 * b9 + s) then me (304 * b9 + s) else mm (304 * mv + s)) mw 304) (304 * (mv + 1)) 304))) _ _
  refine st_aload_n C 0 dX11_merge_96 rfl rfl ?_
  refine st_getf C dX11_merge_97 fl_X11_41 (hput_o (by omega) hput_s) rfl ?_
  refine st_aload_n C 0 dX11_merge_100 rfl rfl ?_
  refine st_getf C dX11_merge_101 fl_X11_165 (hput_o (by omega) hput_s) rfl ?_
  refine st_aload_n C 0 dX11_merge_104 rfl rfl ?_
  refine st_getf C dX11_merge_105 fl_X11_72 (hput_o (by omega) hput_s) rfl ?_
  refine st_iast C dX11_merge_108 (hput_o (by omega) (hput_o (by omega) (hput_o (by omega) (hput_o (by omega) (hput_o (by omega) (hput_o (by omega) (hput_o (by decide) (hput_o (by omega) (hput_o (by omega) h211))))))))) (by omega) (by omega) ?_
  refine st_aload_n C 0 dX11_merge_109 rfl rfl ?_
  refine st_dup C dX11_merge_110 rfl ?_
  refine st_getf C dX11_merge_111 fl_X11_165 (hput_o (by omega) (hput_o (by omega) hput_s)) rfl ?_
  refine st_iconst C dX11_merge_114 (by decide) ?_
  refine st_iadd C dX11_merge_115 ⟨(by omega), (by omega)⟩ ?_
  refine st_putf C dX11_merge_116 fp_X11_165 (fun q => by cases q) (hput_o (by omega) (hput_o (by omega) hput_s)) (Nat.le_of_ble_eq_true rfl) fit_int ?_
  show T x 119 [(0, vR 200), (1, vI b9), (2, vI (cnt (fun j => (fmix (fun s => if 0 ≤ me (304 * b9 + s) then me (304 * b9 + s) else mm (304 * mv + s)) mw 304) j ≠ mm (304 * mv + j)) 304))] [] (hput (hput (hput (hput (hput (hput (hput (hput (hput (hput (hput h 200 (oO 10 [vR 201, vR 202, vR 203, vR 204, vR 205, vR 206, vR 207, vR 208, vR 209, vR 210, vR 211, vR 212, vR 213, vR 214, vR 215, vR 216, vR 217, vR 218, vI mv, vI mrc, vI mmc, vI mmk, vI mdv, vI mwl, vI mwa, vI mwp, vI 0])) 202 (oI 304 (fmix (fun s => if 0 ≤ me (304 * b9 + s) then me (304 * b9 + s) else mm (304 * mv + s)) mw 304))) 216 (oZ 64 f4)) 200 (oO 10 [vR 201, vR 202, vR 203, vR 204, vR 205, vR 206, vR 207, vR 208, vR 209, vR 210, vR 211, vR 212, vR 213, vR 214, vR 215, vR 216, vR 217, vR 218, vI mv, vI mrc, vI mmc, vI mmk, vI mdv, vI mwl, vI mwa, vI mwp, vI 0])) 200 (oO 10 [vR 201, vR 202, vR 203, vR 204, vR 205, vR 206, vR 207, vR 208, vR 209, vR 210, vR 211, vR 212, vR 213, vR 214, vR 215, vR 216, vR 217, vR 218, vI mv, vI mrc, vI mmc, vI mmk, vI mdv, vI mwl, vI mwa, vI mwp, vI 0])) 206 (oZ 4 (fput mop b9 0))) 212 (oI 768 (mthU ml (fmix (fun s => if 0 ≤ me (304 * b9 + s) then me (304 * b9 + s) else mm (304 * mv + s)) mw 304) (fun s => mm (304 * mv + s)) 192))) 200 (oO 10 [vR 201, vR 202, vR 203, vR 204, vR 205, vR 206, vR 207, vR 208, vR 209, vR 210, vR 211, vR 212, vR 213, vR 214, vR 215, vR 216, vR 217, vR 218, vI (mv + 1), vI mrc, vI mmc, vI mmk, vI mdv, vI mwl, vI mwa, vI mwp, vI 0])) 201 (oI 12464 (mcpy mm (fmix (fun s => if 0 ≤ me (304 * b9 + s) then me (304 * b9 + s) else mm (304 * mv + s)) mw 304) (304 * (mv + 1)) 304))) 211 (oI 41 (fput mg mmc (mv + 1)))) 200 (oO 10 [vR 201, vR 202, vR 203, vR 204, vR 205, vR 206, vR 207, vR 208, vR 209, vR 210, vR 211, vR 212, vR 213, vR 214, vR 215, vR 216, vR 217, vR 218, vI (mv + 1), vI mrc, vI (mmc + 1), vI mmk, vI mdv, vI mwl, vI mwa, vI mwp, vI 0])) _ _
  refine st_iload_n C 2 dX11_merge_119 rfl rfl ?_
  exact st_ireturn C F dX11_merge_120 rfl (by first | exact ⟨by with_reducible rfl, f4, by with_reducible rfl⟩ | (exfalso; omega)) (by omega) (by omega)
theorem fmix_at2 {F f : Int → Int} {i : Int} : fmix F f i i = f i := by unfold fmix; rw [if_neg (by omega)]
set_option maxRecDepth 20000 in
set_option maxHeartbeats 4000000 in
theorem m_undo_x1 {g : Gx} {h : HP} {mv mrc mmc mmk mdv mwl mwa mwp mth : Int} (hm : mO h mv mrc mmc mmk mdv mwl mwa mwp mth) (hmc : mmc ≤ 0) : Ct g yX11_undo (.code yX11_undo cX11_undo 4 (some .int)) 8 0 0 [vR 200] h (Rt (some (vI 0)) (hput h 200 (oO 10 [vR 201, vR 202, vR 203, vR 204, vR 205, vR 206, vR 207, vR 208, vR 209, vR 210, vR 211, vR 212, vR 213, vR 214, vR 215, vR 216, vR 217, vR 218, vI mv, vI mrc, vI mmc, vI mmk, vI mdv, vI mwl, vI mwa, vI mwp, vI 1]))) := by
  refine Ct.of (by decide) (Nat.le_of_ble_eq_true rfl) (fun x hg C F => ?_)
  subst hg
  show T x 0 [(0, vR 200)] [] h 0 0
  refine st_aload_n C 0 dX11_undo_0 rfl rfl ?_
  refine st_aload_n C 0 dX11_undo_1 rfl rfl ?_
  refine st_getf C dX11_undo_2 fl_X11_165 hm rfl ?_
  refine st_if_le (tgt := 12) C dX11_undo_5 (by decide) (fun c_5 => ?_) (fun c_5 => by omega)
  refine st_iconst C dX11_undo_12 (by decide) ?_
  refine st_iconst C dX11_undo_13 (by decide) ?_
  refine st_callV (st := []) C dX11_undo_14 [vI 0, vI 1] (k_no_f (p9 := 1) hm) hm w_X11_112 rfl (by decide) (by decide) (by omega) (by omega) (Nat.le_of_ble_eq_true rfl) (ko_rt ?_)
  show T x 17 [(0, vR 200)] [vI 1] (hput h 200 (oO 10 [vR 201, vR 202, vR 203, vR 204, vR 205, vR 206, vR 207, vR 208, vR 209, vR 210, vR 211, vR 212, vR 213, vR 214, vR 215, vR 216, vR 217, vR 218, vI mv, vI mrc, vI mmc, vI mmk, vI mdv, vI mwl, vI mwa, vI mwp, vI 1])) _ _
  refine st_if_eq (tgt := 22) C dX11_undo_17 (by decide) (fun c_17 => by omega) (fun c_17 => ?_)
  refine st_iconst C dX11_undo_20 (by decide) ?_
  exact st_ireturn C F dX11_undo_21 rfl (by first | exact ⟨by with_reducible rfl, by with_reducible rfl⟩ | (exfalso; omega)) (by omega) (by omega)
set_option maxRecDepth 20000 in
set_option maxHeartbeats 4000000 in
theorem m_undo_x2 {g : Gx} {h : HP} {mv mrc mmc mmk mdv mwl mwa mwp mth : Int} {mm : Int → Int} {mw : Int → Int} {f0 : Int → Int} {kk : Int → Int} {ka : Int → Int} {kb : Int → Int} {mg : Int → Int} {ml : Int → Int} {r9 : Int} (hm : mO h mv mrc mmc mmk mdv mwl mwa mwp mth) (hmm : h 201 = some (oI 12464 mm)) (h202 : h 202 = some (oI 304 mw)) (h216 : h 216 = some (oZ 64 f0)) (h203 : h 203 = some (oI 6 kk)) (h204 : h 204 = some (oI 6 ka)) (h205 : h 205 = some (oI 6 kb)) (h211 : h 211 = some (oI 41 mg)) (h212 : h 212 = some (oI 768 ml)) (hv : 0 ≤ mv ∧ mv ≤ 40) (hmc : 1 ≤ mmc ∧ mmc ≤ 40) (hg : 1 ≤ mg (mmc - 1) ∧ mg (mmc - 1) ≤ 40) (hrc : 0 ≤ mrc ∧ mrc ≤ 6) (hru : ∀ i, 0 ≤ i → i < mrc → (0 ≤ ka i ∧ ka i ≤ 2) ∧ (0 ≤ kb i ∧ kb i ≤ 2) ∧ (kk i = 99 ∨ kk i = 120 ∨ kk i = 103 ∨ kk i = 119 ∨ kk i = 109)) (hwv : RowV (fmix (fun s => if mm (304 * mg (mmc - 1) + s) ≠ mm (304 * mg (mmc - 1) - 304 + s) then mm (304 * mg (mmc - 1) - 304 + s) else (fmix (fun s => mm (304 * mv + s)) mw 304) s) (fmix (fun s => mm (304 * mv + s)) mw 304) 304)) (hF : IsFirst (fun i => ¬ RuleHolds (kk i) (ka i) (kb i) (fmix (fun s => if mm (304 * mg (mmc - 1) + s) ≠ mm (304 * mg (mmc - 1) - 304 + s) then mm (304 * mg (mmc - 1) - 304 + s) else (fmix (fun s => mm (304 * mv + s)) mw 304) s) (fmix (fun s => mm (304 * mv + s)) mw 304) 304)) mrc r9) (hr : 0 ≤ r9) : Ct g yX11_undo (.code yX11_undo cX11_undo 4 (some .int)) 8 0 0 [vR 200] h ((fun r h' => r = .inl (some (vI 0)) ∧ ∃ f4 : Int → Int, h' = (hput (hput (hput (hput h 200 (oO 10 [vR 201, vR 202, vR 203, vR 204, vR 205, vR 206, vR 207, vR 208, vR 209, vR 210, vR 211, vR 212, vR 213, vR 214, vR 215, vR 216, vR 217, vR 218, vI mv, vI mrc, vI mmc, vI mmk, vI mdv, vI mwl, vI mwa, vI mwp, vI 0])) 202 (oI 304 (fmix (fun s => if mm (304 * mg (mmc - 1) + s) ≠ mm (304 * mg (mmc - 1) - 304 + s) then mm (304 * mg (mmc - 1) - 304 + s) else (fmix (fun s => mm (304 * mv + s)) mw 304) s) (fmix (fun s => mm (304 * mv + s)) mw 304) 304))) 216 (oZ 64 f4)) 200 (oO 10 [vR 201, vR 202, vR 203, vR 204, vR 205, vR 206, vR 207, vR 208, vR 209, vR 210, vR 211, vR 212, vR 213, vR 214, vR 215, vR 216, vR 217, vR 218, vI mv, vI mrc, vI mmc, vI mmk, vI mdv, vI mwl, vI mwa, vI mwp, vI 2])))) := by
  refine Ct.of (by decide) (Nat.le_of_ble_eq_true rfl) (fun x hg C F => ?_)
  subst hg
  show T x 0 [(0, vR 200)] [] h 0 0
  refine st_aload_n C 0 dX11_undo_0 rfl rfl ?_
  refine st_aload_n C 0 dX11_undo_1 rfl rfl ?_
  refine st_getf C dX11_undo_2 fl_X11_165 hm rfl ?_
  refine st_if_le (tgt := 12) C dX11_undo_5 (by decide) (fun c_5 => by omega) (fun c_5 => ?_)
  refine st_iconst C dX11_undo_8 (by decide) ?_
  refine st_goto (tgt := 13) C dX11_undo_9 (by decide) ?_
  refine st_iconst C dX11_undo_13 (by decide) ?_
  refine st_callV (st := []) C dX11_undo_14 [vI 1, vI 1] (k_no_t (p9 := 1) hm) hm w_X11_112 rfl (by decide) (by decide) (by omega) (by omega) (Nat.le_of_ble_eq_true rfl) (ko_rt ?_)
  show T x 17 [(0, vR 200)] [vI 0] (hput h 200 (oO 10 [vR 201, vR 202, vR 203, vR 204, vR 205, vR 206, vR 207, vR 208, vR 209, vR 210, vR 211, vR 212, vR 213, vR 214, vR 215, vR 216, vR 217, vR 218, vI mv, vI mrc, vI mmc, vI mmk, vI mdv, vI mwl, vI mwa, vI mwp, vI 0])) _ _
  refine st_if_eq (tgt := 22) C dX11_undo_17 (by decide) (fun c_17 => ?_) (fun c_17 => by omega)
  refine st_aload_n C 0 dX11_undo_22 rfl rfl ?_
  refine st_callV (st := []) C dX11_undo_23 [] (k_take (mm := mm) hput_s (hput_o (by omega) hmm) hv (hput_o (by omega) h202)) hput_s w_X11_116 rfl (by decide) (by decide) (by omega) (by omega) (Nat.le_of_ble_eq_true rfl) (ko_rn ?_)
  show T x 26 [(0, vR 200)] [] (hput (hput h 200 (oO 10 [vR 201, vR 202, vR 203, vR 204, vR 205, vR 206, vR 207, vR 208, vR 209, vR 210, vR 211, vR 212, vR 213, vR 214, vR 215, vR 216, vR 217, vR 218, vI mv, vI mrc, vI mmc, vI mmk, vI mdv, vI mwl, vI mwa, vI mwp, vI 0])) 202 (oI 304 (fmix (fun s => mm (304 * mv + s)) mw 304))) _ _
  refine st_sipush C dX11_undo_26 (by decide) (by decide) ?_
  refine st_aload_n C 0 dX11_undo_29 rfl rfl ?_
  refine st_getf C dX11_undo_30 fl_X11_41 (hput_o (by omega) hput_s) rfl ?_
  refine st_aload_n C 0 dX11_undo_33 rfl rfl ?_
  refine st_getf C dX11_undo_34 fl_X11_165 (hput_o (by omega) hput_s) rfl ?_
  refine st_iconst C dX11_undo_37 (by decide) ?_
  refine st_isub C dX11_undo_38 ⟨(by omega), (by omega)⟩ ?_
  refine st_iald C dX11_undo_39 (hput_o (by omega) (hput_o (by omega) h211)) (by omega) (by omega) ?_
  refine st_imul C dX11_undo_40 ⟨(by omega), (by omega)⟩ ?_
  refine st_istore_n C 1 dX11_undo_41 rfl (by decide) rfl ?_
  show T x 42 [(0, vR 200), (1, vI (304 * (mg (mmc - 1))))] [] _ _ _
  refine st_iconst C dX11_undo_42 (by decide) ?_
  refine st_istore_n C 2 dX11_undo_43 rfl (by decide) rfl ?_
  show T x 44 [(0, vR 200), (1, vI (304 * (mg (mmc - 1)))), (2, vI 0)] [] _ _ _
  have loop_44 : ∀ (n_44 : Nat) (i : Int) (h1 : HP), (0 ≤ i) → (i ≤ 304) → (h1 = hput (hput h 200 (oO 10 [vR 201, vR 202, vR 203, vR 204, vR 205, vR 206, vR 207, vR 208, vR 209, vR 210, vR 211, vR 212, vR 213, vR 214, vR 215, vR 216, vR 217, vR 218, vI mv, vI mrc, vI mmc, vI mmk, vI mdv, vI mwl, vI mwa, vI mwp, vI 0])) 202 (oI 304 (fmix (fun s => if mm (304 * mg (mmc - 1) + s) ≠ mm (304 * mg (mmc - 1) - 304 + s) then mm (304 * mg (mmc - 1) - 304 + s) else (fmix (fun s => mm (304 * mv + s)) mw 304) s) (fmix (fun s => mm (304 * mv + s)) mw 304) i))) → (304 - i).toNat < n_44 → T x 44 [(0, vR 200), (1, vI (304 * (mg (mmc - 1)))), (2, vI i)] [] h1 0 0 := by
    intro n_44
    induction n_44 with
    | zero => intro i h1 g1 g2 hh hm_44; exact absurd hm_44 (Nat.not_lt_zero _)
    | succ n_44 ih_44 =>
      intro i h1 g1 g2 hh hm_44
      refine st_iload_n C 2 dX11_undo_44 rfl rfl ?_
      refine st_sipush C dX11_undo_45 (by decide) (by decide) ?_
      refine st_icmp_ge (tgt := 98) C dX11_undo_48 (by decide) (fun c_48 => ?_) (fun c_48 => ?_)
      · have e8 : i = 304 := by omega
        subst e8
        subst hh
        refine st_aload_n C 0 dX11_undo_98 rfl rfl ?_
        refine st_callV (st := []) C dX11_undo_99 [] (k_munlike (mw := (fmix (fun s => if mm (304 * mg (mmc - 1) + s) ≠ mm (304 * mg (mmc - 1) - 304 + s) then mm (304 * mg (mmc - 1) - 304 + s) else (fmix (fun s => mm (304 * mv + s)) mw 304) s) (fmix (fun s => mm (304 * mv + s)) mw 304) 304)) (by exact hput_o (by decide) hput_s) (by exact hput_o (by decide) (hput_o (by decide) hmm)) hv (by exact hput_s)) (by exact hput_o (by decide) hput_s) w_X11_159 rfl (by decide) (by decide) (by omega) (by omega) (Nat.le_of_ble_eq_true rfl) (ko_rt ?_)
        show T x 102 [(0, vR 200), (1, vI (304 * (mg (mmc - 1)))), (2, vI 304)] [vI (cnt (fun j => (fmix (fun s => if mm (304 * mg (mmc - 1) + s) ≠ mm (304 * mg (mmc - 1) - 304 + s) then mm (304 * mg (mmc - 1) - 304 + s) else (fmix (fun s => mm (304 * mv + s)) mw 304) s) (fmix (fun s => mm (304 * mv + s)) mw 304) 304) j ≠ mm (304 * mv + j)) 304)] _ _ _
        refine st_istore_n C 2 dX11_undo_102 rfl (by decide) rfl ?_
        show T x 103 [(0, vR 200), (1, vI (304 * (mg (mmc - 1)))), (2, vI (cnt (fun j => (fmix (fun s => if mm (304 * mg (mmc - 1) + s) ≠ mm (304 * mg (mmc - 1) - 304 + s) then mm (304 * mg (mmc - 1) - 304 + s) else (fmix (fun s => mm (304 * mv + s)) mw 304) s) (fmix (fun s => mm (304 * mv + s)) mw 304) 304) j ≠ mm (304 * mv + j)) 304))] [] _ _ _
        refine st_aload_n C 0 dX11_undo_103 rfl rfl ?_
        refine st_aload_n C 0 dX11_undo_104 rfl rfl ?_
        refine st_callV (st := [vR 200]) C dX11_undo_105 [] (k_mbroken (mw := (fmix (fun s => if mm (304 * mg (mmc - 1) + s) ≠ mm (304 * mg (mmc - 1) - 304 + s) then mm (304 * mg (mmc - 1) - 304 + s) else (fmix (fun s => mm (304 * mv + s)) mw 304) s) (fmix (fun s => mm (304 * mv + s)) mw 304) 304)) (f0 := f0) (by exact hput_o (by decide) hput_s) (by exact hput_s) (by exact hput_o (by decide) (hput_o (by decide) h216)) (by exact hput_o (by decide) (hput_o (by decide) h203)) (by exact hput_o (by decide) (hput_o (by decide) h204)) (by exact hput_o (by decide) (hput_o (by decide) h205)) hrc hwv hru hF) (by exact hput_o (by decide) hput_s) w_X11_152 rfl (by decide) (by decide) (by omega) (by omega) (Nat.le_of_ble_eq_true rfl) (ko_rz (fun f4 _ => ?_))
        show T x 108 [(0, vR 200), (1, vI (304 * (mg (mmc - 1)))), (2, vI (cnt (fun j => (fmix (fun s => if mm (304 * mg (mmc - 1) + s) ≠ mm (304 * mg (mmc - 1) - 304 + s) then mm (304 * mg (mmc - 1) - 304 + s) else (fmix (fun s => mm (304 * mv + s)) mw 304) s) (fmix (fun s => mm (304 * mv + s)) mw 304) 304) j ≠ mm (304 * mv + j)) 304))] [vI r9, vR 200] _ _ _
        refine st_if_ge (tgt := 115) C dX11_undo_108 (by decide) (fun c_108 => ?_) (fun c_108 => by omega)
        refine st_iconst C dX11_undo_115 (by decide) ?_
        refine st_iconst C dX11_undo_116 (by decide) ?_
        refine st_callV (st := []) C dX11_undo_117 [vI 0, vI 2] (k_no_f (p9 := 2) (hput_o (by decide) (by exact hput_o (by decide) hput_s))) (hput_o (by decide) (by exact hput_o (by decide) hput_s)) w_X11_112 rfl (by decide) (by decide) (by omega) (by omega) (Nat.le_of_ble_eq_true rfl) (ko_rt ?_)
        show T x 120 [(0, vR 200), (1, vI (304 * (mg (mmc - 1)))), (2, vI (cnt (fun j => (fmix (fun s => if mm (304 * mg (mmc - 1) + s) ≠ mm (304 * mg (mmc - 1) - 304 + s) then mm (304 * mg (mmc - 1) - 304 + s) else (fmix (fun s => mm (304 * mv + s)) mw 304) s) (fmix (fun s => mm (304 * mv + s)) mw 304) 304) j ≠ mm (304 * mv + j)) 304))] [vI 1] (hput (hput (hput (hput h 200 (oO 10 [vR 201, vR 202, vR 203, vR 204, vR 205, vR 206, vR 207, vR 208, vR 209, vR 210, vR 211, vR 212, vR 213, vR 214, vR 215, vR 216, vR 217, vR 218, vI mv, vI mrc, vI mmc, vI mmk, vI mdv, vI mwl, vI mwa, vI mwp, vI 0])) 202 (oI 304 (fmix (fun s => if mm (304 * mg (mmc - 1) + s) ≠ mm (304 * mg (mmc - 1) - 304 + s) then mm (304 * mg (mmc - 1) - 304 + s) else (fmix (fun s => mm (304 * mv + s)) mw 304) s) (fmix (fun s => mm (304 * mv + s)) mw 304) 304))) 216 (oZ 64 f4)) 200 (oO 10 [vR 201, vR 202, vR 203, vR 204, vR 205, vR 206, vR 207, vR 208, vR 209, vR 210, vR 211, vR 212, vR 213, vR 214, vR 215, vR 216, vR 217, vR 218, vI mv, vI mrc, vI mmc, vI mmk, vI mdv, vI mwl, vI mwa, vI mwp, vI 2])) _ _
        refine st_if_ne (tgt := 145) C dX11_undo_120 (by decide) (fun c_120 => ?_) (fun c_120 => by omega)
        refine st_iconst C dX11_undo_145 (by decide) ?_
        exact st_ireturn C F dX11_undo_146 rfl (by first | exact ⟨by with_reducible rfl, f4, by with_reducible rfl⟩ | (exfalso; omega)) (by omega) (by omega)
      · refine st_aload_n C 0 dX11_undo_51 rfl rfl ?_
        refine st_getf C dX11_undo_52 fl_X11_7 (by rw [hh]; exact hput_o (by decide) hput_s) rfl ?_
        refine st_iload_n C 1 dX11_undo_55 rfl rfl ?_
        refine st_sipush C dX11_undo_56 (by decide) (by decide) ?_
        refine st_isub C dX11_undo_59 ⟨(by omega), (by omega)⟩ ?_
        refine st_iload_n C 2 dX11_undo_60 rfl rfl ?_
        refine st_iadd C dX11_undo_61 ⟨(by omega), (by omega)⟩ ?_
        refine st_iald C dX11_undo_62 (by rw [hh]; exact hput_o (by decide) (hput_o (by decide) hmm)) (by omega) (by omega) ?_
        refine st_istore_n C 3 dX11_undo_63 rfl (by decide) rfl ?_
        show T x 64 [(0, vR 200), (1, vI (304 * (mg (mmc - 1)))), (2, vI i), (3, vI (mm (304 * (mg (mmc - 1)) - 304 + i)))] [] _ _ _
        refine st_aload_n C 0 dX11_undo_64 rfl rfl ?_
        refine st_getf C dX11_undo_65 fl_X11_13 (by rw [hh]; exact hput_o (by decide) hput_s) rfl ?_
        refine st_iload_n C 2 dX11_undo_68 rfl rfl ?_
        refine st_aload_n C 0 dX11_undo_69 rfl rfl ?_
        refine st_getf C dX11_undo_70 fl_X11_7 (by rw [hh]; exact hput_o (by decide) hput_s) rfl ?_
        refine st_iload_n C 1 dX11_undo_73 rfl rfl ?_
        refine st_iload_n C 2 dX11_undo_74 rfl rfl ?_
        refine st_iadd C dX11_undo_75 ⟨(by omega), (by omega)⟩ ?_
        refine st_iald C dX11_undo_76 (by rw [hh]; exact hput_o (by decide) (hput_o (by decide) hmm)) (by omega) (by omega) ?_
        refine st_iload_n C 3 dX11_undo_77 rfl rfl ?_
        refine st_icmp_eq (tgt := 85) C dX11_undo_78 (by decide) (fun c_78 => ?_) (fun c_78 => ?_)
        · refine st_aload_n C 0 dX11_undo_85 rfl rfl ?_
          refine st_getf C dX11_undo_86 fl_X11_13 (by rw [hh]; exact hput_o (by decide) hput_s) rfl ?_
          refine st_iload_n C 2 dX11_undo_89 rfl rfl ?_
          refine st_iald C dX11_undo_90 (by rw [hh]; exact hput_s) (by omega) (by omega) ?_
          refine st_iast C dX11_undo_91 (by rw [hh]; exact hput_s) (by omega) (by omega) ?_
          refine st_iinc C dX11_undo_92 rfl (by decide) rfl ⟨(by omega), (by omega)⟩ ?_
          show T x 95 [(0, vR 200), (1, vI (304 * (mg (mmc - 1)))), (2, vI (i + 1)), (3, vI (mm (304 * (mg (mmc - 1)) - 304 + i)))] [] _ _ _
          refine st_goto (tgt := 44) C dX11_undo_95 (by decide) ?_
          refine st_sub [0, 1, 2] rfl ?_
          exact ih_44 (i + 1) (hput h1 202 (oI 304 (fput (fmix (fun s => if mm (304 * mg (mmc - 1) + s) ≠ mm (304 * mg (mmc - 1) - 304 + s) then mm (304 * mg (mmc - 1) - 304 + s) else (fmix (fun s => mm (304 * mv + s)) mw 304) s) (fmix (fun s => mm (304 * mv + s)) mw 304) i) i ((fmix (fun s => if mm (304 * mg (mmc - 1) + s) ≠ mm (304 * mg (mmc - 1) - 304 + s) then mm (304 * mg (mmc - 1) - 304 + s) else (fmix (fun s => mm (304 * mv + s)) mw 304) s) (fmix (fun s => mm (304 * mv + s)) mw 304) i) i)))) (by omega) (by omega) (by rw [hh, hput_hput]; refine congrArg (fun z => hput (hput h 200 (oO 10 [vR 201, vR 202, vR 203, vR 204, vR 205, vR 206, vR 207, vR 208, vR 209, vR 210, vR 211, vR 212, vR 213, vR 214, vR 215, vR 216, vR 217, vR 218, vI mv, vI mrc, vI mmc, vI mmk, vI mdv, vI mwl, vI mwa, vI mwp, vI 0])) 202 (oI 304 z)) (fmix_s g1 ?_); first | exact (if_pos (by assumption)).symm | (rw [fmix_at2]; exact (if_neg (fun z => z (by assumption))).symm)) (by omega)
        · refine st_iload_n C 3 dX11_undo_81 rfl rfl ?_
          refine st_goto (tgt := 91) C dX11_undo_82 (by decide) ?_
          refine st_iast C dX11_undo_91 (by rw [hh]; exact hput_s) (by omega) (by omega) ?_
          refine st_iinc C dX11_undo_92 rfl (by decide) rfl ⟨(by omega), (by omega)⟩ ?_
          show T x 95 [(0, vR 200), (1, vI (304 * (mg (mmc - 1)))), (2, vI (i + 1)), (3, vI (mm (304 * (mg (mmc - 1)) - 304 + i)))] [] _ _ _
          refine st_goto (tgt := 44) C dX11_undo_95 (by decide) ?_
          refine st_sub [0, 1, 2] rfl ?_
          exact ih_44 (i + 1) (hput h1 202 (oI 304 (fput (fmix (fun s => if mm (304 * mg (mmc - 1) + s) ≠ mm (304 * mg (mmc - 1) - 304 + s) then mm (304 * mg (mmc - 1) - 304 + s) else (fmix (fun s => mm (304 * mv + s)) mw 304) s) (fmix (fun s => mm (304 * mv + s)) mw 304) i) i (mm (304 * (mg (mmc - 1)) - 304 + i))))) (by omega) (by omega) (by rw [hh, hput_hput]; refine congrArg (fun z => hput (hput h 200 (oO 10 [vR 201, vR 202, vR 203, vR 204, vR 205, vR 206, vR 207, vR 208, vR 209, vR 210, vR 211, vR 212, vR 213, vR 214, vR 215, vR 216, vR 217, vR 218, vI mv, vI mrc, vI mmc, vI mmk, vI mdv, vI mwl, vI mwa, vI mwp, vI 0])) 202 (oI 304 z)) (fmix_s g1 ?_); first | exact (if_pos (by assumption)).symm | (rw [fmix_at2]; exact (if_neg (fun z => z (by assumption))).symm)) (by omega)
  exact loop_44 _ 0 (hput (hput h 200 (oO 10 [vR 201, vR 202, vR 203, vR 204, vR 205, vR 206, vR 207, vR 208, vR 209, vR 210, vR 211, vR 212, vR 213, vR 214, vR 215, vR 216, vR 217, vR 218, vI mv, vI mrc, vI mmc, vI mmk, vI mdv, vI mwl, vI mwa, vI mwp, vI 0])) 202 (oI 304 (fmix (fun s => mm (304 * mv + s)) mw 304))) (by omega) (by omega) (by rw [fmix_0]) (Nat.lt_succ_self _)
set_option maxRecDepth 20000 in
set_option maxHeartbeats 4000000 in
theorem m_undo_x3 {g : Gx} {h : HP} {mv mrc mmc mmk mdv mwl mwa mwp mth : Int} {mm : Int → Int} {mw : Int → Int} {f0 : Int → Int} {kk : Int → Int} {ka : Int → Int} {kb : Int → Int} {mg : Int → Int} {ml : Int → Int} {r9 : Int} (hm : mO h mv mrc mmc mmk mdv mwl mwa mwp mth) (hmm : h 201 = some (oI 12464 mm)) (h202 : h 202 = some (oI 304 mw)) (h216 : h 216 = some (oZ 64 f0)) (h203 : h 203 = some (oI 6 kk)) (h204 : h 204 = some (oI 6 ka)) (h205 : h 205 = some (oI 6 kb)) (h211 : h 211 = some (oI 41 mg)) (h212 : h 212 = some (oI 768 ml)) (hv : 0 ≤ mv ∧ mv ≤ 40) (hmc : 1 ≤ mmc ∧ mmc ≤ 40) (hg : 1 ≤ mg (mmc - 1) ∧ mg (mmc - 1) ≤ 40) (hrc : 0 ≤ mrc ∧ mrc ≤ 6) (hru : ∀ i, 0 ≤ i → i < mrc → (0 ≤ ka i ∧ ka i ≤ 2) ∧ (0 ≤ kb i ∧ kb i ≤ 2) ∧ (kk i = 99 ∨ kk i = 120 ∨ kk i = 103 ∨ kk i = 119 ∨ kk i = 109)) (hwv : RowV (fmix (fun s => if mm (304 * mg (mmc - 1) + s) ≠ mm (304 * mg (mmc - 1) - 304 + s) then mm (304 * mg (mmc - 1) - 304 + s) else (fmix (fun s => mm (304 * mv + s)) mw 304) s) (fmix (fun s => mm (304 * mv + s)) mw 304) 304)) (hF : IsFirst (fun i => ¬ RuleHolds (kk i) (ka i) (kb i) (fmix (fun s => if mm (304 * mg (mmc - 1) + s) ≠ mm (304 * mg (mmc - 1) - 304 + s) then mm (304 * mg (mmc - 1) - 304 + s) else (fmix (fun s => mm (304 * mv + s)) mw 304) s) (fmix (fun s => mm (304 * mv + s)) mw 304) 304)) mrc r9) (hr : r9 = -1) (hf : 40 ≤ mv) : Ct g yX11_undo (.code yX11_undo cX11_undo 4 (some .int)) 8 0 0 [vR 200] h ((fun r h' => r = .inl (some (vI 0)) ∧ ∃ f4 : Int → Int, h' = (hput (hput (hput (hput (hput h 200 (oO 10 [vR 201, vR 202, vR 203, vR 204, vR 205, vR 206, vR 207, vR 208, vR 209, vR 210, vR 211, vR 212, vR 213, vR 214, vR 215, vR 216, vR 217, vR 218, vI mv, vI mrc, vI mmc, vI mmk, vI mdv, vI mwl, vI mwa, vI mwp, vI 0])) 202 (oI 304 (fmix (fun s => if mm (304 * mg (mmc - 1) + s) ≠ mm (304 * mg (mmc - 1) - 304 + s) then mm (304 * mg (mmc - 1) - 304 + s) else (fmix (fun s => mm (304 * mv + s)) mw 304) s) (fmix (fun s => mm (304 * mv + s)) mw 304) 304))) 216 (oZ 64 f4)) 200 (oO 10 [vR 201, vR 202, vR 203, vR 204, vR 205, vR 206, vR 207, vR 208, vR 209, vR 210, vR 211, vR 212, vR 213, vR 214, vR 215, vR 216, vR 217, vR 218, vI mv, vI mrc, vI mmc, vI mmk, vI mdv, vI mwl, vI mwa, vI mwp, vI 0])) 200 (oO 10 [vR 201, vR 202, vR 203, vR 204, vR 205, vR 206, vR 207, vR 208, vR 209, vR 210, vR 211, vR 212, vR 213, vR 214, vR 215, vR 216, vR 217, vR 218, vI mv, vI mrc, vI mmc, vI mmk, vI mdv, vI mwl, vI mwa, vI mwp, vI 3])))) := by
  refine Ct.of (by decide) (Nat.le_of_ble_eq_true rfl) (fun x hg C F => ?_)
  subst hg
  show T x 0 [(0, vR 200)] [] h 0 0
  refine st_aload_n C 0 dX11_undo_0 rfl rfl ?_
  refine st_aload_n C 0 dX11_undo_1 rfl rfl ?_
  refine st_getf C dX11_undo_2 fl_X11_165 hm rfl ?_
  refine st_if_le (tgt := 12) C dX11_undo_5 (by decide) (fun c_5 => by omega) (fun c_5 => ?_)
  refine st_iconst C dX11_undo_8 (by decide) ?_
  refine st_goto (tgt := 13) C dX11_undo_9 (by decide) ?_
  refine st_iconst C dX11_undo_13 (by decide) ?_
  refine st_callV (st := []) C dX11_undo_14 [vI 1, vI 1] (k_no_t (p9 := 1) hm) hm w_X11_112 rfl (by decide) (by decide) (by omega) (by omega) (Nat.le_of_ble_eq_true rfl) (ko_rt ?_)
  show T x 17 [(0, vR 200)] [vI 0] (hput h 200 (oO 10 [vR 201, vR 202, vR 203, vR 204, vR 205, vR 206, vR 207, vR 208, vR 209, vR 210, vR 211, vR 212, vR 213, vR 214, vR 215, vR 216, vR 217, vR 218, vI mv, vI mrc, vI mmc, vI mmk, vI mdv, vI mwl, vI mwa, vI mwp, vI 0])) _ _
  refine st_if_eq (tgt := 22) C dX11_undo_17 (by decide) (fun c_17 => ?_) (fun c_17 => by omega)
  refine st_aload_n C 0 dX11_undo_22 rfl rfl ?_
  refine st_callV (st := []) C dX11_undo_23 [] (k_take (mm := mm) hput_s (hput_o (by omega) hmm) hv (hput_o (by omega) h202)) hput_s w_X11_116 rfl (by decide) (by decide) (by omega) (by omega) (Nat.le_of_ble_eq_true rfl) (ko_rn ?_)
  show T x 26 [(0, vR 200)] [] (hput (hput h 200 (oO 10 [vR 201, vR 202, vR 203, vR 204, vR 205, vR 206, vR 207, vR 208, vR 209, vR 210, vR 211, vR 212, vR 213, vR 214, vR 215, vR 216, vR 217, vR 218, vI mv, vI mrc, vI mmc, vI mmk, vI mdv, vI mwl, vI mwa, vI mwp, vI 0])) 202 (oI 304 (fmix (fun s => mm (304 * mv + s)) mw 304))) _ _
  refine st_sipush C dX11_undo_26 (by decide) (by decide) ?_
  refine st_aload_n C 0 dX11_undo_29 rfl rfl ?_
  refine st_getf C dX11_undo_30 fl_X11_41 (hput_o (by omega) hput_s) rfl ?_
  refine st_aload_n C 0 dX11_undo_33 rfl rfl ?_
  refine st_getf C dX11_undo_34 fl_X11_165 (hput_o (by omega) hput_s) rfl ?_
  refine st_iconst C dX11_undo_37 (by decide) ?_
  refine st_isub C dX11_undo_38 ⟨(by omega), (by omega)⟩ ?_
  refine st_iald C dX11_undo_39 (hput_o (by omega) (hput_o (by omega) h211)) (by omega) (by omega) ?_
  refine st_imul C dX11_undo_40 ⟨(by omega), (by omega)⟩ ?_
  refine st_istore_n C 1 dX11_undo_41 rfl (by decide) rfl ?_
  show T x 42 [(0, vR 200), (1, vI (304 * (mg (mmc - 1))))] [] _ _ _
  refine st_iconst C dX11_undo_42 (by decide) ?_
  refine st_istore_n C 2 dX11_undo_43 rfl (by decide) rfl ?_
  show T x 44 [(0, vR 200), (1, vI (304 * (mg (mmc - 1)))), (2, vI 0)] [] _ _ _
  have loop_44 : ∀ (n_44 : Nat) (i : Int) (h1 : HP), (0 ≤ i) → (i ≤ 304) → (h1 = hput (hput h 200 (oO 10 [vR 201, vR 202, vR 203, vR 204, vR 205, vR 206, vR 207, vR 208, vR 209, vR 210, vR 211, vR 212, vR 213, vR 214, vR 215, vR 216, vR 217, vR 218, vI mv, vI mrc, vI mmc, vI mmk, vI mdv, vI mwl, vI mwa, vI mwp, vI 0])) 202 (oI 304 (fmix (fun s => if mm (304 * mg (mmc - 1) + s) ≠ mm (304 * mg (mmc - 1) - 304 + s) then mm (304 * mg (mmc - 1) - 304 + s) else (fmix (fun s => mm (304 * mv + s)) mw 304) s) (fmix (fun s => mm (304 * mv + s)) mw 304) i))) → (304 - i).toNat < n_44 → T x 44 [(0, vR 200), (1, vI (304 * (mg (mmc - 1)))), (2, vI i)] [] h1 0 0 := by
    intro n_44
    induction n_44 with
    | zero => intro i h1 g1 g2 hh hm_44; exact absurd hm_44 (Nat.not_lt_zero _)
    | succ n_44 ih_44 =>
      intro i h1 g1 g2 hh hm_44
      refine st_iload_n C 2 dX11_undo_44 rfl rfl ?_
      refine st_sipush C dX11_undo_45 (by decide) (by decide) ?_
      refine st_icmp_ge (tgt := 98) C dX11_undo_48 (by decide) (fun c_48 => ?_) (fun c_48 => ?_)
      · have e8 : i = 304 := by omega
        subst e8
        subst hh
        refine st_aload_n C 0 dX11_undo_98 rfl rfl ?_
        refine st_callV (st := []) C dX11_undo_99 [] (k_munlike (mw := (fmix (fun s => if mm (304 * mg (mmc - 1) + s) ≠ mm (304 * mg (mmc - 1) - 304 + s) then mm (304 * mg (mmc - 1) - 304 + s) else (fmix (fun s => mm (304 * mv + s)) mw 304) s) (fmix (fun s => mm (304 * mv + s)) mw 304) 304)) (by exact hput_o (by decide) hput_s) (by exact hput_o (by decide) (hput_o (by decide) hmm)) hv (by exact hput_s)) (by exact hput_o (by decide) hput_s) w_X11_159 rfl (by decide) (by decide) (by omega) (by omega) (Nat.le_of_ble_eq_true rfl) (ko_rt ?_)
        show T x 102 [(0, vR 200), (1, vI (304 * (mg (mmc - 1)))), (2, vI 304)] [vI (cnt (fun j => (fmix (fun s => if mm (304 * mg (mmc - 1) + s) ≠ mm (304 * mg (mmc - 1) - 304 + s) then mm (304 * mg (mmc - 1) - 304 + s) else (fmix (fun s => mm (304 * mv + s)) mw 304) s) (fmix (fun s => mm (304 * mv + s)) mw 304) 304) j ≠ mm (304 * mv + j)) 304)] _ _ _
        refine st_istore_n C 2 dX11_undo_102 rfl (by decide) rfl ?_
        show T x 103 [(0, vR 200), (1, vI (304 * (mg (mmc - 1)))), (2, vI (cnt (fun j => (fmix (fun s => if mm (304 * mg (mmc - 1) + s) ≠ mm (304 * mg (mmc - 1) - 304 + s) then mm (304 * mg (mmc - 1) - 304 + s) else (fmix (fun s => mm (304 * mv + s)) mw 304) s) (fmix (fun s => mm (304 * mv + s)) mw 304) 304) j ≠ mm (304 * mv + j)) 304))] [] _ _ _
        refine st_aload_n C 0 dX11_undo_103 rfl rfl ?_
        refine st_aload_n C 0 dX11_undo_104 rfl rfl ?_
        refine st_callV (st := [vR 200]) C dX11_undo_105 [] (k_mbroken (mw := (fmix (fun s => if mm (304 * mg (mmc - 1) + s) ≠ mm (304 * mg (mmc - 1) - 304 + s) then mm (304 * mg (mmc - 1) - 304 + s) else (fmix (fun s => mm (304 * mv + s)) mw 304) s) (fmix (fun s => mm (304 * mv + s)) mw 304) 304)) (f0 := f0) (by exact hput_o (by decide) hput_s) (by exact hput_s) (by exact hput_o (by decide) (hput_o (by decide) h216)) (by exact hput_o (by decide) (hput_o (by decide) h203)) (by exact hput_o (by decide) (hput_o (by decide) h204)) (by exact hput_o (by decide) (hput_o (by decide) h205)) hrc hwv hru hF) (by exact hput_o (by decide) hput_s) w_X11_152 rfl (by decide) (by decide) (by omega) (by omega) (Nat.le_of_ble_eq_true rfl) (ko_rz (fun f4 _ => ?_))
        show T x 108 [(0, vR 200), (1, vI (304 * (mg (mmc - 1)))), (2, vI (cnt (fun j => (fmix (fun s => if mm (304 * mg (mmc - 1) + s) ≠ mm (304 * mg (mmc - 1) - 304 + s) then mm (304 * mg (mmc - 1) - 304 + s) else (fmix (fun s => mm (304 * mv + s)) mw 304) s) (fmix (fun s => mm (304 * mv + s)) mw 304) 304) j ≠ mm (304 * mv + j)) 304))] [vI r9, vR 200] _ _ _
        refine st_if_ge (tgt := 115) C dX11_undo_108 (by decide) (fun c_108 => by omega) (fun c_108 => ?_)
        refine st_iconst C dX11_undo_111 (by decide) ?_
        refine st_goto (tgt := 116) C dX11_undo_112 (by decide) ?_
        refine st_iconst C dX11_undo_116 (by decide) ?_
        refine st_callV (st := []) C dX11_undo_117 [vI 1, vI 2] (k_no_t (p9 := 2) (hput_o (by decide) (by exact hput_o (by decide) hput_s))) (hput_o (by decide) (by exact hput_o (by decide) hput_s)) w_X11_112 rfl (by decide) (by decide) (by omega) (by omega) (Nat.le_of_ble_eq_true rfl) (ko_rt ?_)
        show T x 120 [(0, vR 200), (1, vI (304 * (mg (mmc - 1)))), (2, vI (cnt (fun j => (fmix (fun s => if mm (304 * mg (mmc - 1) + s) ≠ mm (304 * mg (mmc - 1) - 304 + s) then mm (304 * mg (mmc - 1) - 304 + s) else (fmix (fun s => mm (304 * mv + s)) mw 304) s) (fmix (fun s => mm (304 * mv + s)) mw 304) 304) j ≠ mm (304 * mv + j)) 304))] [vI 0] (hput (hput (hput (hput h 200 (oO 10 [vR 201, vR 202, vR 203, vR 204, vR 205, vR 206, vR 207, vR 208, vR 209, vR 210, vR 211, vR 212, vR 213, vR 214, vR 215, vR 216, vR 217, vR 218, vI mv, vI mrc, vI mmc, vI mmk, vI mdv, vI mwl, vI mwa, vI mwp, vI 0])) 202 (oI 304 (fmix (fun s => if mm (304 * mg (mmc - 1) + s) ≠ mm (304 * mg (mmc - 1) - 304 + s) then mm (304 * mg (mmc - 1) - 304 + s) else (fmix (fun s => mm (304 * mv + s)) mw 304) s) (fmix (fun s => mm (304 * mv + s)) mw 304) 304))) 216 (oZ 64 f4)) 200 (oO 10 [vR 201, vR 202, vR 203, vR 204, vR 205, vR 206, vR 207, vR 208, vR 209, vR 210, vR 211, vR 212, vR 213, vR 214, vR 215, vR 216, vR 217, vR 218, vI mv, vI mrc, vI mmc, vI mmk, vI mdv, vI mwl, vI mwa, vI mwp, vI 0])) _ _
        refine st_if_ne (tgt := 145) C dX11_undo_120 (by decide) (fun c_120 => by omega) (fun c_120 => ?_)
        refine st_aload_n C 0 dX11_undo_123 rfl rfl ?_
        refine st_aload_n C 0 dX11_undo_124 rfl rfl ?_
        refine st_getf C dX11_undo_125 fl_X11_72 hput_s rfl ?_
        refine st_bipush C dX11_undo_128 (by decide) (by decide) ?_
        refine st_icmp_ge (tgt := 137) C dX11_undo_130 (by decide) (fun c_130 => ?_) (fun c_130 => by omega)
        refine st_iconst C dX11_undo_137 (by decide) ?_
        refine st_iconst C dX11_undo_138 (by decide) ?_
        refine st_callV (st := []) C dX11_undo_139 [vI 0, vI 3] (k_no_f (p9 := 3) hput_s) hput_s w_X11_112 rfl (by decide) (by decide) (by omega) (by omega) (Nat.le_of_ble_eq_true rfl) (ko_rt ?_)
        show T x 142 [(0, vR 200), (1, vI (304 * (mg (mmc - 1)))), (2, vI (cnt (fun j => (fmix (fun s => if mm (304 * mg (mmc - 1) + s) ≠ mm (304 * mg (mmc - 1) - 304 + s) then mm (304 * mg (mmc - 1) - 304 + s) else (fmix (fun s => mm (304 * mv + s)) mw 304) s) (fmix (fun s => mm (304 * mv + s)) mw 304) 304) j ≠ mm (304 * mv + j)) 304))] [vI 1] (hput (hput (hput (hput (hput h 200 (oO 10 [vR 201, vR 202, vR 203, vR 204, vR 205, vR 206, vR 207, vR 208, vR 209, vR 210, vR 211, vR 212, vR 213, vR 214, vR 215, vR 216, vR 217, vR 218, vI mv, vI mrc, vI mmc, vI mmk, vI mdv, vI mwl, vI mwa, vI mwp, vI 0])) 202 (oI 304 (fmix (fun s => if mm (304 * mg (mmc - 1) + s) ≠ mm (304 * mg (mmc - 1) - 304 + s) then mm (304 * mg (mmc - 1) - 304 + s) else (fmix (fun s => mm (304 * mv + s)) mw 304) s) (fmix (fun s => mm (304 * mv + s)) mw 304) 304))) 216 (oZ 64 f4)) 200 (oO 10 [vR 201, vR 202, vR 203, vR 204, vR 205, vR 206, vR 207, vR 208, vR 209, vR 210, vR 211, vR 212, vR 213, vR 214, vR 215, vR 216, vR 217, vR 218, vI mv, vI mrc, vI mmc, vI mmk, vI mdv, vI mwl, vI mwa, vI mwp, vI 0])) 200 (oO 10 [vR 201, vR 202, vR 203, vR 204, vR 205, vR 206, vR 207, vR 208, vR 209, vR 210, vR 211, vR 212, vR 213, vR 214, vR 215, vR 216, vR 217, vR 218, vI mv, vI mrc, vI mmc, vI mmk, vI mdv, vI mwl, vI mwa, vI mwp, vI 3])) _ _
        refine st_if_eq (tgt := 147) C dX11_undo_142 (by decide) (fun c_142 => by omega) (fun c_142 => ?_)
        refine st_iconst C dX11_undo_145 (by decide) ?_
        exact st_ireturn C F dX11_undo_146 rfl (by first | exact ⟨by with_reducible rfl, f4, by with_reducible rfl⟩ | (exfalso; omega)) (by omega) (by omega)
      · refine st_aload_n C 0 dX11_undo_51 rfl rfl ?_
        refine st_getf C dX11_undo_52 fl_X11_7 (by rw [hh]; exact hput_o (by decide) hput_s) rfl ?_
        refine st_iload_n C 1 dX11_undo_55 rfl rfl ?_
        refine st_sipush C dX11_undo_56 (by decide) (by decide) ?_
        refine st_isub C dX11_undo_59 ⟨(by omega), (by omega)⟩ ?_
        refine st_iload_n C 2 dX11_undo_60 rfl rfl ?_
        refine st_iadd C dX11_undo_61 ⟨(by omega), (by omega)⟩ ?_
        refine st_iald C dX11_undo_62 (by rw [hh]; exact hput_o (by decide) (hput_o (by decide) hmm)) (by omega) (by omega) ?_
        refine st_istore_n C 3 dX11_undo_63 rfl (by decide) rfl ?_
        show T x 64 [(0, vR 200), (1, vI (304 * (mg (mmc - 1)))), (2, vI i), (3, vI (mm (304 * (mg (mmc - 1)) - 304 + i)))] [] _ _ _
        refine st_aload_n C 0 dX11_undo_64 rfl rfl ?_
        refine st_getf C dX11_undo_65 fl_X11_13 (by rw [hh]; exact hput_o (by decide) hput_s) rfl ?_
        refine st_iload_n C 2 dX11_undo_68 rfl rfl ?_
        refine st_aload_n C 0 dX11_undo_69 rfl rfl ?_
        refine st_getf C dX11_undo_70 fl_X11_7 (by rw [hh]; exact hput_o (by decide) hput_s) rfl ?_
        refine st_iload_n C 1 dX11_undo_73 rfl rfl ?_
        refine st_iload_n C 2 dX11_undo_74 rfl rfl ?_
        refine st_iadd C dX11_undo_75 ⟨(by omega), (by omega)⟩ ?_
        refine st_iald C dX11_undo_76 (by rw [hh]; exact hput_o (by decide) (hput_o (by decide) hmm)) (by omega) (by omega) ?_
        refine st_iload_n C 3 dX11_undo_77 rfl rfl ?_
        refine st_icmp_eq (tgt := 85) C dX11_undo_78 (by decide) (fun c_78 => ?_) (fun c_78 => ?_)
        · refine st_aload_n C 0 dX11_undo_85 rfl rfl ?_
          refine st_getf C dX11_undo_86 fl_X11_13 (by rw [hh]; exact hput_o (by decide) hput_s) rfl ?_
          refine st_iload_n C 2 dX11_undo_89 rfl rfl ?_
          refine st_iald C dX11_undo_90 (by rw [hh]; exact hput_s) (by omega) (by omega) ?_
          refine st_iast C dX11_undo_91 (by rw [hh]; exact hput_s) (by omega) (by omega) ?_
          refine st_iinc C dX11_undo_92 rfl (by decide) rfl ⟨(by omega), (by omega)⟩ ?_
          show T x 95 [(0, vR 200), (1, vI (304 * (mg (mmc - 1)))), (2, vI (i + 1)), (3, vI (mm (304 * (mg (mmc - 1)) - 304 + i)))] [] _ _ _
          refine st_goto (tgt := 44) C dX11_undo_95 (by decide) ?_
          refine st_sub [0, 1, 2] rfl ?_
          exact ih_44 (i + 1) (hput h1 202 (oI 304 (fput (fmix (fun s => if mm (304 * mg (mmc - 1) + s) ≠ mm (304 * mg (mmc - 1) - 304 + s) then mm (304 * mg (mmc - 1) - 304 + s) else (fmix (fun s => mm (304 * mv + s)) mw 304) s) (fmix (fun s => mm (304 * mv + s)) mw 304) i) i ((fmix (fun s => if mm (304 * mg (mmc - 1) + s) ≠ mm (304 * mg (mmc - 1) - 304 + s) then mm (304 * mg (mmc - 1) - 304 + s) else (fmix (fun s => mm (304 * mv + s)) mw 304) s) (fmix (fun s => mm (304 * mv + s)) mw 304) i) i)))) (by omega) (by omega) (by rw [hh, hput_hput]; refine congrArg (fun z => hput (hput h 200 (oO 10 [vR 201, vR 202, vR 203, vR 204, vR 205, vR 206, vR 207, vR 208, vR 209, vR 210, vR 211, vR 212, vR 213, vR 214, vR 215, vR 216, vR 217, vR 218, vI mv, vI mrc, vI mmc, vI mmk, vI mdv, vI mwl, vI mwa, vI mwp, vI 0])) 202 (oI 304 z)) (fmix_s g1 ?_); first | exact (if_pos (by assumption)).symm | (rw [fmix_at2]; exact (if_neg (fun z => z (by assumption))).symm)) (by omega)
        · refine st_iload_n C 3 dX11_undo_81 rfl rfl ?_
          refine st_goto (tgt := 91) C dX11_undo_82 (by decide) ?_
          refine st_iast C dX11_undo_91 (by rw [hh]; exact hput_s) (by omega) (by omega) ?_
          refine st_iinc C dX11_undo_92 rfl (by decide) rfl ⟨(by omega), (by omega)⟩ ?_
          show T x 95 [(0, vR 200), (1, vI (304 * (mg (mmc - 1)))), (2, vI (i + 1)), (3, vI (mm (304 * (mg (mmc - 1)) - 304 + i)))] [] _ _ _
          refine st_goto (tgt := 44) C dX11_undo_95 (by decide) ?_
          refine st_sub [0, 1, 2] rfl ?_
          exact ih_44 (i + 1) (hput h1 202 (oI 304 (fput (fmix (fun s => if mm (304 * mg (mmc - 1) + s) ≠ mm (304 * mg (mmc - 1) - 304 + s) then mm (304 * mg (mmc - 1) - 304 + s) else (fmix (fun s => mm (304 * mv + s)) mw 304) s) (fmix (fun s => mm (304 * mv + s)) mw 304) i) i (mm (304 * (mg (mmc - 1)) - 304 + i))))) (by omega) (by omega) (by rw [hh, hput_hput]; refine congrArg (fun z => hput (hput h 200 (oO 10 [vR 201, vR 202, vR 203, vR 204, vR 205, vR 206, vR 207, vR 208, vR 209, vR 210, vR 211, vR 212, vR 213, vR 214, vR 215, vR 216, vR 217, vR 218, vI mv, vI mrc, vI mmc, vI mmk, vI mdv, vI mwl, vI mwa, vI mwp, vI 0])) 202 (oI 304 z)) (fmix_s g1 ?_); first | exact (if_pos (by assumption)).symm | (rw [fmix_at2]; exact (if_neg (fun z => z (by assumption))).symm)) (by omega)
  exact loop_44 _ 0 (hput (hput h 200 (oO 10 [vR 201, vR 202, vR 203, vR 204, vR 205, vR 206, vR 207, vR 208, vR 209, vR 210, vR 211, vR 212, vR 213, vR 214, vR 215, vR 216, vR 217, vR 218, vI mv, vI mrc, vI mmc, vI mmk, vI mdv, vI mwl, vI mwa, vI mwp, vI 0])) 202 (oI 304 (fmix (fun s => mm (304 * mv + s)) mw 304))) (by omega) (by omega) (by rw [fmix_0]) (Nat.lt_succ_self _)
set_option maxRecDepth 20000 in
set_option maxHeartbeats 4000000 in
theorem m_undo {g : Gx} {h : HP} {mv mrc mmc mmk mdv mwl mwa mwp mth : Int} {mm : Int → Int} {mw : Int → Int} {f0 : Int → Int} {kk : Int → Int} {ka : Int → Int} {kb : Int → Int} {mg : Int → Int} {ml : Int → Int} {r9 : Int} (hm : mO h mv mrc mmc mmk mdv mwl mwa mwp mth) (hmm : h 201 = some (oI 12464 mm)) (h202 : h 202 = some (oI 304 mw)) (h216 : h 216 = some (oZ 64 f0)) (h203 : h 203 = some (oI 6 kk)) (h204 : h 204 = some (oI 6 ka)) (h205 : h 205 = some (oI 6 kb)) (h211 : h 211 = some (oI 41 mg)) (h212 : h 212 = some (oI 768 ml)) (hv : 0 ≤ mv ∧ mv ≤ 40) (hmc : 1 ≤ mmc ∧ mmc ≤ 40) (hg : 1 ≤ mg (mmc - 1) ∧ mg (mmc - 1) ≤ 40) (hrc : 0 ≤ mrc ∧ mrc ≤ 6) (hru : ∀ i, 0 ≤ i → i < mrc → (0 ≤ ka i ∧ ka i ≤ 2) ∧ (0 ≤ kb i ∧ kb i ≤ 2) ∧ (kk i = 99 ∨ kk i = 120 ∨ kk i = 103 ∨ kk i = 119 ∨ kk i = 109)) (hwv : RowV (fmix (fun s => if mm (304 * mg (mmc - 1) + s) ≠ mm (304 * mg (mmc - 1) - 304 + s) then mm (304 * mg (mmc - 1) - 304 + s) else (fmix (fun s => mm (304 * mv + s)) mw 304) s) (fmix (fun s => mm (304 * mv + s)) mw 304) 304)) (hF : IsFirst (fun i => ¬ RuleHolds (kk i) (ka i) (kb i) (fmix (fun s => if mm (304 * mg (mmc - 1) + s) ≠ mm (304 * mg (mmc - 1) - 304 + s) then mm (304 * mg (mmc - 1) - 304 + s) else (fmix (fun s => mm (304 * mv + s)) mw 304) s) (fmix (fun s => mm (304 * mv + s)) mw 304) 304)) mrc r9) (hr : r9 = -1) (hf : mv ≤ 39) : Ct g yX11_undo (.code yX11_undo cX11_undo 4 (some .int)) 8 0 0 [vR 200] h ((fun r h' => r = .inl (some (vI (cnt (fun j => (fmix (fun s => if mm (304 * mg (mmc - 1) + s) ≠ mm (304 * mg (mmc - 1) - 304 + s) then mm (304 * mg (mmc - 1) - 304 + s) else (fmix (fun s => mm (304 * mv + s)) mw 304) s) (fmix (fun s => mm (304 * mv + s)) mw 304) 304) j ≠ mm (304 * mv + j)) 304))) ∧ ∃ f4 : Int → Int, h' = (hput (hput (hput (hput (hput (hput (hput (hput (hput h 200 (oO 10 [vR 201, vR 202, vR 203, vR 204, vR 205, vR 206, vR 207, vR 208, vR 209, vR 210, vR 211, vR 212, vR 213, vR 214, vR 215, vR 216, vR 217, vR 218, vI mv, vI mrc, vI mmc, vI mmk, vI mdv, vI mwl, vI mwa, vI mwp, vI 0])) 202 (oI 304 (fmix (fun s => if mm (304 * mg (mmc - 1) + s) ≠ mm (304 * mg (mmc - 1) - 304 + s) then mm (304 * mg (mmc - 1) - 304 + s) else (fmix (fun s => mm (304 * mv + s)) mw 304) s) (fmix (fun s => mm (304 * mv + s)) mw 304) 304))) 216 (oZ 64 f4)) 200 (oO 10 [vR 201, vR 202, vR 203, vR 204, vR 205, vR 206, vR 207, vR 208, vR 209, vR 210, vR 211, vR 212, vR 213, vR 214, vR 215, vR 216, vR 217, vR 218, vI mv, vI mrc, vI mmc, vI mmk, vI mdv, vI mwl, vI mwa, vI mwp, vI 0])) 200 (oO 10 [vR 201, vR 202, vR 203, vR 204, vR 205, vR 206, vR 207, vR 208, vR 209, vR 210, vR 211, vR 212, vR 213, vR 214, vR 215, vR 216, vR 217, vR 218, vI mv, vI mrc, vI mmc, vI mmk, vI mdv, vI mwl, vI mwa, vI mwp, vI 0])) 200 (oO 10 [vR 201, vR 202, vR 203, vR 204, vR 205, vR 206, vR 207, vR 208, vR 209, vR 210, vR 211, vR 212, vR 213, vR 214, vR 215, vR 216, vR 217, vR 218, vI mv, vI mrc, vI (mmc - 1), vI mmk, vI mdv, vI mwl, vI mwa, vI mwp, vI 0])) 212 (oI 768 (mthU ml (fmix (fun s => if mm (304 * mg (mmc - 1) + s) ≠ mm (304 * mg (mmc - 1) - 304 + s) then mm (304 * mg (mmc - 1) - 304 + s) else (fmix (fun s => mm (304 * mv + s)) mw 304) s) (fmix (fun s => mm (304 * mv + s)) mw 304) 304) (fun s => mm (304 * mv + s)) 192))) 200 (oO 10 [vR 201, vR 202, vR 203, vR 204, vR 205, vR 206, vR 207, vR 208, vR 209, vR 210, vR 211, vR 212, vR 213, vR 214, vR 215, vR 216, vR 217, vR 218, vI (mv + 1), vI mrc, vI (mmc - 1), vI mmk, vI mdv, vI mwl, vI mwa, vI mwp, vI 0])) 201 (oI 12464 (mcpy mm (fmix (fun s => if mm (304 * mg (mmc - 1) + s) ≠ mm (304 * mg (mmc - 1) - 304 + s) then mm (304 * mg (mmc - 1) - 304 + s) else (fmix (fun s => mm (304 * mv + s)) mw 304) s) (fmix (fun s => mm (304 * mv + s)) mw 304) 304) (304 * (mv + 1)) 304))))) := by
  refine Ct.of (by decide) (Nat.le_of_ble_eq_true rfl) (fun x hg C F => ?_)
  subst hg
  show T x 0 [(0, vR 200)] [] h 0 0
  refine st_aload_n C 0 dX11_undo_0 rfl rfl ?_
  refine st_aload_n C 0 dX11_undo_1 rfl rfl ?_
  refine st_getf C dX11_undo_2 fl_X11_165 hm rfl ?_
  refine st_if_le (tgt := 12) C dX11_undo_5 (by decide) (fun c_5 => by omega) (fun c_5 => ?_)
  refine st_iconst C dX11_undo_8 (by decide) ?_
  refine st_goto (tgt := 13) C dX11_undo_9 (by decide) ?_
  refine st_iconst C dX11_undo_13 (by decide) ?_
  refine st_callV (st := []) C dX11_undo_14 [vI 1, vI 1] (k_no_t (p9 := 1) hm) hm w_X11_112 rfl (by decide) (by decide) (by omega) (by omega) (Nat.le_of_ble_eq_true rfl) (ko_rt ?_)
  show T x 17 [(0, vR 200)] [vI 0] (hput h 200 (oO 10 [vR 201, vR 202, vR 203, vR 204, vR 205, vR 206, vR 207, vR 208, vR 209, vR 210, vR 211, vR 212, vR 213, vR 214, vR 215, vR 216, vR 217, vR 218, vI mv, vI mrc, vI mmc, vI mmk, vI mdv, vI mwl, vI mwa, vI mwp, vI 0])) _ _
  refine st_if_eq (tgt := 22) C dX11_undo_17 (by decide) (fun c_17 => ?_) (fun c_17 => by omega)
  refine st_aload_n C 0 dX11_undo_22 rfl rfl ?_
  refine st_callV (st := []) C dX11_undo_23 [] (k_take (mm := mm) hput_s (hput_o (by omega) hmm) hv (hput_o (by omega) h202)) hput_s w_X11_116 rfl (by decide) (by decide) (by omega) (by omega) (Nat.le_of_ble_eq_true rfl) (ko_rn ?_)
  show T x 26 [(0, vR 200)] [] (hput (hput h 200 (oO 10 [vR 201, vR 202, vR 203, vR 204, vR 205, vR 206, vR 207, vR 208, vR 209, vR 210, vR 211, vR 212, vR 213, vR 214, vR 215, vR 216, vR 217, vR 218, vI mv, vI mrc, vI mmc, vI mmk, vI mdv, vI mwl, vI mwa, vI mwp, vI 0])) 202 (oI 304 (fmix (fun s => mm (304 * mv + s)) mw 304))) _ _
  refine st_sipush C dX11_undo_26 (by decide) (by decide) ?_
  refine st_aload_n C 0 dX11_undo_29 rfl rfl ?_
  refine st_getf C dX11_undo_30 fl_X11_41 (hput_o (by omega) hput_s) rfl ?_
  refine st_aload_n C 0 dX11_undo_33 rfl rfl ?_
  refine st_getf C dX11_undo_34 fl_X11_165 (hput_o (by omega) hput_s) rfl ?_
  refine st_iconst C dX11_undo_37 (by decide) ?_
  refine st_isub C dX11_undo_38 ⟨(by omega), (by omega)⟩ ?_
  refine st_iald C dX11_undo_39 (hput_o (by omega) (hput_o (by omega) h211)) (by omega) (by omega) ?_
  refine st_imul C dX11_undo_40 ⟨(by omega), (by omega)⟩ ?_
  refine st_istore_n C 1 dX11_undo_41 rfl (by decide) rfl ?_
  show T x 42 [(0, vR 200), (1, vI (304 * (mg (mmc - 1))))] [] _ _ _
  refine st_iconst C dX11_undo_42 (by decide) ?_
  refine st_istore_n C 2 dX11_undo_43 rfl (by decide) rfl ?_
  show T x 44 [(0, vR 200), (1, vI (304 * (mg (mmc - 1)))), (2, vI 0)] [] _ _ _
  have loop_44 : ∀ (n_44 : Nat) (i : Int) (h1 : HP), (0 ≤ i) → (i ≤ 304) → (h1 = hput (hput h 200 (oO 10 [vR 201, vR 202, vR 203, vR 204, vR 205, vR 206, vR 207, vR 208, vR 209, vR 210, vR 211, vR 212, vR 213, vR 214, vR 215, vR 216, vR 217, vR 218, vI mv, vI mrc, vI mmc, vI mmk, vI mdv, vI mwl, vI mwa, vI mwp, vI 0])) 202 (oI 304 (fmix (fun s => if mm (304 * mg (mmc - 1) + s) ≠ mm (304 * mg (mmc - 1) - 304 + s) then mm (304 * mg (mmc - 1) - 304 + s) else (fmix (fun s => mm (304 * mv + s)) mw 304) s) (fmix (fun s => mm (304 * mv + s)) mw 304) i))) → (304 - i).toNat < n_44 → T x 44 [(0, vR 200), (1, vI (304 * (mg (mmc - 1)))), (2, vI i)] [] h1 0 0 := by
    intro n_44
    induction n_44 with
    | zero => intro i h1 g1 g2 hh hm_44; exact absurd hm_44 (Nat.not_lt_zero _)
    | succ n_44 ih_44 =>
      intro i h1 g1 g2 hh hm_44
      refine st_iload_n C 2 dX11_undo_44 rfl rfl ?_
      refine st_sipush C dX11_undo_45 (by decide) (by decide) ?_
      refine st_icmp_ge (tgt := 98) C dX11_undo_48 (by decide) (fun c_48 => ?_) (fun c_48 => ?_)
      · have e8 : i = 304 := by omega
        subst e8
        subst hh
        refine st_aload_n C 0 dX11_undo_98 rfl rfl ?_
        refine st_callV (st := []) C dX11_undo_99 [] (k_munlike (mw := (fmix (fun s => if mm (304 * mg (mmc - 1) + s) ≠ mm (304 * mg (mmc - 1) - 304 + s) then mm (304 * mg (mmc - 1) - 304 + s) else (fmix (fun s => mm (304 * mv + s)) mw 304) s) (fmix (fun s => mm (304 * mv + s)) mw 304) 304)) (by exact hput_o (by decide) hput_s) (by exact hput_o (by decide) (hput_o (by decide) hmm)) hv (by exact hput_s)) (by exact hput_o (by decide) hput_s) w_X11_159 rfl (by decide) (by decide) (by omega) (by omega) (Nat.le_of_ble_eq_true rfl) (ko_rt ?_)
        show T x 102 [(0, vR 200), (1, vI (304 * (mg (mmc - 1)))), (2, vI 304)] [vI (cnt (fun j => (fmix (fun s => if mm (304 * mg (mmc - 1) + s) ≠ mm (304 * mg (mmc - 1) - 304 + s) then mm (304 * mg (mmc - 1) - 304 + s) else (fmix (fun s => mm (304 * mv + s)) mw 304) s) (fmix (fun s => mm (304 * mv + s)) mw 304) 304) j ≠ mm (304 * mv + j)) 304)] _ _ _
        refine st_istore_n C 2 dX11_undo_102 rfl (by decide) rfl ?_
        show T x 103 [(0, vR 200), (1, vI (304 * (mg (mmc - 1)))), (2, vI (cnt (fun j => (fmix (fun s => if mm (304 * mg (mmc - 1) + s) ≠ mm (304 * mg (mmc - 1) - 304 + s) then mm (304 * mg (mmc - 1) - 304 + s) else (fmix (fun s => mm (304 * mv + s)) mw 304) s) (fmix (fun s => mm (304 * mv + s)) mw 304) 304) j ≠ mm (304 * mv + j)) 304))] [] _ _ _
        refine st_aload_n C 0 dX11_undo_103 rfl rfl ?_
        refine st_aload_n C 0 dX11_undo_104 rfl rfl ?_
        refine st_callV (st := [vR 200]) C dX11_undo_105 [] (k_mbroken (mw := (fmix (fun s => if mm (304 * mg (mmc - 1) + s) ≠ mm (304 * mg (mmc - 1) - 304 + s) then mm (304 * mg (mmc - 1) - 304 + s) else (fmix (fun s => mm (304 * mv + s)) mw 304) s) (fmix (fun s => mm (304 * mv + s)) mw 304) 304)) (f0 := f0) (by exact hput_o (by decide) hput_s) (by exact hput_s) (by exact hput_o (by decide) (hput_o (by decide) h216)) (by exact hput_o (by decide) (hput_o (by decide) h203)) (by exact hput_o (by decide) (hput_o (by decide) h204)) (by exact hput_o (by decide) (hput_o (by decide) h205)) hrc hwv hru hF) (by exact hput_o (by decide) hput_s) w_X11_152 rfl (by decide) (by decide) (by omega) (by omega) (Nat.le_of_ble_eq_true rfl) (ko_rz (fun f4 _ => ?_))
        show T x 108 [(0, vR 200), (1, vI (304 * (mg (mmc - 1)))), (2, vI (cnt (fun j => (fmix (fun s => if mm (304 * mg (mmc - 1) + s) ≠ mm (304 * mg (mmc - 1) - 304 + s) then mm (304 * mg (mmc - 1) - 304 + s) else (fmix (fun s => mm (304 * mv + s)) mw 304) s) (fmix (fun s => mm (304 * mv + s)) mw 304) 304) j ≠ mm (304 * mv + j)) 304))] [vI r9, vR 200] _ _ _
        refine st_if_ge (tgt := 115) C dX11_undo_108 (by decide) (fun c_108 => by omega) (fun c_108 => ?_)
        refine st_iconst C dX11_undo_111 (by decide) ?_
        refine st_goto (tgt := 116) C dX11_undo_112 (by decide) ?_
        refine st_iconst C dX11_undo_116 (by decide) ?_
        refine st_callV (st := []) C dX11_undo_117 [vI 1, vI 2] (k_no_t (p9 := 2) (hput_o (by decide) (by exact hput_o (by decide) hput_s))) (hput_o (by decide) (by exact hput_o (by decide) hput_s)) w_X11_112 rfl (by decide) (by decide) (by omega) (by omega) (Nat.le_of_ble_eq_true rfl) (ko_rt ?_)
        show T x 120 [(0, vR 200), (1, vI (304 * (mg (mmc - 1)))), (2, vI (cnt (fun j => (fmix (fun s => if mm (304 * mg (mmc - 1) + s) ≠ mm (304 * mg (mmc - 1) - 304 + s) then mm (304 * mg (mmc - 1) - 304 + s) else (fmix (fun s => mm (304 * mv + s)) mw 304) s) (fmix (fun s => mm (304 * mv + s)) mw 304) 304) j ≠ mm (304 * mv + j)) 304))] [vI 0] (hput (hput (hput (hput h 200 (oO 10 [vR 201, vR 202, vR 203, vR 204, vR 205, vR 206, vR 207, vR 208, vR 209, vR 210, vR 211, vR 212, vR 213, vR 214, vR 215, vR 216, vR 217, vR 218, vI mv, vI mrc, vI mmc, vI mmk, vI mdv, vI mwl, vI mwa, vI mwp, vI 0])) 202 (oI 304 (fmix (fun s => if mm (304 * mg (mmc - 1) + s) ≠ mm (304 * mg (mmc - 1) - 304 + s) then mm (304 * mg (mmc - 1) - 304 + s) else (fmix (fun s => mm (304 * mv + s)) mw 304) s) (fmix (fun s => mm (304 * mv + s)) mw 304) 304))) 216 (oZ 64 f4)) 200 (oO 10 [vR 201, vR 202, vR 203, vR 204, vR 205, vR 206, vR 207, vR 208, vR 209, vR 210, vR 211, vR 212, vR 213, vR 214, vR 215, vR 216, vR 217, vR 218, vI mv, vI mrc, vI mmc, vI mmk, vI mdv, vI mwl, vI mwa, vI mwp, vI 0])) _ _
        refine st_if_ne (tgt := 145) C dX11_undo_120 (by decide) (fun c_120 => by omega) (fun c_120 => ?_)
        refine st_aload_n C 0 dX11_undo_123 rfl rfl ?_
        refine st_aload_n C 0 dX11_undo_124 rfl rfl ?_
        refine st_getf C dX11_undo_125 fl_X11_72 hput_s rfl ?_
        refine st_bipush C dX11_undo_128 (by decide) (by decide) ?_
        refine st_icmp_ge (tgt := 137) C dX11_undo_130 (by decide) (fun c_130 => by omega) (fun c_130 => ?_)
        refine st_iconst C dX11_undo_133 (by decide) ?_
        refine st_goto (tgt := 138) C dX11_undo_134 (by decide) ?_
        refine st_iconst C dX11_undo_138 (by decide) ?_
        refine st_callV (st := []) C dX11_undo_139 [vI 1, vI 3] (k_no_t (p9 := 3) hput_s) hput_s w_X11_112 rfl (by decide) (by decide) (by omega) (by omega) (Nat.le_of_ble_eq_true rfl) (ko_rt ?_)
        show T x 142 [(0, vR 200), (1, vI (304 * (mg (mmc - 1)))), (2, vI (cnt (fun j => (fmix (fun s => if mm (304 * mg (mmc - 1) + s) ≠ mm (304 * mg (mmc - 1) - 304 + s) then mm (304 * mg (mmc - 1) - 304 + s) else (fmix (fun s => mm (304 * mv + s)) mw 304) s) (fmix (fun s => mm (304 * mv + s)) mw 304) 304) j ≠ mm (304 * mv + j)) 304))] [vI 0] (hput (hput (hput (hput (hput h 200 (oO 10 [vR 201, vR 202, vR 203, vR 204, vR 205, vR 206, vR 207, vR 208, vR 209, vR 210, vR 211, vR 212, vR 213, vR 214, vR 215, vR 216, vR 217, vR 218, vI mv, vI mrc, vI mmc, vI mmk, vI mdv, vI mwl, vI mwa, vI mwp, vI 0])) 202 (oI 304 (fmix (fun s => if mm (304 * mg (mmc - 1) + s) ≠ mm (304 * mg (mmc - 1) - 304 + s) then mm (304 * mg (mmc - 1) - 304 + s) else (fmix (fun s => mm (304 * mv + s)) mw 304) s) (fmix (fun s => mm (304 * mv + s)) mw 304) 304))) 216 (oZ 64 f4)) 200 (oO 10 [vR 201, vR 202, vR 203, vR 204, vR 205, vR 206, vR 207, vR 208, vR 209, vR 210, vR 211, vR 212, vR 213, vR 214, vR 215, vR 216, vR 217, vR 218, vI mv, vI mrc, vI mmc, vI mmk, vI mdv, vI mwl, vI mwa, vI mwp, vI 0])) 200 (oO 10 [vR 201, vR 202, vR 203, vR 204, vR 205, vR 206, vR 207, vR 208, vR 209, vR 210, vR 211, vR 212, vR 213, vR 214, vR 215, vR 216, vR 217, vR 218, vI mv, vI mrc, vI mmc, vI mmk, vI mdv, vI mwl, vI mwa, vI mwp, vI 0])) _ _
        refine st_if_eq (tgt := 147) C dX11_undo_142 (by decide) (fun c_142 => ?_) (fun c_142 => by omega)
        refine st_aload_n C 0 dX11_undo_147 rfl rfl ?_
        refine st_dup C dX11_undo_148 rfl ?_
        refine st_getf C dX11_undo_149 fl_X11_165 hput_s rfl ?_
        refine st_iconst C dX11_undo_152 (by decide) ?_
        refine st_isub C dX11_undo_153 ⟨(by omega), (by omega)⟩ ?_
        refine st_putf C dX11_undo_154 fp_X11_165 (fun q => by cases q) hput_s (Nat.le_of_ble_eq_true rfl) fit_int ?_
        show T x 157 [(0, vR 200), (1, vI (304 * (mg (mmc - 1)))), (2, vI (cnt (fun j => (fmix (fun s => if mm (304 * mg (mmc - 1) + s) ≠ mm (304 * mg (mmc - 1) - 304 + s) then mm (304 * mg (mmc - 1) - 304 + s) else (fmix (fun s => mm (304 * mv + s)) mw 304) s) (fmix (fun s => mm (304 * mv + s)) mw 304) 304) j ≠ mm (304 * mv + j)) 304))] [] (hput (hput (hput (hput (hput (hput h 200 (oO 10 [vR 201, vR 202, vR 203, vR 204, vR 205, vR 206, vR 207, vR 208, vR 209, vR 210, vR 211, vR 212, vR 213, vR 214, vR 215, vR 216, vR 217, vR 218, vI mv, vI mrc, vI mmc, vI mmk, vI mdv, vI mwl, vI mwa, vI mwp, vI 0])) 202 (oI 304 (fmix (fun s => if mm (304 * mg (mmc - 1) + s) ≠ mm (304 * mg (mmc - 1) - 304 + s) then mm (304 * mg (mmc - 1) - 304 + s) else (fmix (fun s => mm (304 * mv + s)) mw 304) s) (fmix (fun s => mm (304 * mv + s)) mw 304) 304))) 216 (oZ 64 f4)) 200 (oO 10 [vR 201, vR 202, vR 203, vR 204, vR 205, vR 206, vR 207, vR 208, vR 209, vR 210, vR 211, vR 212, vR 213, vR 214, vR 215, vR 216, vR 217, vR 218, vI mv, vI mrc, vI mmc, vI mmk, vI mdv, vI mwl, vI mwa, vI mwp, vI 0])) 200 (oO 10 [vR 201, vR 202, vR 203, vR 204, vR 205, vR 206, vR 207, vR 208, vR 209, vR 210, vR 211, vR 212, vR 213, vR 214, vR 215, vR 216, vR 217, vR 218, vI mv, vI mrc, vI mmc, vI mmk, vI mdv, vI mwl, vI mwa, vI mwp, vI 0])) 200 (oO 10 [vR 201, vR 202, vR 203, vR 204, vR 205, vR 206, vR 207, vR 208, vR 209, vR 210, vR 211, vR 212, vR 213, vR 214, vR 215, vR 216, vR 217, vR 218, vI mv, vI mrc, vI (mmc - 1), vI mmk, vI mdv, vI mwl, vI mwa, vI mwp, vI 0])) _ _
        refine st_aload_n C 0 dX11_undo_157 rfl rfl ?_
        refine st_callV (st := []) C dX11_undo_158 [] (k_become (mw := (fmix (fun s => if mm (304 * mg (mmc - 1) + s) ≠ mm (304 * mg (mmc - 1) - 304 + s) then mm (304 * mg (mmc - 1) - 304 + s) else (fmix (fun s => mm (304 * mv + s)) mw 304) s) (fmix (fun s => mm (304 * mv + s)) mw 304) 304)) hput_s (hput_o (by omega) (hput_o (by omega) (hput_o (by omega) (hput_o (by decide) (by exact hput_o (by decide) (hput_o (by decide) hmm)))))) (by omega) (hput_o (by omega) (hput_o (by omega) (hput_o (by omega) (hput_o (by decide) (by exact hput_s))))) (hput_o (by omega) (hput_o (by omega) (hput_o (by omega) (hput_o (by decide) (by exact hput_o (by decide) (hput_o (by decide) h212))))))) hput_s w_X11_162 rfl (by decide) (by decide) (by omega) (by omega) (Nat.le_of_ble_eq_true rfl) (ko_rn ?_)
        show T x 161 [(0, vR 200), (1, vI (304 * (mg (mmc - 1)))), (2, vI (cnt (fun j => (fmix (fun s => if mm (304 * mg (mmc - 1) + s) ≠ mm (304 * mg (mmc - 1) - 304 + s) then mm (304 * mg (mmc - 1) - 304 + s) else (fmix (fun s => mm (304 * mv + s)) mw 304) s) (fmix (fun s => mm (304 * mv + s)) mw 304) 304) j ≠ mm (304 * mv + j)) 304))] [] (hput (hput (hput (hput (hput (hput (hput (hput (hput h 200 (oO 10 [vR 201, vR 202, vR 203, vR 204, vR 205, vR 206, vR 207, vR 208, vR 209, vR 210, vR 211, vR 212, vR 213, vR 214, vR 215, vR 216, vR 217, vR 218, vI mv, vI mrc, vI mmc, vI mmk, vI mdv, vI mwl, vI mwa, vI mwp, vI 0])) 202 (oI 304 (fmix (fun s => if mm (304 * mg (mmc - 1) + s) ≠ mm (304 * mg (mmc - 1) - 304 + s) then mm (304 * mg (mmc - 1) - 304 + s) else (fmix (fun s => mm (304 * mv + s)) mw 304) s) (fmix (fun s => mm (304 * mv + s)) mw 304) 304))) 216 (oZ 64 f4)) 200 (oO 10 [vR 201, vR 202, vR 203, vR 204, vR 205, vR 206, vR 207, vR 208, vR 209, vR 210, vR 211, vR 212, vR 213, vR 214, vR 215, vR 216, vR 217, vR 218, vI mv, vI mrc, vI mmc, vI mmk, vI mdv, vI mwl, vI mwa, vI mwp, vI 0])) 200 (oO 10 [vR 201, vR 202, vR 203, vR 204, vR 205, vR 206, vR 207, vR 208, vR 209, vR 210, vR 211, vR 212, vR 213, vR 214, vR 215, vR 216, vR 217, vR 218, vI mv, vI mrc, vI mmc, vI mmk, vI mdv, vI mwl, vI mwa, vI mwp, vI 0])) 200 (oO 10 [vR 201, vR 202, vR 203, vR 204, vR 205, vR 206, vR 207, vR 208, vR 209, vR 210, vR 211, vR 212, vR 213, vR 214, vR 215, vR 216, vR 217, vR 218, vI mv, vI mrc, vI (mmc - 1), vI mmk, vI mdv, vI mwl, vI mwa, vI mwp, vI 0])) 212 (oI 768 (mthU ml (fmix (fun s => if mm (304 * mg (mmc - 1) + s) ≠ mm (304 * mg (mmc - 1) - 304 + s) then mm (304 * mg (mmc - 1) - 304 + s) else (fmix (fun s => mm (304 * mv + s)) mw 304) s) (fmix (fun s => mm (304 * mv + s)) mw 304) 304) (fun s => mm (304 * mv + s)) 192))) 200 (oO 10 [vR 201, vR 202, vR 203, vR 204, vR 205, vR 206, vR 207, vR 208, vR 209, vR 210, vR 211, vR 212, vR 213, vR 214, vR 215, vR 216, vR 217, vR 218, vI (mv + 1), vI mrc, vI (mmc - 1), vI mmk, vI mdv, vI mwl, vI mwa, vI mwp, vI 0])) 201 (oI 12464 (mcpy mm (fmix (fun s => if mm (304 * mg (mmc - 1) + s) ≠ mm (304 * mg (mmc - 1) - 304 + s) then mm (304 * mg (mmc - 1) - 304 + s) else (fmix (fun s => mm (304 * mv + s)) mw 304) s) (fmix (fun s => mm (304 * mv + s)) mw 304) 304) (304 * (mv + 1)) 304))) _ _
        refine st_iload_n C 2 dX11_undo_161 rfl rfl ?_
        exact st_ireturn C F dX11_undo_162 rfl (by first | exact ⟨by with_reducible rfl, f4, by with_reducible rfl⟩ | (exfalso; omega)) (by omega) (by omega)
      · refine st_aload_n C 0 dX11_undo_51 rfl rfl ?_
        refine st_getf C dX11_undo_52 fl_X11_7 (by rw [hh]; exact hput_o (by decide) hput_s) rfl ?_
        refine st_iload_n C 1 dX11_undo_55 rfl rfl ?_
        refine st_sipush C dX11_undo_56 (by decide) (by decide) ?_
        refine st_isub C dX11_undo_59 ⟨(by omega), (by omega)⟩ ?_
        refine st_iload_n C 2 dX11_undo_60 rfl rfl ?_
        refine st_iadd C dX11_undo_61 ⟨(by omega), (by omega)⟩ ?_
        refine st_iald C dX11_undo_62 (by rw [hh]; exact hput_o (by decide) (hput_o (by decide) hmm)) (by omega) (by omega) ?_
        refine st_istore_n C 3 dX11_undo_63 rfl (by decide) rfl ?_
        show T x 64 [(0, vR 200), (1, vI (304 * (mg (mmc - 1)))), (2, vI i), (3, vI (mm (304 * (mg (mmc - 1)) - 304 + i)))] [] _ _ _
        refine st_aload_n C 0 dX11_undo_64 rfl rfl ?_
        refine st_getf C dX11_undo_65 fl_X11_13 (by rw [hh]; exact hput_o (by decide) hput_s) rfl ?_
        refine st_iload_n C 2 dX11_undo_68 rfl rfl ?_
        refine st_aload_n C 0 dX11_undo_69 rfl rfl ?_
        refine st_getf C dX11_undo_70 fl_X11_7 (by rw [hh]; exact hput_o (by decide) hput_s) rfl ?_
        refine st_iload_n C 1 dX11_undo_73 rfl rfl ?_
        refine st_iload_n C 2 dX11_undo_74 rfl rfl ?_
        refine st_iadd C dX11_undo_75 ⟨(by omega), (by omega)⟩ ?_
        refine st_iald C dX11_undo_76 (by rw [hh]; exact hput_o (by decide) (hput_o (by decide) hmm)) (by omega) (by omega) ?_
        refine st_iload_n C 3 dX11_undo_77 rfl rfl ?_
        refine st_icmp_eq (tgt := 85) C dX11_undo_78 (by decide) (fun c_78 => ?_) (fun c_78 => ?_)
        · refine st_aload_n C 0 dX11_undo_85 rfl rfl ?_
          refine st_getf C dX11_undo_86 fl_X11_13 (by rw [hh]; exact hput_o (by decide) hput_s) rfl ?_
          refine st_iload_n C 2 dX11_undo_89 rfl rfl ?_
          refine st_iald C dX11_undo_90 (by rw [hh]; exact hput_s) (by omega) (by omega) ?_
          refine st_iast C dX11_undo_91 (by rw [hh]; exact hput_s) (by omega) (by omega) ?_
          refine st_iinc C dX11_undo_92 rfl (by decide) rfl ⟨(by omega), (by omega)⟩ ?_
          show T x 95 [(0, vR 200), (1, vI (304 * (mg (mmc - 1)))), (2, vI (i + 1)), (3, vI (mm (304 * (mg (mmc - 1)) - 304 + i)))] [] _ _ _
          refine st_goto (tgt := 44) C dX11_undo_95 (by decide) ?_
          refine st_sub [0, 1, 2] rfl ?_
          exact ih_44 (i + 1) (hput h1 202 (oI 304 (fput (fmix (fun s => if mm (304 * mg (mmc - 1) + s) ≠ mm (304 * mg (mmc - 1) - 304 + s) then mm (304 * mg (mmc - 1) - 304 + s) else (fmix (fun s => mm (304 * mv + s)) mw 304) s) (fmix (fun s => mm (304 * mv + s)) mw 304) i) i ((fmix (fun s => if mm (304 * mg (mmc - 1) + s) ≠ mm (304 * mg (mmc - 1) - 304 + s) then mm (304 * mg (mmc - 1) - 304 + s) else (fmix (fun s => mm (304 * mv + s)) mw 304) s) (fmix (fun s => mm (304 * mv + s)) mw 304) i) i)))) (by omega) (by omega) (by rw [hh, hput_hput]; refine congrArg (fun z => hput (hput h 200 (oO 10 [vR 201, vR 202, vR 203, vR 204, vR 205, vR 206, vR 207, vR 208, vR 209, vR 210, vR 211, vR 212, vR 213, vR 214, vR 215, vR 216, vR 217, vR 218, vI mv, vI mrc, vI mmc, vI mmk, vI mdv, vI mwl, vI mwa, vI mwp, vI 0])) 202 (oI 304 z)) (fmix_s g1 ?_); first | exact (if_pos (by assumption)).symm | (rw [fmix_at2]; exact (if_neg (fun z => z (by assumption))).symm)) (by omega)
        · refine st_iload_n C 3 dX11_undo_81 rfl rfl ?_
          refine st_goto (tgt := 91) C dX11_undo_82 (by decide) ?_
          refine st_iast C dX11_undo_91 (by rw [hh]; exact hput_s) (by omega) (by omega) ?_
          refine st_iinc C dX11_undo_92 rfl (by decide) rfl ⟨(by omega), (by omega)⟩ ?_
          show T x 95 [(0, vR 200), (1, vI (304 * (mg (mmc - 1)))), (2, vI (i + 1)), (3, vI (mm (304 * (mg (mmc - 1)) - 304 + i)))] [] _ _ _
          refine st_goto (tgt := 44) C dX11_undo_95 (by decide) ?_
          refine st_sub [0, 1, 2] rfl ?_
          exact ih_44 (i + 1) (hput h1 202 (oI 304 (fput (fmix (fun s => if mm (304 * mg (mmc - 1) + s) ≠ mm (304 * mg (mmc - 1) - 304 + s) then mm (304 * mg (mmc - 1) - 304 + s) else (fmix (fun s => mm (304 * mv + s)) mw 304) s) (fmix (fun s => mm (304 * mv + s)) mw 304) i) i (mm (304 * (mg (mmc - 1)) - 304 + i))))) (by omega) (by omega) (by rw [hh, hput_hput]; refine congrArg (fun z => hput (hput h 200 (oO 10 [vR 201, vR 202, vR 203, vR 204, vR 205, vR 206, vR 207, vR 208, vR 209, vR 210, vR 211, vR 212, vR 213, vR 214, vR 215, vR 216, vR 217, vR 218, vI mv, vI mrc, vI mmc, vI mmk, vI mdv, vI mwl, vI mwa, vI mwp, vI 0])) 202 (oI 304 z)) (fmix_s g1 ?_); first | exact (if_pos (by assumption)).symm | (rw [fmix_at2]; exact (if_neg (fun z => z (by assumption))).symm)) (by omega)
  exact loop_44 _ 0 (hput (hput h 200 (oO 10 [vR 201, vR 202, vR 203, vR 204, vR 205, vR 206, vR 207, vR 208, vR 209, vR 210, vR 211, vR 212, vR 213, vR 214, vR 215, vR 216, vR 217, vR 218, vI mv, vI mrc, vI mmc, vI mmk, vI mdv, vI mwl, vI mwa, vI mwp, vI 0])) 202 (oI 304 (fmix (fun s => mm (304 * mv + s)) mw 304))) (by omega) (by omega) (by rw [fmix_0]) (Nat.lt_succ_self _)
