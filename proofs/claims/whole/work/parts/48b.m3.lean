set_option maxRecDepth 20000 in
set_option maxHeartbeats 4000000 in
theorem k_isChange_t {g : Gx} {h : HP} {mv mrc mmc mmk mdv mwl mwa mwp mth : Int} {mm : Int → Int} {s9 o9 : Int} (hm : mO h mv mrc mmc mmk mdv mwl mwa mwp mth) (hmm : h 201 = some (oI 12464 mm)) (ho : 1 ≤ o9 ∧ o9 ≤ 40) (hs : 0 ≤ s9 ∧ s9 ≤ 303) (hP : mm (304 * o9 + s9) ≠ mm (304 * (o9 - 1) + s9)) : Ct g yX11_isChange (.code yX11_isChange cX11_isChange 3 (some .boolean)) 1 0 0 [vR 200, vI s9, vI o9] h (Rt (some (vI 1)) h) := by
  refine Ct.of (by decide) (Nat.le_of_ble_eq_true rfl) (fun x hg C F => ?_)
  subst hg
  show T x 0 [(0, vR 200), (1, vI s9), (2, vI o9)] [] h 0 0
  refine st_aload_n C 0 dX11_isChange_0 rfl rfl ?_
  refine st_getf C dX11_isChange_1 fl_X11_7 hm rfl ?_
  refine st_sipush C dX11_isChange_4 (by decide) (by decide) ?_
  refine st_iload_n C 2 dX11_isChange_7 rfl rfl ?_
  refine st_imul C dX11_isChange_8 ⟨(by omega), (by omega)⟩ ?_
  refine st_iload_n C 1 dX11_isChange_9 rfl rfl ?_
  refine st_iadd C dX11_isChange_10 ⟨(by omega), (by omega)⟩ ?_
  refine st_iald C dX11_isChange_11 hmm (by omega) (by omega) ?_
  refine st_aload_n C 0 dX11_isChange_12 rfl rfl ?_
  refine st_getf C dX11_isChange_13 fl_X11_7 hm rfl ?_
  refine st_sipush C dX11_isChange_16 (by decide) (by decide) ?_
  refine st_iload_n C 2 dX11_isChange_19 rfl rfl ?_
  refine st_iconst C dX11_isChange_20 (by decide) ?_
  refine st_isub C dX11_isChange_21 ⟨(by omega), (by omega)⟩ ?_
  refine st_imul C dX11_isChange_22 ⟨(by omega), (by omega)⟩ ?_
  refine st_iload_n C 1 dX11_isChange_23 rfl rfl ?_
  refine st_iadd C dX11_isChange_24 ⟨(by omega), (by omega)⟩ ?_
  refine st_iald C dX11_isChange_25 hmm (by omega) (by omega) ?_
  refine st_icmp_eq (tgt := 33) C dX11_isChange_26 (by decide) (fun c_26 => ?_) (fun c_26 => ?_)
  · refine st_iconst C dX11_isChange_33 (by decide) ?_
    exact st_zreturn C F dX11_isChange_34 rfl (by omega) (rt_i (by first | rfl | omega) rfl) (by omega) (by omega)
  · refine st_iconst C dX11_isChange_29 (by decide) ?_
    refine st_goto (tgt := 34) C dX11_isChange_30 (by decide) ?_
    exact st_zreturn C F dX11_isChange_34 rfl (by omega) (rt_i (by first | rfl | omega) rfl) (by omega) (by omega)
set_option maxRecDepth 20000 in
set_option maxHeartbeats 4000000 in
theorem k_isChange_f {g : Gx} {h : HP} {mv mrc mmc mmk mdv mwl mwa mwp mth : Int} {mm : Int → Int} {s9 o9 : Int} (hm : mO h mv mrc mmc mmk mdv mwl mwa mwp mth) (hmm : h 201 = some (oI 12464 mm)) (ho : 1 ≤ o9 ∧ o9 ≤ 40) (hs : 0 ≤ s9 ∧ s9 ≤ 303) (hP : ¬ (mm (304 * o9 + s9) ≠ mm (304 * (o9 - 1) + s9))) : Ct g yX11_isChange (.code yX11_isChange cX11_isChange 3 (some .boolean)) 1 0 0 [vR 200, vI s9, vI o9] h (Rt (some (vI 0)) h) := by
  refine Ct.of (by decide) (Nat.le_of_ble_eq_true rfl) (fun x hg C F => ?_)
  subst hg
  show T x 0 [(0, vR 200), (1, vI s9), (2, vI o9)] [] h 0 0
  refine st_aload_n C 0 dX11_isChange_0 rfl rfl ?_
  refine st_getf C dX11_isChange_1 fl_X11_7 hm rfl ?_
  refine st_sipush C dX11_isChange_4 (by decide) (by decide) ?_
  refine st_iload_n C 2 dX11_isChange_7 rfl rfl ?_
  refine st_imul C dX11_isChange_8 ⟨(by omega), (by omega)⟩ ?_
  refine st_iload_n C 1 dX11_isChange_9 rfl rfl ?_
  refine st_iadd C dX11_isChange_10 ⟨(by omega), (by omega)⟩ ?_
  refine st_iald C dX11_isChange_11 hmm (by omega) (by omega) ?_
  refine st_aload_n C 0 dX11_isChange_12 rfl rfl ?_
  refine st_getf C dX11_isChange_13 fl_X11_7 hm rfl ?_
  refine st_sipush C dX11_isChange_16 (by decide) (by decide) ?_
  refine st_iload_n C 2 dX11_isChange_19 rfl rfl ?_
  refine st_iconst C dX11_isChange_20 (by decide) ?_
  refine st_isub C dX11_isChange_21 ⟨(by omega), (by omega)⟩ ?_
  refine st_imul C dX11_isChange_22 ⟨(by omega), (by omega)⟩ ?_
  refine st_iload_n C 1 dX11_isChange_23 rfl rfl ?_
  refine st_iadd C dX11_isChange_24 ⟨(by omega), (by omega)⟩ ?_
  refine st_iald C dX11_isChange_25 hmm (by omega) (by omega) ?_
  refine st_icmp_eq (tgt := 33) C dX11_isChange_26 (by decide) (fun c_26 => ?_) (fun c_26 => ?_)
  · refine st_iconst C dX11_isChange_33 (by decide) ?_
    exact st_zreturn C F dX11_isChange_34 rfl (by omega) (rt_i (by first | rfl | omega) rfl) (by omega) (by omega)
  · refine st_iconst C dX11_isChange_29 (by decide) ?_
    refine st_goto (tgt := 34) C dX11_isChange_30 (by decide) ?_
    exact st_zreturn C F dX11_isChange_34 rfl (by omega) (rt_i (by first | rfl | omega) rfl) (by omega) (by omega)
set_option maxRecDepth 20000 in
set_option maxHeartbeats 4000000 in
theorem k_changesOf {g : Gx} {h : HP} {mv mrc mmc mmk mdv mwl mwa mwp mth : Int} {mm : Int → Int} {s9 : Int} (hm : mO h mv mrc mmc mmk mdv mwl mwa mwp mth) (hmm : h 201 = some (oI 12464 mm)) (hv : 0 ≤ mv ∧ mv ≤ 40) (hs : 0 ≤ s9 ∧ s9 ≤ 303) : Ct g yX11_changesOf (.code yX11_changesOf cX11_changesOf 4 (some .int)) 2 0 0 [vR 200, vI s9] h (Rt (some (vI (cnt (fun j => mm (304 * (j + 1) + s9) ≠ mm (304 * (j + 1 - 1) + s9)) mv))) h) := by
  refine Ct.of (by decide) (Nat.le_of_ble_eq_true rfl) (fun x hg C F => ?_)
  subst hg
  show T x 0 [(0, vR 200), (1, vI s9)] [] h 0 0
  refine st_iconst C dX11_changesOf_0 (by decide) ?_
  refine st_istore_n C 2 dX11_changesOf_1 rfl (by decide) rfl ?_
  show T x 2 [(0, vR 200), (1, vI s9), (2, vI 0)] [] _ _ _
  refine st_iconst C dX11_changesOf_2 (by decide) ?_
  refine st_istore_n C 3 dX11_changesOf_3 rfl (by decide) rfl ?_
  show T x 4 [(0, vR 200), (1, vI s9), (2, vI 0), (3, vI 1)] [] _ _ _
  have loop_4 : ∀ (n_4 : Nat) (c1 : Int) (i : Int), (1 ≤ i) → (i ≤ mv + 1) → (0 ≤ c1 ∧ c1 ≤ i) → (c1 = cnt (fun j => mm (304 * (j + 1) + s9) ≠ mm (304 * (j + 1 - 1) + s9)) (i - 1)) → (mv + 1 - i).toNat < n_4 → T x 4 [(0, vR 200), (1, vI s9), (2, vI c1), (3, vI i)] [] h 0 0 := by
    intro n_4
    induction n_4 with
    | zero => intro c1 i g1 g2 g3 g4 hm_4; exact absurd hm_4 (Nat.not_lt_zero _)
    | succ n_4 ih_4 =>
      intro c1 i g1 g2 g3 g4 hm_4
      refine st_iload_n C 3 dX11_changesOf_4 rfl rfl ?_
      refine st_aload_n C 0 dX11_changesOf_5 rfl rfl ?_
      refine st_getf C dX11_changesOf_6 fl_X11_72 hm rfl ?_
      refine st_icmp_gt (tgt := 35) C dX11_changesOf_9 (by decide) (fun c_9 => ?_) (fun c_9 => ?_)
      · refine st_iload_n C 2 dX11_changesOf_35 rfl rfl ?_
        exact st_ireturn C F dX11_changesOf_36 rfl (rt_i (cntE g4 (by omega)) rfl) (by omega) (by omega)
      · refine st_iload_n C 2 dX11_changesOf_12 rfl rfl ?_
        refine st_aload_n C 0 dX11_changesOf_13 rfl rfl ?_
        refine st_iload_n C 1 dX11_changesOf_14 rfl rfl ?_
        refine st_iload_n C 3 dX11_changesOf_15 rfl rfl ?_
        by_cases b_16 : mm (304 * i + s9) ≠ mm (304 * (i - 1) + s9)
        · refine st_callV (st := [vI c1]) C dX11_changesOf_16 [vI s9, vI i] (k_isChange_t (mm := mm) (s9 := s9) (o9 := i) hm hmm (by omega) (by omega) b_16) hm w_X11_168 rfl (by decide) (by decide) (by omega) (by omega) (Nat.le_of_ble_eq_true rfl) (ko_rt ?_)
          show T x 19 [(0, vR 200), (1, vI s9), (2, vI c1), (3, vI i)] [vI 1, vI c1] _ _ _
          refine st_if_eq (tgt := 26) C dX11_changesOf_19 (by decide) (fun c_19 => by omega) (fun c_19 => ?_)
          refine st_iconst C dX11_changesOf_22 (by decide) ?_
          refine st_goto (tgt := 27) C dX11_changesOf_23 (by decide) ?_
          refine st_iadd C dX11_changesOf_27 ⟨(by omega), (by omega)⟩ ?_
          refine st_istore_n C 2 dX11_changesOf_28 rfl (by decide) rfl ?_
          show T x 29 [(0, vR 200), (1, vI s9), (2, vI (c1 + 1)), (3, vI i)] [] _ _ _
          refine st_iinc C dX11_changesOf_29 rfl (by decide) rfl ⟨(by omega), (by omega)⟩ ?_
          show T x 32 [(0, vR 200), (1, vI s9), (2, vI (c1 + 1)), (3, vI (i + 1))] [] _ _ _
          refine st_goto (tgt := 4) C dX11_changesOf_32 (by decide) ?_
          exact ih_4 (c1 + 1) (i + 1) (by omega) (by omega) (by omega) (by first | exact cnt1_t (P := (fun j => mm (304 * (j + 1) + s9) ≠ mm (304 * (j + 1 - 1) + s9))) g1 (by show mm (304 * (i - 1 + 1) + s9) ≠ mm (304 * (i - 1 + 1 - 1) + s9); rw [Int.sub_add_cancel]; exact b_16) g4 | exact cnt1_f (P := (fun j => mm (304 * (j + 1) + s9) ≠ mm (304 * (j + 1 - 1) + s9))) g1 (by show ¬ (mm (304 * (i - 1 + 1) + s9) ≠ mm (304 * (i - 1 + 1 - 1) + s9)); rw [Int.sub_add_cancel]; exact b_16) ((Int.add_zero _).trans g4)) (by omega)
        · refine st_callV (st := [vI c1]) C dX11_changesOf_16 [vI s9, vI i] (k_isChange_f (mm := mm) (s9 := s9) (o9 := i) hm hmm (by omega) (by omega) b_16) hm w_X11_168 rfl (by decide) (by decide) (by omega) (by omega) (Nat.le_of_ble_eq_true rfl) (ko_rt ?_)
          show T x 19 [(0, vR 200), (1, vI s9), (2, vI c1), (3, vI i)] [vI 0, vI c1] _ _ _
          refine st_if_eq (tgt := 26) C dX11_changesOf_19 (by decide) (fun c_19 => ?_) (fun c_19 => by omega)
          refine st_iconst C dX11_changesOf_26 (by decide) ?_
          refine st_iadd C dX11_changesOf_27 ⟨(by omega), (by omega)⟩ ?_
          refine st_istore_n C 2 dX11_changesOf_28 rfl (by decide) rfl ?_
          show T x 29 [(0, vR 200), (1, vI s9), (2, vI (c1 + 0)), (3, vI i)] [] _ _ _
          refine st_iinc C dX11_changesOf_29 rfl (by decide) rfl ⟨(by omega), (by omega)⟩ ?_
          show T x 32 [(0, vR 200), (1, vI s9), (2, vI (c1 + 0)), (3, vI (i + 1))] [] _ _ _
          refine st_goto (tgt := 4) C dX11_changesOf_32 (by decide) ?_
          exact ih_4 (c1 + 0) (i + 1) (by omega) (by omega) (by omega) (by first | exact cnt1_t (P := (fun j => mm (304 * (j + 1) + s9) ≠ mm (304 * (j + 1 - 1) + s9))) g1 (by show mm (304 * (i - 1 + 1) + s9) ≠ mm (304 * (i - 1 + 1 - 1) + s9); rw [Int.sub_add_cancel]; exact b_16) g4 | exact cnt1_f (P := (fun j => mm (304 * (j + 1) + s9) ≠ mm (304 * (j + 1 - 1) + s9))) g1 (by show ¬ (mm (304 * (i - 1 + 1) + s9) ≠ mm (304 * (i - 1 + 1 - 1) + s9)); rw [Int.sub_add_cancel]; exact b_16) ((Int.add_zero _).trans g4)) (by omega)
  exact loop_4 _ 0 1 (by omega) (by omega) (by omega) (cnt_0) (Nat.lt_succ_self _)
/-- the edit's row and the told row behind an edit of a spot -/
def medF (me mb : Int → Int) (at9 v : Int) : Int → Int := fput me at9 (if v = mb at9 then -1 else v)
def mtoF (mt mb : Int → Int) (at9 v : Int) : Int → Int := fput mt at9 (if (if v = mb at9 then -1 else v) < 0 then -1 else mt at9)
set_option maxRecDepth 20000 in
set_option maxHeartbeats 4000000 in
theorem k_medit {g : Gx} {h : HP} {mv mrc mmc mmk mdv mwl mwa mwp mth : Int} {mb me mt : Int → Int} {b9 s9 v9 : Int} (hm : mO h mv mrc mmc mmk mdv mwl mwa mwp mth) (h207 : h 207 = some (oI 1216 mb)) (h208 : h 208 = some (oI 1216 me)) (h209 : h 209 = some (oI 1216 mt)) (hb : 0 ≤ b9 ∧ b9 ≤ 3) (hs : 0 ≤ s9 ∧ s9 ≤ 303) : Ct g yX11_edit (.code yX11_edit cX11_edit 5 none) 1 0 0 [vR 200, vI b9, vI s9, vI v9] h (Rt none (hput (hput h 208 (oI 1216 (medF me mb (304 * b9 + s9) v9))) 209 (oI 1216 (mtoF mt mb (304 * b9 + s9) v9)))) := by
  refine Ct.of (by decide) (Nat.le_of_ble_eq_true rfl) (fun x hg C F => ?_)
  subst hg
  show T x 0 [(0, vR 200), (1, vI b9), (2, vI s9), (3, vI v9)] [] h 0 0
  refine st_sipush C dX11_edit_0 (by decide) (by decide) ?_
  refine st_iload_n C 1 dX11_edit_3 rfl rfl ?_
  refine st_imul C dX11_edit_4 ⟨(by omega), (by omega)⟩ ?_
  refine st_iload_n C 2 dX11_edit_5 rfl rfl ?_
  refine st_iadd C dX11_edit_6 ⟨(by omega), (by omega)⟩ ?_
  refine st_istore C dX11_edit_7 (by decide) rfl ?_
  show T x 9 [(0, vR 200), (1, vI b9), (2, vI s9), (3, vI v9), (4, vI (304 * b9 + s9))] [] _ _ _
  refine st_aload_n C 0 dX11_edit_9 rfl rfl ?_
  refine st_getf C dX11_edit_10 fl_X11_32 hm rfl ?_
  refine st_iload C dX11_edit_13 rfl ?_
  refine st_iload_n C 3 dX11_edit_15 rfl rfl ?_
  refine st_aload_n C 0 dX11_edit_16 rfl rfl ?_
  refine st_getf C dX11_edit_17 fl_X11_29 hm rfl ?_
  refine st_iload C dX11_edit_20 rfl ?_
  refine st_iald C dX11_edit_22 h207 (by omega) (by omega) ?_
  refine st_icmp_ne (tgt := 30) C dX11_edit_23 (by decide) (fun c_23 => ?_) (fun c_23 => ?_)
  · refine st_iload_n C 3 dX11_edit_30 rfl rfl ?_
    refine st_iast C dX11_edit_31 h208 (by omega) (by omega) ?_
    refine st_aload_n C 0 dX11_edit_32 rfl rfl ?_
    refine st_getf C dX11_edit_33 fl_X11_35 (hput_o (by omega) hm) rfl ?_
    refine st_iload C dX11_edit_36 rfl ?_
    refine st_aload_n C 0 dX11_edit_38 rfl rfl ?_
    refine st_getf C dX11_edit_39 fl_X11_32 (hput_o (by omega) hm) rfl ?_
    refine st_iload C dX11_edit_42 rfl ?_
    refine st_iald C dX11_edit_44 hput_s (by omega) (by omega) ?_
    refine st_if_ge (tgt := 52) C dX11_edit_45 (by decide) (fun c_45 => ?_) (fun c_45 => ?_)
    · refine st_aload_n C 0 dX11_edit_52 rfl rfl ?_
      refine st_getf C dX11_edit_53 fl_X11_35 (hput_o (by omega) hm) rfl ?_
      refine st_iload C dX11_edit_56 rfl ?_
      refine st_iald C dX11_edit_58 (hput_o (by omega) h209) (by omega) (by omega) ?_
      refine st_iast C dX11_edit_59 (hput_o (by omega) h209) (by omega) (by omega) ?_
      exact st_return C F dX11_edit_60 rfl (by simp only [fput_s] at *; unfold medF mtoF; first | (rw [if_pos (by assumption)]; first | (rw [if_pos (by decide)]; exact ⟨rfl, rfl⟩) | (exfalso; omega)) | (rw [if_neg (by assumption)]; first | (rw [if_pos (by assumption)]; exact ⟨rfl, rfl⟩) | (rw [if_neg (by omega)]; exact ⟨rfl, rfl⟩) | (exfalso; omega))) (by omega) (by omega)
    · refine st_iconst C dX11_edit_48 (by decide) ?_
      refine st_goto (tgt := 59) C dX11_edit_49 (by decide) ?_
      refine st_iast C dX11_edit_59 (hput_o (by omega) h209) (by omega) (by omega) ?_
      exact st_return C F dX11_edit_60 rfl (by simp only [fput_s] at *; unfold medF mtoF; first | (rw [if_pos (by assumption)]; first | (rw [if_pos (by decide)]; exact ⟨rfl, rfl⟩) | (exfalso; omega)) | (rw [if_neg (by assumption)]; first | (rw [if_pos (by assumption)]; exact ⟨rfl, rfl⟩) | (rw [if_neg (by omega)]; exact ⟨rfl, rfl⟩) | (exfalso; omega))) (by omega) (by omega)
  · refine st_iconst C dX11_edit_26 (by decide) ?_
    refine st_goto (tgt := 31) C dX11_edit_27 (by decide) ?_
    refine st_iast C dX11_edit_31 h208 (by omega) (by omega) ?_
    refine st_aload_n C 0 dX11_edit_32 rfl rfl ?_
    refine st_getf C dX11_edit_33 fl_X11_35 (hput_o (by omega) hm) rfl ?_
    refine st_iload C dX11_edit_36 rfl ?_
    refine st_aload_n C 0 dX11_edit_38 rfl rfl ?_
    refine st_getf C dX11_edit_39 fl_X11_32 (hput_o (by omega) hm) rfl ?_
    refine st_iload C dX11_edit_42 rfl ?_
    refine st_iald C dX11_edit_44 hput_s (by omega) (by omega) ?_
    refine st_if_ge (tgt := 52) C dX11_edit_45 (by decide) (fun c_45 => ?_) (fun c_45 => ?_)
    · refine st_aload_n C 0 dX11_edit_52 rfl rfl ?_
      refine st_getf C dX11_edit_53 fl_X11_35 (hput_o (by omega) hm) rfl ?_
      refine st_iload C dX11_edit_56 rfl ?_
      refine st_iald C dX11_edit_58 (hput_o (by omega) h209) (by omega) (by omega) ?_
      refine st_iast C dX11_edit_59 (hput_o (by omega) h209) (by omega) (by omega) ?_
      exact st_return C F dX11_edit_60 rfl (by simp only [fput_s] at *; unfold medF mtoF; first | (rw [if_pos (by assumption)]; first | (rw [if_pos (by decide)]; exact ⟨rfl, rfl⟩) | (exfalso; omega)) | (rw [if_neg (by assumption)]; first | (rw [if_pos (by assumption)]; exact ⟨rfl, rfl⟩) | (rw [if_neg (by omega)]; exact ⟨rfl, rfl⟩) | (exfalso; omega))) (by omega) (by omega)
    · refine st_iconst C dX11_edit_48 (by decide) ?_
      refine st_goto (tgt := 59) C dX11_edit_49 (by decide) ?_
      refine st_iast C dX11_edit_59 (hput_o (by omega) h209) (by omega) (by omega) ?_
      exact st_return C F dX11_edit_60 rfl (by simp only [fput_s] at *; unfold medF mtoF; first | (rw [if_pos (by assumption)]; first | (rw [if_pos (by decide)]; exact ⟨rfl, rfl⟩) | (exfalso; omega)) | (rw [if_neg (by assumption)]; first | (rw [if_pos (by assumption)]; exact ⟨rfl, rfl⟩) | (rw [if_neg (by omega)]; exact ⟨rfl, rfl⟩) | (exfalso; omega))) (by omega) (by omega)
