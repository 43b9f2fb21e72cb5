set_option maxRecDepth 20000 in
set_option maxHeartbeats 4000000 in
theorem s_checksum {g : Gx} {h : HP} {rc dc : Int} {mf : Int → Int} {nw mcn : Int} {sv : Int → Int → Int} {gf : Int → Int} {stf : Int → Option Nat} (hs : cS h rc dc) (hM : cM h mf) (hH : cHf h nw mcn sv gf stf) (hnw : 0 ≤ nw ∧ nw ≤ 40) : Ct g yX10_checksum (.code yX10_checksum cX10_checksum 4 (some .long)) 1 0 0 [vR 0] h (Rt (some (vL (wJ (wJ (31 * ckS mf 304) + nw)))) h) := by
  refine Ct.of (by decide) (Nat.le_of_ble_eq_true rfl) (fun x hg C F => ?_)
  subst hg
  obtain ⟨hHR, hH12, hHn⟩ := id hH
  have hH6 := hHR.1
  have hH11 := hHR.2.1
  have hge : 102 ≤ stN (nw + 1) := stN_ge (by omega)
  show T x 0 [(0, vR 0)] [] h 0 0
  refine st_ldc2 (a := 7) C dX10_checksum_0 (by decide) (by decide) cn_X10_301 ?_
  refine st_lstore_n C 1 dX10_checksum_3 rfl (by decide) rfl ?_
  show T x 4 [(0, vR 0), (1, vL 7)] [] _ _ _
  refine st_iconst C dX10_checksum_4 (by decide) ?_
  refine st_istore_n C 3 dX10_checksum_5 rfl (by decide) rfl ?_
  show T x 6 [(0, vR 0), (1, vL 7), (3, vI 0)] [] _ _ _
  have loop_6 : ∀ (n_6 : Nat) (c1 : Int) (i : Int), (0 ≤ i) → (i ≤ 304) → (c1 = ckS mf i.toNat) → (304 - i).toNat < n_6 → T x 6 [(0, vR 0), (1, vL c1), (3, vI i)] [] h 0 0 := by
    intro n_6
    induction n_6 with
    | zero => intro c1 i g1 g2 g3 hm_6; exact absurd hm_6 (Nat.not_lt_zero _)
    | succ n_6 ih_6 =>
      intro c1 i g1 g2 g3 hm_6
      refine st_iload_n C 3 dX10_checksum_6 rfl rfl ?_
      refine st_sipush C dX10_checksum_7 (by decide) (by decide) ?_
      refine st_icmp_ge (tgt := 33) C dX10_checksum_10 (by decide) (fun c_10 => ?_) (fun c_10 => ?_)
      · refine st_ldc2 (a := 31) C dX10_checksum_33 (by decide) (by decide) cn_X10_303 ?_
        refine st_lload_n C 1 dX10_checksum_36 rfl rfl ?_
        refine st_lmul C dX10_checksum_37 ?_
        refine st_aload_n C 0 dX10_checksum_38 rfl rfl ?_
        refine st_getf C dX10_checksum_39 fl_X10_44 hs rfl ?_
        refine st_getf C dX10_checksum_42 fl_X10_213 hH6 rfl ?_
        refine st_i2l C dX10_checksum_45 ?_
        refine st_ladd C dX10_checksum_46 ?_
        exact st_lreturn C F dX10_checksum_47 rfl (by have e9 : i = 304 := (by omega); subst e9; rw [g3]; exact ⟨rfl, rfl⟩) (by omega) (by omega)
      · refine st_ldc2 (a := 31) C dX10_checksum_13 (by decide) (by decide) cn_X10_303 ?_
        refine st_lload_n C 1 dX10_checksum_16 rfl rfl ?_
        refine st_lmul C dX10_checksum_17 ?_
        refine st_aload_n C 0 dX10_checksum_18 rfl rfl ?_
        refine st_getf C dX10_checksum_19 fl_X10_9 hs rfl ?_
        refine st_iload_n C 3 dX10_checksum_22 rfl rfl ?_
        refine st_iald C dX10_checksum_23 hM (by omega) (by omega) ?_
        refine st_i2l C dX10_checksum_24 ?_
        refine st_ladd C dX10_checksum_25 ?_
        refine st_lstore_n C 1 dX10_checksum_26 rfl (by decide) rfl ?_
        show T x 27 [(0, vR 0), (1, vL (wJ ((wJ (31 * c1)) + (mf i)))), (3, vI i)] [] _ _ _
        refine st_iinc C dX10_checksum_27 rfl (by decide) rfl ⟨(by omega), (by omega)⟩ ?_
        show T x 30 [(0, vR 0), (1, vL (wJ ((wJ (31 * c1)) + (mf i)))), (3, vI (i + 1))] [] _ _ _
        refine st_goto (tgt := 6) C dX10_checksum_30 (by decide) ?_
        exact ih_6 (wJ ((wJ (31 * c1)) + (mf i))) (i + 1) (by omega) (by omega) (ckS_s g1 g3) (by omega)
  exact loop_6 _ 7 0 (by omega) (by omega) (rfl) (Nat.lt_succ_self _)
theorem pin_in {f : Int → Int} {l a : Int} : 0 ≤ pin f l a 8 0 0 ∧ pin f l a 8 0 0 ≤ 64 := by
  rw [pin_8]; exact cnt_in _ (by omega)
theorem fsh_k : ∀ k : Fin 65, FP.fdiv (FP.i2f (Int32.ofInt (k.val : Int))) 1115684864 &&& 0x7fffffff ≤ 0x7f800000 := by decide +kernel
theorem fsh_ok {n : Int} (h0 : 0 ≤ n) (h1 : n ≤ 64) : vf_n32 (FP.fdiv (FP.i2f (Int32.ofInt n)) 1115684864) := by
  have h := fsh_k ⟨n.toNat, by omega⟩
  rw [show ((⟨n.toNat, by omega⟩ : Fin 65).val : Int) = n by show ((n.toNat : Nat) : Int) = n; omega] at h
  exact h
theorem msz_k : ∀ k : Fin 65, ∀ j : Fin 10, j.val = 0 ∨ FP.ddiv (FP.i2d (Int32.ofInt (k.val : Int))) (FP.i2d (Int32.ofInt (j.val : Int))) &&& 0x7fffffffffffffff ≤ 0x7ff0000000000000 := by decide +kernel
theorem msz_ok {n m : Int} (h0 : 0 ≤ n) (h1 : n ≤ 64) (h2 : 1 ≤ m) (h3 : m ≤ 9) : vf_n64 (FP.ddiv (FP.i2d (Int32.ofInt n)) (FP.i2d (Int32.ofInt m))) := by
  have h := (msz_k ⟨n.toNat, by omega⟩ ⟨m.toNat, by omega⟩).resolve_left (by show ¬ m.toNat = 0; omega)
  rw [show ((⟨n.toNat, by omega⟩ : Fin 65).val : Int) = n by show ((n.toNat : Nat) : Int) = n; omega, show ((⟨m.toNat, by omega⟩ : Fin 10).val : Int) = m by show ((m.toNat : Nat) : Int) = m; omega] at h
  exact h
set_option maxRecDepth 20000 in
set_option maxHeartbeats 4000000 in
theorem s_fullShare_x1 {g : Gx} {h : HP} {rc dc : Int} {mf : Int → Int} {l : Int} (hs : cS h rc dc) (hM : cM h mf) (hQ : ¬ (0 ≤ l ∧ l ≤ 2)) : Ct g yX10_fullShare (.code yX10_fullShare cX10_fullShare 2 (some .float)) 7 1 6 [vR 0, vI l] h (Th "java/lang/IllegalArgumentException" h) := by
  refine Ct.of (by decide) (Nat.le_of_ble_eq_true rfl) (fun x hg C F => ?_)
  subst hg
  have hp0 := pin_in (f := mf) (l := l) (a := 0)
  show T x 0 [(0, vR 0), (1, vI l)] [] h 0 0
  refine st_iload_n C 1 dX10_fullShare_0 rfl rfl ?_
  by_cases b_1 : 0 ≤ l ∧ l ≤ 2
  · refine st_callS (st := []) C dX10_fullShare_1 [vI l] (k_isLayer_t (v9 := l)  b_1) w_X10_249 rfl (by decide) (by decide) (by omega) (by omega) (Nat.le_of_ble_eq_true rfl) (ko_rt ?_)
    show T x 4 [(0, vR 0), (1, vI l)] [vI 1] _ _ _
    refine st_callS (st := []) C dX10_fullShare_4 [vI 1] k_need_t w_X10_81 rfl (by decide) (by decide) (by omega) (by omega) (Nat.le_of_ble_eq_true rfl) (ko_rn ?_)
    show T x 7 [(0, vR 0), (1, vI l)] [] _ _ _
    refine st_bipush C dX10_fullShare_7 (by decide) (by decide) ?_
    refine st_aload_n C 0 dX10_fullShare_9 rfl rfl ?_
    refine st_getf C dX10_fullShare_10 fl_X10_9 hs rfl ?_
    refine st_iload_n C 1 dX10_fullShare_13 rfl rfl ?_
    refine st_iconst C dX10_fullShare_14 (by decide) ?_
    refine st_callS (st := [vI 64]) C dX10_fullShare_15 [vR 1, vI l, vI 0] (k_placesOf (f := mf) (l := l) (a9 := 0) hM (by omega)) w_X10_264 rfl (by decide) (by decide) (by omega) (by omega) (Nat.le_of_ble_eq_true rfl) (ko_rt ?_)
    show T x 18 [(0, vR 0), (1, vI l)] [vI (pin mf l 0 8 0 0), vI 64] _ _ _
    refine st_isub C dX10_fullShare_18 ⟨(by omega), (by omega)⟩ ?_
    refine st_i2f C dX10_fullShare_19 ?_
    refine st_ldcfw (v := 1115684864) C dX10_fullShare_20 cn_X10_297 ?_
    refine st_fdiv C dX10_fullShare_23 (fsh_ok (by omega) (by omega)) ?_
    exact st_freturn C F dX10_fullShare_24 rfl (by first | exact ⟨by with_reducible rfl, by with_reducible rfl⟩ | (exfalso; omega) | exact absurd (by assumption) hQ | exact absurd hQ (by assumption)) (by omega) (by omega)
  · refine st_callS (st := []) C dX10_fullShare_1 [vI l] (k_isLayer_f (v9 := l)  b_1) w_X10_249 rfl (by decide) (by decide) (by omega) (by omega) (Nat.le_of_ble_eq_true rfl) (ko_rt ?_)
    show T x 4 [(0, vR 0), (1, vI l)] [vI 0] _ _ _
    refine st_callS (st := []) C dX10_fullShare_4 [vI 0] k_need_f w_X10_81 rfl (by decide) (by decide) (by omega) (by omega) (Nat.le_of_ble_eq_true rfl) (ko_th ?_)
    exact st_out C F (by first | exact ⟨rfl, rfl⟩ | (exfalso; omega) | exact absurd (by assumption) hQ | exact absurd hQ (by assumption)) (by omega) (by omega)
set_option maxRecDepth 20000 in
set_option maxHeartbeats 4000000 in
theorem s_fullShare {g : Gx} {h : HP} {rc dc : Int} {mf : Int → Int} {l : Int} (hs : cS h rc dc) (hM : cM h mf) (hl : 0 ≤ l ∧ l ≤ 2) : Ct g yX10_fullShare (.code yX10_fullShare cX10_fullShare 2 (some .float)) 7 1 6 [vR 0, vI l] h (Rt (some (vF (FP.fdiv (FP.i2f (Int32.ofInt (64 - pin mf l 0 8 0 0))) 1115684864))) h) := by
  refine Ct.of (by decide) (Nat.le_of_ble_eq_true rfl) (fun x hg C F => ?_)
  subst hg
  have hp0 := pin_in (f := mf) (l := l) (a := 0)
  show T x 0 [(0, vR 0), (1, vI l)] [] h 0 0
  refine st_iload_n C 1 dX10_fullShare_0 rfl rfl ?_
  have b_1 : 0 ≤ l ∧ l ≤ 2 := by omega
  refine st_callS (st := []) C dX10_fullShare_1 [vI l] (k_isLayer_t (v9 := l)  b_1) w_X10_249 rfl (by decide) (by decide) (by omega) (by omega) (Nat.le_of_ble_eq_true rfl) (ko_rt ?_)
  show T x 4 [(0, vR 0), (1, vI l)] [vI 1] _ _ _
  refine st_callS (st := []) C dX10_fullShare_4 [vI 1] k_need_t w_X10_81 rfl (by decide) (by decide) (by omega) (by omega) (Nat.le_of_ble_eq_true rfl) (ko_rn ?_)
  show T x 7 [(0, vR 0), (1, vI l)] [] _ _ _
  refine st_bipush C dX10_fullShare_7 (by decide) (by decide) ?_
  refine st_aload_n C 0 dX10_fullShare_9 rfl rfl ?_
  refine st_getf C dX10_fullShare_10 fl_X10_9 hs rfl ?_
  refine st_iload_n C 1 dX10_fullShare_13 rfl rfl ?_
  refine st_iconst C dX10_fullShare_14 (by decide) ?_
  refine st_callS (st := [vI 64]) C dX10_fullShare_15 [vR 1, vI l, vI 0] (k_placesOf (f := mf) (l := l) (a9 := 0) hM (by omega)) w_X10_264 rfl (by decide) (by decide) (by omega) (by omega) (Nat.le_of_ble_eq_true rfl) (ko_rt ?_)
  show T x 18 [(0, vR 0), (1, vI l)] [vI (pin mf l 0 8 0 0), vI 64] _ _ _
  refine st_isub C dX10_fullShare_18 ⟨(by omega), (by omega)⟩ ?_
  refine st_i2f C dX10_fullShare_19 ?_
  refine st_ldcfw (v := 1115684864) C dX10_fullShare_20 cn_X10_297 ?_
  refine st_fdiv C dX10_fullShare_23 (fsh_ok (by omega) (by omega)) ?_
  exact st_freturn C F dX10_fullShare_24 rfl ⟨rfl, rfl⟩ (by omega) (by omega)
set_option maxRecDepth 20000 in
set_option maxHeartbeats 4000000 in
theorem s_meanSize_x2 {g : Gx} {h : HP} {rc dc : Int} {mf : Int → Int} {l : Int} (hs : cS h rc dc) (hM : cM h mf) (hl : 0 ≤ l ∧ l ≤ 2) (hQ : cnt (fun a => 0 < pin mf l (a + 1) 8 0 0) 9 = 0) : Ct g yX10_meanSize (.code yX10_meanSize cX10_meanSize 4 (some .double)) 7 1 6 [vR 0, vI l] h (Th "java/lang/ArithmeticException" h) := by
  refine Ct.of (by decide) (Nat.le_of_ble_eq_true rfl) (fun x hg C F => ?_)
  subst hg
  have hp0 := pin_in (f := mf) (l := l) (a := 0)
  show T x 0 [(0, vR 0), (1, vI l)] [] h 0 0
  refine st_iload_n C 1 dX10_meanSize_0 rfl rfl ?_
  have b_1 : 0 ≤ l ∧ l ≤ 2 := by omega
  refine st_callS (st := []) C dX10_meanSize_1 [vI l] (k_isLayer_t (v9 := l)  b_1) w_X10_249 rfl (by decide) (by decide) (by omega) (by omega) (Nat.le_of_ble_eq_true rfl) (ko_rt ?_)
  show T x 4 [(0, vR 0), (1, vI l)] [vI 1] _ _ _
  refine st_callS (st := []) C dX10_meanSize_4 [vI 1] k_need_t w_X10_81 rfl (by decide) (by decide) (by omega) (by omega) (Nat.le_of_ble_eq_true rfl) (ko_rn ?_)
  show T x 7 [(0, vR 0), (1, vI l)] [] _ _ _
  refine st_iconst C dX10_meanSize_7 (by decide) ?_
  refine st_istore_n C 2 dX10_meanSize_8 rfl (by decide) rfl ?_
  show T x 9 [(0, vR 0), (1, vI l), (2, vI 0)] [] _ _ _
  refine st_iconst C dX10_meanSize_9 (by decide) ?_
  refine st_istore_n C 3 dX10_meanSize_10 rfl (by decide) rfl ?_
  show T x 11 [(0, vR 0), (1, vI l), (2, vI 0), (3, vI 1)] [] _ _ _
  have loop_11 : ∀ (n_11 : Nat) (c1 : Int) (i : Int), (1 ≤ i) → (i ≤ 10) → (0 ≤ c1 ∧ c1 < i) → (c1 = cnt (fun a => 0 < pin mf l (a + 1) 8 0 0) (i - 1)) → (10 - i).toNat < n_11 → T x 11 [(0, vR 0), (1, vI l), (2, vI c1), (3, vI i)] [] h 0 0 := by
    intro n_11
    induction n_11 with
    | zero => intro c1 i g1 g2 g3 g4 hm_11; exact absurd hm_11 (Nat.not_lt_zero _)
    | succ n_11 ih_11 =>
      intro c1 i g1 g2 g3 g4 hm_11
      refine st_iload_n C 3 dX10_meanSize_11 rfl rfl ?_
      refine st_bipush C dX10_meanSize_12 (by decide) (by decide) ?_
      refine st_icmp_gt (tgt := 38) C dX10_meanSize_14 (by decide) (fun c_14 => ?_) (fun c_14 => ?_)
      · refine st_iload_n C 2 dX10_meanSize_38 rfl rfl ?_
        refine st_if_ne (tgt := 50) C dX10_meanSize_39 (by decide) (fun c_39 => ?_) (fun c_39 => ?_)
        · refine st_bipush C dX10_meanSize_50 (by decide) (by decide) ?_
          refine st_aload_n C 0 dX10_meanSize_52 rfl rfl ?_
          refine st_getf C dX10_meanSize_53 fl_X10_9 hs rfl ?_
          refine st_iload_n C 1 dX10_meanSize_56 rfl rfl ?_
          refine st_iconst C dX10_meanSize_57 (by decide) ?_
          refine st_callS (st := [vI 64]) C dX10_meanSize_58 [vR 1, vI l, vI 0] (k_placesOf (f := mf) (l := l) (a9 := 0) hM (by omega)) w_X10_264 rfl (by decide) (by decide) (by omega) (by omega) (Nat.le_of_ble_eq_true rfl) (ko_rt ?_)
          show T x 61 [(0, vR 0), (1, vI l), (2, vI c1), (3, vI i)] [vI (pin mf l 0 8 0 0), vI 64] _ _ _
          refine st_isub C dX10_meanSize_61 ⟨(by omega), (by omega)⟩ ?_
          refine st_i2d C dX10_meanSize_62 ?_
          refine st_iload_n C 2 dX10_meanSize_63 rfl rfl ?_
          refine st_i2d C dX10_meanSize_64 ?_
          refine st_ddiv C dX10_meanSize_65 (msz_ok (by omega) (by omega) (by omega) (by omega)) ?_
          exact st_dreturn C F dX10_meanSize_66 rfl (by have e9 : c1 = cnt (fun a => 0 < pin mf l (a + 1) 8 0 0) 9 := cntE g4 (by omega); first | exact ⟨rfl, rfl⟩ | (exfalso; omega)) (by omega) (by omega)
        · exact st_throw C F dX10_meanSize_42 dX10_meanSize_45 dX10_meanSize_46 dX10_meanSize_49 xw_X10_298 (by decide) (by have e9 : c1 = cnt (fun a => 0 < pin mf l (a + 1) 8 0 0) 9 := cntE g4 (by omega); first | exact ⟨rfl, rfl⟩ | (exfalso; omega)) (by omega) (by omega)
      · refine st_aload_n C 0 dX10_meanSize_17 rfl rfl ?_
        refine st_getf C dX10_meanSize_18 fl_X10_9 hs rfl ?_
        refine st_iload_n C 1 dX10_meanSize_21 rfl rfl ?_
        refine st_iload_n C 3 dX10_meanSize_22 rfl rfl ?_
        refine st_callS (st := []) C dX10_meanSize_23 [vR 1, vI l, vI i] (k_placesOf (f := mf) (l := l) (a9 := i) hM (by omega)) w_X10_264 rfl (by decide) (by decide) (by omega) (by omega) (Nat.le_of_ble_eq_true rfl) (ko_rt ?_)
        show T x 26 [(0, vR 0), (1, vI l), (2, vI c1), (3, vI i)] [vI (pin mf l i 8 0 0)] _ _ _
        refine st_if_le (tgt := 32) C dX10_meanSize_26 (by decide) (fun c_26 => ?_) (fun c_26 => ?_)
        · refine st_iinc C dX10_meanSize_32 rfl (by decide) rfl ⟨(by omega), (by omega)⟩ ?_
          show T x 35 [(0, vR 0), (1, vI l), (2, vI c1), (3, vI (i + 1))] [] _ _ _
          refine st_goto (tgt := 11) C dX10_meanSize_35 (by decide) ?_
          exact ih_11 c1 (i + 1) (by omega) (by omega) (by omega) (by first | exact cnt1_t (P := (fun a => 0 < pin mf l (a + 1) 8 0 0)) g1 (by show 0 < pin mf l (i - 1 + 1) 8 0 0; rw [Int.sub_add_cancel]; omega) g4 | exact cnt1_f (P := (fun a => 0 < pin mf l (a + 1) 8 0 0)) g1 (by show ¬ 0 < pin mf l (i - 1 + 1) 8 0 0; rw [Int.sub_add_cancel]; omega) g4) (by omega)
        · refine st_iinc C dX10_meanSize_29 rfl (by decide) rfl ⟨(by omega), (by omega)⟩ ?_
          show T x 32 [(0, vR 0), (1, vI l), (2, vI (c1 + 1)), (3, vI i)] [] _ _ _
          refine st_iinc C dX10_meanSize_32 rfl (by decide) rfl ⟨(by omega), (by omega)⟩ ?_
          show T x 35 [(0, vR 0), (1, vI l), (2, vI (c1 + 1)), (3, vI (i + 1))] [] _ _ _
          refine st_goto (tgt := 11) C dX10_meanSize_35 (by decide) ?_
          exact ih_11 (c1 + 1) (i + 1) (by omega) (by omega) (by omega) (by first | exact cnt1_t (P := (fun a => 0 < pin mf l (a + 1) 8 0 0)) g1 (by show 0 < pin mf l (i - 1 + 1) 8 0 0; rw [Int.sub_add_cancel]; omega) g4 | exact cnt1_f (P := (fun a => 0 < pin mf l (a + 1) 8 0 0)) g1 (by show ¬ 0 < pin mf l (i - 1 + 1) 8 0 0; rw [Int.sub_add_cancel]; omega) g4) (by omega)
  exact loop_11 _ 0 1 (by omega) (by omega) (by omega) (cnt_0) (Nat.lt_succ_self _)
set_option maxRecDepth 20000 in
set_option maxHeartbeats 4000000 in
theorem s_meanSize {g : Gx} {h : HP} {rc dc : Int} {mf : Int → Int} {l : Int} (hs : cS h rc dc) (hM : cM h mf) (hl : 0 ≤ l ∧ l ≤ 2) (hQ : cnt (fun a => 0 < pin mf l (a + 1) 8 0 0) 9 ≠ 0) : Ct g yX10_meanSize (.code yX10_meanSize cX10_meanSize 4 (some .double)) 7 1 6 [vR 0, vI l] h (Rt (some (vD (FP.ddiv (FP.i2d (Int32.ofInt (64 - pin mf l 0 8 0 0))) (FP.i2d (Int32.ofInt (cnt (fun a => 0 < pin mf l (a + 1) 8 0 0) 9)))))) h) := by
  refine Ct.of (by decide) (Nat.le_of_ble_eq_true rfl) (fun x hg C F => ?_)
  subst hg
  have hp0 := pin_in (f := mf) (l := l) (a := 0)
  show T x 0 [(0, vR 0), (1, vI l)] [] h 0 0
  refine st_iload_n C 1 dX10_meanSize_0 rfl rfl ?_
  have b_1 : 0 ≤ l ∧ l ≤ 2 := by omega
  refine st_callS (st := []) C dX10_meanSize_1 [vI l] (k_isLayer_t (v9 := l)  b_1) w_X10_249 rfl (by decide) (by decide) (by omega) (by omega) (Nat.le_of_ble_eq_true rfl) (ko_rt ?_)
  show T x 4 [(0, vR 0), (1, vI l)] [vI 1] _ _ _
  refine st_callS (st := []) C dX10_meanSize_4 [vI 1] k_need_t w_X10_81 rfl (by decide) (by decide) (by omega) (by omega) (Nat.le_of_ble_eq_true rfl) (ko_rn ?_)
  show T x 7 [(0, vR 0), (1, vI l)] [] _ _ _
  refine st_iconst C dX10_meanSize_7 (by decide) ?_
  refine st_istore_n C 2 dX10_meanSize_8 rfl (by decide) rfl ?_
  show T x 9 [(0, vR 0), (1, vI l), (2, vI 0)] [] _ _ _
  refine st_iconst C dX10_meanSize_9 (by decide) ?_
  refine st_istore_n C 3 dX10_meanSize_10 rfl (by decide) rfl ?_
  show T x 11 [(0, vR 0), (1, vI l), (2, vI 0), (3, vI 1)] [] _ _ _
  have loop_11 : ∀ (n_11 : Nat) (c1 : Int) (i : Int), (1 ≤ i) → (i ≤ 10) → (0 ≤ c1 ∧ c1 < i) → (c1 = cnt (fun a => 0 < pin mf l (a + 1) 8 0 0) (i - 1)) → (10 - i).toNat < n_11 → T x 11 [(0, vR 0), (1, vI l), (2, vI c1), (3, vI i)] [] h 0 0 := by
    intro n_11
    induction n_11 with
    | zero => intro c1 i g1 g2 g3 g4 hm_11; exact absurd hm_11 (Nat.not_lt_zero _)
    | succ n_11 ih_11 =>
      intro c1 i g1 g2 g3 g4 hm_11
      refine st_iload_n C 3 dX10_meanSize_11 rfl rfl ?_
      refine st_bipush C dX10_meanSize_12 (by decide) (by decide) ?_
      refine st_icmp_gt (tgt := 38) C dX10_meanSize_14 (by decide) (fun c_14 => ?_) (fun c_14 => ?_)
      · refine st_iload_n C 2 dX10_meanSize_38 rfl rfl ?_
        refine st_if_ne (tgt := 50) C dX10_meanSize_39 (by decide) (fun c_39 => ?_) (fun c_39 => ?_)
        · refine st_bipush C dX10_meanSize_50 (by decide) (by decide) ?_
          refine st_aload_n C 0 dX10_meanSize_52 rfl rfl ?_
          refine st_getf C dX10_meanSize_53 fl_X10_9 hs rfl ?_
          refine st_iload_n C 1 dX10_meanSize_56 rfl rfl ?_
          refine st_iconst C dX10_meanSize_57 (by decide) ?_
          refine st_callS (st := [vI 64]) C dX10_meanSize_58 [vR 1, vI l, vI 0] (k_placesOf (f := mf) (l := l) (a9 := 0) hM (by omega)) w_X10_264 rfl (by decide) (by decide) (by omega) (by omega) (Nat.le_of_ble_eq_true rfl) (ko_rt ?_)
          show T x 61 [(0, vR 0), (1, vI l), (2, vI c1), (3, vI i)] [vI (pin mf l 0 8 0 0), vI 64] _ _ _
          refine st_isub C dX10_meanSize_61 ⟨(by omega), (by omega)⟩ ?_
          refine st_i2d C dX10_meanSize_62 ?_
          refine st_iload_n C 2 dX10_meanSize_63 rfl rfl ?_
          refine st_i2d C dX10_meanSize_64 ?_
          refine st_ddiv C dX10_meanSize_65 (msz_ok (by omega) (by omega) (by omega) (by omega)) ?_
          exact st_dreturn C F dX10_meanSize_66 rfl (by have e9 : c1 = cnt (fun a => 0 < pin mf l (a + 1) 8 0 0) 9 := cntE g4 (by omega); first | exact ⟨by rw [e9], rfl⟩ | (exfalso; omega)) (by omega) (by omega)
        · exact st_throw C F dX10_meanSize_42 dX10_meanSize_45 dX10_meanSize_46 dX10_meanSize_49 xw_X10_298 (by decide) (by have e9 : c1 = cnt (fun a => 0 < pin mf l (a + 1) 8 0 0) 9 := cntE g4 (by omega); first | exact ⟨by rw [e9], rfl⟩ | (exfalso; omega)) (by omega) (by omega)
      · refine st_aload_n C 0 dX10_meanSize_17 rfl rfl ?_
        refine st_getf C dX10_meanSize_18 fl_X10_9 hs rfl ?_
        refine st_iload_n C 1 dX10_meanSize_21 rfl rfl ?_
        refine st_iload_n C 3 dX10_meanSize_22 rfl rfl ?_
        refine st_callS (st := []) C dX10_meanSize_23 [vR 1, vI l, vI i] (k_placesOf (f := mf) (l := l) (a9 := i) hM (by omega)) w_X10_264 rfl (by decide) (by decide) (by omega) (by omega) (Nat.le_of_ble_eq_true rfl) (ko_rt ?_)
        show T x 26 [(0, vR 0), (1, vI l), (2, vI c1), (3, vI i)] [vI (pin mf l i 8 0 0)] _ _ _
        refine st_if_le (tgt := 32) C dX10_meanSize_26 (by decide) (fun c_26 => ?_) (fun c_26 => ?_)
        · refine st_iinc C dX10_meanSize_32 rfl (by decide) rfl ⟨(by omega), (by omega)⟩ ?_
          show T x 35 [(0, vR 0), (1, vI l), (2, vI c1), (3, vI (i + 1))] [] _ _ _
          refine st_goto (tgt := 11) C dX10_meanSize_35 (by decide) ?_
          exact ih_11 c1 (i + 1) (by omega) (by omega) (by omega) (by first | exact cnt1_t (P := (fun a => 0 < pin mf l (a + 1) 8 0 0)) g1 (by show 0 < pin mf l (i - 1 + 1) 8 0 0; rw [Int.sub_add_cancel]; omega) g4 | exact cnt1_f (P := (fun a => 0 < pin mf l (a + 1) 8 0 0)) g1 (by show ¬ 0 < pin mf l (i - 1 + 1) 8 0 0; rw [Int.sub_add_cancel]; omega) g4) (by omega)
        · refine st_iinc C dX10_meanSize_29 rfl (by decide) rfl ⟨(by omega), (by omega)⟩ ?_
          show T x 32 [(0, vR 0), (1, vI l), (2, vI (c1 + 1)), (3, vI i)] [] _ _ _
          refine st_iinc C dX10_meanSize_32 rfl (by decide) rfl ⟨(by omega), (by omega)⟩ ?_
          show T x 35 [(0, vR 0), (1, vI l), (2, vI (c1 + 1)), (3, vI (i + 1))] [] _ _ _
          refine st_goto (tgt := 11) C dX10_meanSize_35 (by decide) ?_
          exact ih_11 (c1 + 1) (i + 1) (by omega) (by omega) (by omega) (by first | exact cnt1_t (P := (fun a => 0 < pin mf l (a + 1) 8 0 0)) g1 (by show 0 < pin mf l (i - 1 + 1) 8 0 0; rw [Int.sub_add_cancel]; omega) g4 | exact cnt1_f (P := (fun a => 0 < pin mf l (a + 1) 8 0 0)) g1 (by show ¬ 0 < pin mf l (i - 1 + 1) 8 0 0; rw [Int.sub_add_cancel]; omega) g4) (by omega)
  exact loop_11 _ 0 1 (by omega) (by omega) (by omega) (cnt_0) (Nat.lt_succ_self _)
set_option maxRecDepth 20000 in
set_option maxHeartbeats 4000000 in
theorem s_meanSize_x1 {g : Gx} {h : HP} {rc dc : Int} {mf : Int → Int} {l : Int} (hs : cS h rc dc) (hM : cM h mf) (hQ : ¬ (0 ≤ l ∧ l ≤ 2)) : Ct g yX10_meanSize (.code yX10_meanSize cX10_meanSize 4 (some .double)) 7 1 6 [vR 0, vI l] h (Th "java/lang/IllegalArgumentException" h) := by
  refine Ct.of (by decide) (Nat.le_of_ble_eq_true rfl) (fun x hg C F => ?_)
  subst hg
  show T x 0 [(0, vR 0), (1, vI l)] [] h 0 0
  refine st_iload_n C 1 dX10_meanSize_0 rfl rfl ?_
  refine st_callS (st := []) C dX10_meanSize_1 [vI l] (k_isLayer_f hQ) w_X10_249 rfl (by decide) (by decide) (by omega) (by omega) (Nat.le_of_ble_eq_true rfl) (ko_rt ?_)
  show T x 4 [(0, vR 0), (1, vI l)] [vI 0] _ _ _
  refine st_callS (st := []) C dX10_meanSize_4 [vI 0] k_need_f w_X10_81 rfl (by decide) (by decide) (by omega) (by omega) (Nat.le_of_ble_eq_true rfl) (ko_th ?_)
  exact st_out C F (by first | exact ⟨rfl, rfl⟩ | (exfalso; omega) | exact absurd (by assumption) hQ | exact absurd hQ (by assumption)) (by omega) (by omega)
set_option maxRecDepth 20000 in
set_option maxHeartbeats 4000000 in
theorem k_History {g : Gx} {h : HP} {k S G : Nat} (hk : h k = some (oO 2 [vI 0, vN, vN, vI 0])) (hS : h S = none) (hG : h G = none) (n1 : k ≠ S) (n2 : k ≠ G) (n3 : S ≠ G) : Ct g yX3_init (.code yX3_init cX3_init 1 none) 1 2 81 [vR k] h (Rt none ((hput (hput (hput (hput (hput (hput h k (oO 2 [vI 0, vN, vN, vI 0])) S (oA 7 41 (fun _ => none))) k (oO 2 [vI 0, vR S, vN, vI 0])) G (oI 40 (fun _ => 0))) k (oO 2 [vI 0, vR S, vR G, vI 0])) k (oO 2 [vI 0, vR S, vR G, vI 0])))) := by
  refine Ct.of (by decide) (Nat.le_of_ble_eq_true rfl) (fun x hg C F => ?_)
  subst hg
  show T x 0 [(0, vR k)] [] h 0 0
  refine st_aload_n C 0 dX3_init_0 rfl rfl ?_
  refine st_objInit C dX3_init_1 oi_X3_3 oi_2 oi_3 (by decide) (Nat.le_of_ble_eq_true rfl) ?_
  refine st_aload_n C 0 dX3_init_4 rfl rfl ?_
  refine st_iconst C dX3_init_5 (by decide) ?_
  refine st_putf C dX3_init_6 fp_X3_9 (fun q => by cases q) hk (Nat.le_of_ble_eq_true rfl) fit_int ?_
  show T x 9 [(0, vR k)] [] (hput h k (oO 2 [vI 0, vN, vN, vI 0])) _ _
  refine st_aload_n C 0 dX3_init_9 rfl rfl ?_
  refine st_bipush C dX3_init_10 (by decide) (by decide) ?_
  refine st_newA C 41 dX3_init_12 S 7 RX7 (fun _ => rfl) rfl (by decide) an_X3_15 ao_X7 (hput_o (by omega) hS) (by omega) (by omega) ?_
  show T x 15 [(0, vR k)] [vR S, vR k] (hput (hput h k (oO 2 [vI 0, vN, vN, vI 0])) S (oA 7 41 (fun _ => none))) (0 + 1) (0 + 41)
  refine st_putf C dX3_init_15 fp_X3_17 (fun _ => rfl) (hput_o (by omega) hput_s) (Nat.le_of_ble_eq_true rfl) fit_arrR ?_
  show T x 18 [(0, vR k)] [] (hput (hput (hput h k (oO 2 [vI 0, vN, vN, vI 0])) S (oA 7 41 (fun _ => none))) k (oO 2 [vI 0, vR S, vN, vI 0])) _ _
  refine st_aload_n C 0 dX3_init_18 rfl rfl ?_
  refine st_bipush C dX3_init_19 (by decide) (by decide) ?_
  refine st_newI C 40 dX3_init_21 G rfl (by decide) ac_I (hput_o (by omega) (hput_o (by omega) (hput_o (by omega) hG))) (by omega) (by omega) ?_
  show T x 23 [(0, vR k)] [vR G, vR k] (hput (hput (hput (hput h k (oO 2 [vI 0, vN, vN, vI 0])) S (oA 7 41 (fun _ => none))) k (oO 2 [vI 0, vR S, vN, vI 0])) G (oI 40 (fun _ => 0))) (0 + 1 + 1) (0 + 41 + 40)
  refine st_putf C dX3_init_23 fp_X3_21 (fun _ => rfl) (hput_o (by omega) hput_s) (Nat.le_of_ble_eq_true rfl) fit_arrR ?_
  show T x 26 [(0, vR k)] [] (hput (hput (hput (hput (hput h k (oO 2 [vI 0, vN, vN, vI 0])) S (oA 7 41 (fun _ => none))) k (oO 2 [vI 0, vR S, vN, vI 0])) G (oI 40 (fun _ => 0))) k (oO 2 [vI 0, vR S, vR G, vI 0])) _ _
  refine st_aload_n C 0 dX3_init_26 rfl rfl ?_
  refine st_iconst C dX3_init_27 (by decide) ?_
  refine st_putf C dX3_init_28 fp_X3_25 (fun q => by cases q) hput_s (Nat.le_of_ble_eq_true rfl) fit_int ?_
  show T x 31 [(0, vR k)] [] (hput (hput (hput (hput (hput (hput h k (oO 2 [vI 0, vN, vN, vI 0])) S (oA 7 41 (fun _ => none))) k (oO 2 [vI 0, vR S, vN, vI 0])) G (oI 40 (fun _ => 0))) k (oO 2 [vI 0, vR S, vR G, vI 0])) k (oO 2 [vI 0, vR S, vR G, vI 0])) _ _
  exact st_return C F dX3_init_31 rfl ⟨rfl, rfl⟩ (by omega) (by omega)
set_option maxRecDepth 20000 in
set_option maxHeartbeats 4000000 in
theorem k_Branch {g : Gx} {h : HP} {b : Nat} (hb : h b = some (oO 0 [vI 0, vN, vN, vN, vN])) (hf1 : h (b + 1) = none) (hf2 : h (b + 2) = none) (hf3 : h (b + 3) = none) (hf4 : h (b + 4) = none) : Ct g yX0_init (.code yX0_init cX0_init 1 none) 1 4 1216 [vR b] h (Rt none ((hput (hput (hput (hput (hput (hput (hput (hput (hput h b (oO 0 [vI 0, vN, vN, vN, vN])) (b + 1) (oI 304 (fun _ => 0))) b (oO 0 [vI 0, vR (b + 1), vN, vN, vN])) (b + 2) (oI 304 (fun _ => 0))) b (oO 0 [vI 0, vR (b + 1), vR (b + 2), vN, vN])) (b + 3) (oI 304 (fun _ => 0))) b (oO 0 [vI 0, vR (b + 1), vR (b + 2), vR (b + 3), vN])) (b + 4) (oI 304 (fun _ => 0))) b (oO 0 [vI 0, vR (b + 1), vR (b + 2), vR (b + 3), vR (b + 4)])))) := by
  refine Ct.of (by decide) (Nat.le_of_ble_eq_true rfl) (fun x hg C F => ?_)
  subst hg
  show T x 0 [(0, vR b)] [] h 0 0
  refine st_aload_n C 0 dX0_init_0 rfl rfl ?_
  refine st_objInit C dX0_init_1 oi_X0_3 oi_2 oi_3 (by decide) (Nat.le_of_ble_eq_true rfl) ?_
  refine st_aload_n C 0 dX0_init_4 rfl rfl ?_
  refine st_iconst C dX0_init_5 (by decide) ?_
  refine st_putf C dX0_init_6 fp_X0_9 (fun q => by cases q) hb (Nat.le_of_ble_eq_true rfl) (fit_bool (by omega)) ?_
  show T x 9 [(0, vR b)] [] (hput h b (oO 0 [vI 0, vN, vN, vN, vN])) _ _
  refine st_aload_n C 0 dX0_init_9 rfl rfl ?_
  refine st_sipush C dX0_init_10 (by decide) (by decide) ?_
  refine st_newI C 304 dX0_init_13 (b + 1) rfl (by decide) ac_I (hput_o (by omega) hf1) (by omega) (by omega) ?_
  show T x 15 [(0, vR b)] [vR (b + 1), vR b] (hput (hput h b (oO 0 [vI 0, vN, vN, vN, vN])) (b + 1) (oI 304 (fun _ => 0))) (0 + 1) (0 + 304)
  refine st_putf C dX0_init_15 fp_X0_15 (fun _ => rfl) (hput_o (by omega) hput_s) (Nat.le_of_ble_eq_true rfl) fit_arrR ?_
  show T x 18 [(0, vR b)] [] (hput (hput (hput h b (oO 0 [vI 0, vN, vN, vN, vN])) (b + 1) (oI 304 (fun _ => 0))) b (oO 0 [vI 0, vR (b + 1), vN, vN, vN])) _ _
  refine st_aload_n C 0 dX0_init_18 rfl rfl ?_
  refine st_sipush C dX0_init_19 (by decide) (by decide) ?_
  refine st_newI C 304 dX0_init_22 (b + 2) rfl (by decide) ac_I (hput_o (by omega) (hput_o (by omega) (hput_o (by omega) hf2))) (by omega) (by omega) ?_
  show T x 24 [(0, vR b)] [vR (b + 2), vR b] (hput (hput (hput (hput h b (oO 0 [vI 0, vN, vN, vN, vN])) (b + 1) (oI 304 (fun _ => 0))) b (oO 0 [vI 0, vR (b + 1), vN, vN, vN])) (b + 2) (oI 304 (fun _ => 0))) (0 + 1 + 1) (0 + 304 + 304)
  refine st_putf C dX0_init_24 fp_X0_19 (fun _ => rfl) (hput_o (by omega) hput_s) (Nat.le_of_ble_eq_true rfl) fit_arrR ?_
  show T x 27 [(0, vR b)] [] (hput (hput (hput (hput (hput h b (oO 0 [vI 0, vN, vN, vN, vN])) (b + 1) (oI 304 (fun _ => 0))) b (oO 0 [vI 0, vR (b + 1), vN, vN, vN])) (b + 2) (oI 304 (fun _ => 0))) b (oO 0 [vI 0, vR (b + 1), vR (b + 2), vN, vN])) _ _
  refine st_aload_n C 0 dX0_init_27 rfl rfl ?_
  refine st_sipush C dX0_init_28 (by decide) (by decide) ?_
  refine st_newI C 304 dX0_init_31 (b + 3) rfl (by decide) ac_I (hput_o (by omega) (hput_o (by omega) (hput_o (by omega) (hput_o (by omega) (hput_o (by omega) hf3))))) (by omega) (by omega) ?_
  show T x 33 [(0, vR b)] [vR (b + 3), vR b] (hput (hput (hput (hput (hput (hput h b (oO 0 [vI 0, vN, vN, vN, vN])) (b + 1) (oI 304 (fun _ => 0))) b (oO 0 [vI 0, vR (b + 1), vN, vN, vN])) (b + 2) (oI 304 (fun _ => 0))) b (oO 0 [vI 0, vR (b + 1), vR (b + 2), vN, vN])) (b + 3) (oI 304 (fun _ => 0))) (0 + 1 + 1 + 1) (0 + 304 + 304 + 304)
  refine st_putf C dX0_init_33 fp_X0_22 (fun _ => rfl) (hput_o (by omega) hput_s) (Nat.le_of_ble_eq_true rfl) fit_arrR ?_
  show T x 36 [(0, vR b)] [] (hput (hput (hput (hput (hput (hput (hput h b (oO 0 [vI 0, vN, vN, vN, vN])) (b + 1) (oI 304 (fun _ => 0))) b (oO 0 [vI 0, vR (b + 1), vN, vN, vN])) (b + 2) (oI 304 (fun _ => 0))) b (oO 0 [vI 0, vR (b + 1), vR (b + 2), vN, vN])) (b + 3) (oI 304 (fun _ => 0))) b (oO 0 [vI 0, vR (b + 1), vR (b + 2), vR (b + 3), vN])) _ _
  refine st_aload_n C 0 dX0_init_36 rfl rfl ?_
  refine st_sipush C dX0_init_37 (by decide) (by decide) ?_
  refine st_newI C 304 dX0_init_40 (b + 4) rfl (by decide) ac_I (hput_o (by omega) (hput_o (by omega) (hput_o (by omega) (hput_o (by omega) (hput_o (by omega) (hput_o (by omega) (hput_o (by omega) hf4))))))) (by omega) (by omega) ?_
  show T x 42 [(0, vR b)] [vR (b + 4), vR b] (hput (hput (hput (hput (hput (hput (hput (hput h b (oO 0 [vI 0, vN, vN, vN, vN])) (b + 1) (oI 304 (fun _ => 0))) b (oO 0 [vI 0, vR (b + 1), vN, vN, vN])) (b + 2) (oI 304 (fun _ => 0))) b (oO 0 [vI 0, vR (b + 1), vR (b + 2), vN, vN])) (b + 3) (oI 304 (fun _ => 0))) b (oO 0 [vI 0, vR (b + 1), vR (b + 2), vR (b + 3), vN])) (b + 4) (oI 304 (fun _ => 0))) (0 + 1 + 1 + 1 + 1) (0 + 304 + 304 + 304 + 304)
  refine st_putf C dX0_init_42 fp_X0_25 (fun _ => rfl) (hput_o (by omega) hput_s) (Nat.le_of_ble_eq_true rfl) fit_arrR ?_
  show T x 45 [(0, vR b)] [] (hput (hput (hput (hput (hput (hput (hput (hput (hput h b (oO 0 [vI 0, vN, vN, vN, vN])) (b + 1) (oI 304 (fun _ => 0))) b (oO 0 [vI 0, vR (b + 1), vN, vN, vN])) (b + 2) (oI 304 (fun _ => 0))) b (oO 0 [vI 0, vR (b + 1), vR (b + 2), vN, vN])) (b + 3) (oI 304 (fun _ => 0))) b (oO 0 [vI 0, vR (b + 1), vR (b + 2), vR (b + 3), vN])) (b + 4) (oI 304 (fun _ => 0))) b (oO 0 [vI 0, vR (b + 1), vR (b + 2), vR (b + 3), vR (b + 4)])) _ _
  exact st_return C F dX0_init_45 rfl ⟨rfl, rfl⟩ (by omega) (by omega)
