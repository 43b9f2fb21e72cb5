def beginH (h : HP) (b : Nat) (mf bs ed co no : Int → Int) : HP := hput (hput (hput (hput (hput h b (oO 0 [vI 1, vR (b + 1), vR (b + 2), vR (b + 3), vR (b + 4)])) (b + 1) (oI 304 (fcpy mf bs 0 0 304))) (b + 2) (oI 304 (fmix (fun _ => -1) ed 304))) (b + 3) (oI 304 (fmix (fun _ => -1) co 304))) (b + 4) (oI 304 (fmix (fun _ => -100000) no 304))
set_option maxRecDepth 20000 in
set_option maxHeartbeats 4000000 in
theorem s_open0 {g : Gx} {h : HP} {rc dc : Int} {op : Int → Int} {bs ed co no : Int → Int → Int} {mf : Int → Int} (hs : cS h rc dc) (hB : cB h op bs ed co no) (hM : cM h mf) (o0 : op 0 = 0) : Ct g yX10_open (.code yX10_open cX10_open 3 (some .int)) 6 1 6 [vR 0] h (Rt (some (vI 0)) (beginH h (brN 0) mf (bs 0) (ed 0) (co 0) (no 0))) := by
  refine Ct.of (by decide) (Nat.le_of_ble_eq_true rfl) (fun x hg C F => ?_)
  subst hg
  obtain ⟨bf, hbf, hbr⟩ := id hB
  obtain ⟨hbn0, h0_0, h0_1, h0_2, h0_3, h0_4, hop0⟩ := hbr 0 (by omega) (by omega)
  have hbi0 := brN_in (i := 0) (by omega)
  show T x 0 [(0, vR 0)] [] h 0 0
  refine st_iconst C dX10_open_0 (by decide) ?_
  refine st_istore_n C 1 dX10_open_1 rfl (by decide) rfl ?_
  show T x 2 [(0, vR 0), (1, vI 0)] [] _ _ _
  refine st_iload_n C 1 dX10_open_2 rfl rfl ?_
  refine st_iconst C dX10_open_3 (by decide) ?_
  refine st_icmp_ge (tgt := 41) C dX10_open_4 (by decide) (fun c_4 => by omega) (fun c_4 => ?_)
  refine st_aload_n C 0 dX10_open_7 rfl rfl ?_
  refine st_getf C dX10_open_8 fl_X10_28 hs rfl ?_
  refine st_iload_n C 1 dX10_open_11 rfl rfl ?_
  refine st_aald C dX10_open_12 RX0 (fun _ => rfl) hbf (by omega) (by omega) ?_
  rw [hbn0]
  show T x 13 [(0, vR 0), (1, vI 0)] [vR (brN 0)] _ _ _
  refine st_astore_n C 2 dX10_open_13 rfl (by decide) rfl ?_
  show T x 14 [(0, vR 0), (1, vI 0), (2, vR (brN 0))] [] _ _ _
  refine st_aload_n C 2 dX10_open_14 rfl rfl ?_
  refine st_ifnull_r C dX10_open_15 ?_
  refine st_aload_n C 2 dX10_open_18 rfl rfl ?_
  refine st_getf C dX10_open_19 fl_X10_98 h0_0 rfl ?_
  refine st_if_ne (tgt := 35) C dX10_open_22 (by decide) (fun c_22 => by omega) (fun c_22 => ?_)
  refine st_aload_n C 2 dX10_open_25 rfl rfl ?_
  refine st_aload_n C 0 dX10_open_26 rfl rfl ?_
  refine st_getf C dX10_open_27 fl_X10_9 hs rfl ?_
  refine st_callV (st := []) C dX10_open_30 [vR 1] (k_begin (b := (brN 0)) (op := (op 0)) (bs := (bs 0)) (ed := (ed 0)) (co := (co 0)) (no := (no 0)) (mf := mf) h0_0 h0_1 h0_2 h0_3 h0_4 hM (by omega) (by omega) (by omega) (by omega)) h0_0 w_X10_102 rfl (by decide) (by decide) (by omega) (by omega) (Nat.le_of_ble_eq_true rfl) (ko_rn ?_)
  show T x 33 [(0, vR 0), (1, vI 0), (2, vR (brN 0))] [] _ _ _
  refine st_iload_n C 1 dX10_open_33 rfl rfl ?_
  exact st_ireturn C F dX10_open_34 rfl ⟨rfl, rfl⟩ (by omega) (by omega)
set_option maxRecDepth 20000 in
set_option maxHeartbeats 4000000 in
theorem s_open1 {g : Gx} {h : HP} {rc dc : Int} {op : Int → Int} {bs ed co no : Int → Int → Int} {mf : Int → Int} (hs : cS h rc dc) (hB : cB h op bs ed co no) (hM : cM h mf) (o0 : op 0 = 1) (o1 : op 1 = 0) : Ct g yX10_open (.code yX10_open cX10_open 3 (some .int)) 6 1 6 [vR 0] h (Rt (some (vI 1)) (beginH h (brN 1) mf (bs 1) (ed 1) (co 1) (no 1))) := by
  refine Ct.of (by decide) (Nat.le_of_ble_eq_true rfl) (fun x hg C F => ?_)
  subst hg
  obtain ⟨bf, hbf, hbr⟩ := id hB
  obtain ⟨hbn0, h0_0, h0_1, h0_2, h0_3, h0_4, hop0⟩ := hbr 0 (by omega) (by omega)
  have hbi0 := brN_in (i := 0) (by omega)
  obtain ⟨hbn1, h1_0, h1_1, h1_2, h1_3, h1_4, hop1⟩ := hbr 1 (by omega) (by omega)
  have hbi1 := brN_in (i := 1) (by omega)
  show T x 0 [(0, vR 0)] [] h 0 0
  refine st_iconst C dX10_open_0 (by decide) ?_
  refine st_istore_n C 1 dX10_open_1 rfl (by decide) rfl ?_
  show T x 2 [(0, vR 0), (1, vI 0)] [] _ _ _
  refine st_iload_n C 1 dX10_open_2 rfl rfl ?_
  refine st_iconst C dX10_open_3 (by decide) ?_
  refine st_icmp_ge (tgt := 41) C dX10_open_4 (by decide) (fun c_4 => by omega) (fun c_4 => ?_)
  refine st_aload_n C 0 dX10_open_7 rfl rfl ?_
  refine st_getf C dX10_open_8 fl_X10_28 hs rfl ?_
  refine st_iload_n C 1 dX10_open_11 rfl rfl ?_
  refine st_aald C dX10_open_12 RX0 (fun _ => rfl) hbf (by omega) (by omega) ?_
  rw [hbn0]
  show T x 13 [(0, vR 0), (1, vI 0)] [vR (brN 0)] _ _ _
  refine st_astore_n C 2 dX10_open_13 rfl (by decide) rfl ?_
  show T x 14 [(0, vR 0), (1, vI 0), (2, vR (brN 0))] [] _ _ _
  refine st_aload_n C 2 dX10_open_14 rfl rfl ?_
  refine st_ifnull_r C dX10_open_15 ?_
  refine st_aload_n C 2 dX10_open_18 rfl rfl ?_
  refine st_getf C dX10_open_19 fl_X10_98 h0_0 rfl ?_
  refine st_if_ne (tgt := 35) C dX10_open_22 (by decide) (fun c_22 => ?_) (fun c_22 => by omega)
  refine st_iinc C dX10_open_35 rfl (by decide) rfl ⟨(by omega), (by omega)⟩ ?_
  show T x 38 [(0, vR 0), (1, vI 1), (2, vR (brN 0))] [] _ _ _
  refine st_goto (tgt := 2) C dX10_open_38 (by decide) ?_
  refine st_iload_n C 1 dX10_open_2 rfl rfl ?_
  refine st_iconst C dX10_open_3 (by decide) ?_
  refine st_icmp_ge (tgt := 41) C dX10_open_4 (by decide) (fun c_4 => by omega) (fun c_4 => ?_)
  refine st_aload_n C 0 dX10_open_7 rfl rfl ?_
  refine st_getf C dX10_open_8 fl_X10_28 hs rfl ?_
  refine st_iload_n C 1 dX10_open_11 rfl rfl ?_
  refine st_aald C dX10_open_12 RX0 (fun _ => rfl) hbf (by omega) (by omega) ?_
  rw [hbn1]
  show T x 13 [(0, vR 0), (1, vI 1), (2, vR (brN 0))] [vR (brN 1)] _ _ _
  refine st_astore_n C 2 dX10_open_13 rfl (by decide) rfl ?_
  show T x 14 [(0, vR 0), (1, vI 1), (2, vR (brN 1))] [] _ _ _
  refine st_aload_n C 2 dX10_open_14 rfl rfl ?_
  refine st_ifnull_r C dX10_open_15 ?_
  refine st_aload_n C 2 dX10_open_18 rfl rfl ?_
  refine st_getf C dX10_open_19 fl_X10_98 h1_0 rfl ?_
  refine st_if_ne (tgt := 35) C dX10_open_22 (by decide) (fun c_22 => by omega) (fun c_22 => ?_)
  refine st_aload_n C 2 dX10_open_25 rfl rfl ?_
  refine st_aload_n C 0 dX10_open_26 rfl rfl ?_
  refine st_getf C dX10_open_27 fl_X10_9 hs rfl ?_
  refine st_callV (st := []) C dX10_open_30 [vR 1] (k_begin (b := (brN 1)) (op := (op 1)) (bs := (bs 1)) (ed := (ed 1)) (co := (co 1)) (no := (no 1)) (mf := mf) h1_0 h1_1 h1_2 h1_3 h1_4 hM (by omega) (by omega) (by omega) (by omega)) h1_0 w_X10_102 rfl (by decide) (by decide) (by omega) (by omega) (Nat.le_of_ble_eq_true rfl) (ko_rn ?_)
  show T x 33 [(0, vR 0), (1, vI 1), (2, vR (brN 1))] [] _ _ _
  refine st_iload_n C 1 dX10_open_33 rfl rfl ?_
  exact st_ireturn C F dX10_open_34 rfl ⟨rfl, rfl⟩ (by omega) (by omega)
set_option maxRecDepth 20000 in
set_option maxHeartbeats 4000000 in
theorem s_open2 {g : Gx} {h : HP} {rc dc : Int} {op : Int → Int} {bs ed co no : Int → Int → Int} {mf : Int → Int} (hs : cS h rc dc) (hB : cB h op bs ed co no) (hM : cM h mf) (o0 : op 0 = 1) (o1 : op 1 = 1) (o2 : op 2 = 0) : Ct g yX10_open (.code yX10_open cX10_open 3 (some .int)) 6 1 6 [vR 0] h (Rt (some (vI 2)) (beginH h (brN 2) mf (bs 2) (ed 2) (co 2) (no 2))) := by
  refine Ct.of (by decide) (Nat.le_of_ble_eq_true rfl) (fun x hg C F => ?_)
  subst hg
  obtain ⟨bf, hbf, hbr⟩ := id hB
  obtain ⟨hbn0, h0_0, h0_1, h0_2, h0_3, h0_4, hop0⟩ := hbr 0 (by omega) (by omega)
  have hbi0 := brN_in (i := 0) (by omega)
  obtain ⟨hbn1, h1_0, h1_1, h1_2, h1_3, h1_4, hop1⟩ := hbr 1 (by omega) (by omega)
  have hbi1 := brN_in (i := 1) (by omega)
  obtain ⟨hbn2, h2_0, h2_1, h2_2, h2_3, h2_4, hop2⟩ := hbr 2 (by omega) (by omega)
  have hbi2 := brN_in (i := 2) (by omega)
  show T x 0 [(0, vR 0)] [] h 0 0
  refine st_iconst C dX10_open_0 (by decide) ?_
  refine st_istore_n C 1 dX10_open_1 rfl (by decide) rfl ?_
  show T x 2 [(0, vR 0), (1, vI 0)] [] _ _ _
  refine st_iload_n C 1 dX10_open_2 rfl rfl ?_
  refine st_iconst C dX10_open_3 (by decide) ?_
  refine st_icmp_ge (tgt := 41) C dX10_open_4 (by decide) (fun c_4 => by omega) (fun c_4 => ?_)
  refine st_aload_n C 0 dX10_open_7 rfl rfl ?_
  refine st_getf C dX10_open_8 fl_X10_28 hs rfl ?_
  refine st_iload_n C 1 dX10_open_11 rfl rfl ?_
  refine st_aald C dX10_open_12 RX0 (fun _ => rfl) hbf (by omega) (by omega) ?_
  rw [hbn0]
  show T x 13 [(0, vR 0), (1, vI 0)] [vR (brN 0)] _ _ _
  refine st_astore_n C 2 dX10_open_13 rfl (by decide) rfl ?_
  show T x 14 [(0, vR 0), (1, vI 0), (2, vR (brN 0))] [] _ _ _
  refine st_aload_n C 2 dX10_open_14 rfl rfl ?_
  refine st_ifnull_r C dX10_open_15 ?_
  refine st_aload_n C 2 dX10_open_18 rfl rfl ?_
  refine st_getf C dX10_open_19 fl_X10_98 h0_0 rfl ?_
  refine st_if_ne (tgt := 35) C dX10_open_22 (by decide) (fun c_22 => ?_) (fun c_22 => by omega)
  refine st_iinc C dX10_open_35 rfl (by decide) rfl ⟨(by omega), (by omega)⟩ ?_
  show T x 38 [(0, vR 0), (1, vI 1), (2, vR (brN 0))] [] _ _ _
  refine st_goto (tgt := 2) C dX10_open_38 (by decide) ?_
  refine st_iload_n C 1 dX10_open_2 rfl rfl ?_
  refine st_iconst C dX10_open_3 (by decide) ?_
  refine st_icmp_ge (tgt := 41) C dX10_open_4 (by decide) (fun c_4 => by omega) (fun c_4 => ?_)
  refine st_aload_n C 0 dX10_open_7 rfl rfl ?_
  refine st_getf C dX10_open_8 fl_X10_28 hs rfl ?_
  refine st_iload_n C 1 dX10_open_11 rfl rfl ?_
  refine st_aald C dX10_open_12 RX0 (fun _ => rfl) hbf (by omega) (by omega) ?_
  rw [hbn1]
  show T x 13 [(0, vR 0), (1, vI 1), (2, vR (brN 0))] [vR (brN 1)] _ _ _
  refine st_astore_n C 2 dX10_open_13 rfl (by decide) rfl ?_
  show T x 14 [(0, vR 0), (1, vI 1), (2, vR (brN 1))] [] _ _ _
  refine st_aload_n C 2 dX10_open_14 rfl rfl ?_
  refine st_ifnull_r C dX10_open_15 ?_
  refine st_aload_n C 2 dX10_open_18 rfl rfl ?_
  refine st_getf C dX10_open_19 fl_X10_98 h1_0 rfl ?_
  refine st_if_ne (tgt := 35) C dX10_open_22 (by decide) (fun c_22 => ?_) (fun c_22 => by omega)
  refine st_iinc C dX10_open_35 rfl (by decide) rfl ⟨(by omega), (by omega)⟩ ?_
  show T x 38 [(0, vR 0), (1, vI 2), (2, vR (brN 1))] [] _ _ _
  refine st_goto (tgt := 2) C dX10_open_38 (by decide) ?_
  refine st_iload_n C 1 dX10_open_2 rfl rfl ?_
  refine st_iconst C dX10_open_3 (by decide) ?_
  refine st_icmp_ge (tgt := 41) C dX10_open_4 (by decide) (fun c_4 => by omega) (fun c_4 => ?_)
  refine st_aload_n C 0 dX10_open_7 rfl rfl ?_
  refine st_getf C dX10_open_8 fl_X10_28 hs rfl ?_
  refine st_iload_n C 1 dX10_open_11 rfl rfl ?_
  refine st_aald C dX10_open_12 RX0 (fun _ => rfl) hbf (by omega) (by omega) ?_
  rw [hbn2]
  show T x 13 [(0, vR 0), (1, vI 2), (2, vR (brN 1))] [vR (brN 2)] _ _ _
  refine st_astore_n C 2 dX10_open_13 rfl (by decide) rfl ?_
  show T x 14 [(0, vR 0), (1, vI 2), (2, vR (brN 2))] [] _ _ _
  refine st_aload_n C 2 dX10_open_14 rfl rfl ?_
  refine st_ifnull_r C dX10_open_15 ?_
  refine st_aload_n C 2 dX10_open_18 rfl rfl ?_
  refine st_getf C dX10_open_19 fl_X10_98 h2_0 rfl ?_
  refine st_if_ne (tgt := 35) C dX10_open_22 (by decide) (fun c_22 => by omega) (fun c_22 => ?_)
  refine st_aload_n C 2 dX10_open_25 rfl rfl ?_
  refine st_aload_n C 0 dX10_open_26 rfl rfl ?_
  refine st_getf C dX10_open_27 fl_X10_9 hs rfl ?_
  refine st_callV (st := []) C dX10_open_30 [vR 1] (k_begin (b := (brN 2)) (op := (op 2)) (bs := (bs 2)) (ed := (ed 2)) (co := (co 2)) (no := (no 2)) (mf := mf) h2_0 h2_1 h2_2 h2_3 h2_4 hM (by omega) (by omega) (by omega) (by omega)) h2_0 w_X10_102 rfl (by decide) (by decide) (by omega) (by omega) (Nat.le_of_ble_eq_true rfl) (ko_rn ?_)
  show T x 33 [(0, vR 0), (1, vI 2), (2, vR (brN 2))] [] _ _ _
  refine st_iload_n C 1 dX10_open_33 rfl rfl ?_
  exact st_ireturn C F dX10_open_34 rfl ⟨rfl, rfl⟩ (by omega) (by omega)
set_option maxRecDepth 20000 in
set_option maxHeartbeats 4000000 in
theorem s_open3 {g : Gx} {h : HP} {rc dc : Int} {op : Int → Int} {bs ed co no : Int → Int → Int} {mf : Int → Int} (hs : cS h rc dc) (hB : cB h op bs ed co no) (hM : cM h mf) (o0 : op 0 = 1) (o1 : op 1 = 1) (o2 : op 2 = 1) (o3 : op 3 = 0) : Ct g yX10_open (.code yX10_open cX10_open 3 (some .int)) 6 1 6 [vR 0] h (Rt (some (vI 3)) (beginH h (brN 3) mf (bs 3) (ed 3) (co 3) (no 3))) := by
  refine Ct.of (by decide) (Nat.le_of_ble_eq_true rfl) (fun x hg C F => ?_)
  subst hg
  obtain ⟨bf, hbf, hbr⟩ := id hB
  obtain ⟨hbn0, h0_0, h0_1, h0_2, h0_3, h0_4, hop0⟩ := hbr 0 (by omega) (by omega)
  have hbi0 := brN_in (i := 0) (by omega)
  obtain ⟨hbn1, h1_0, h1_1, h1_2, h1_3, h1_4, hop1⟩ := hbr 1 (by omega) (by omega)
  have hbi1 := brN_in (i := 1) (by omega)
  obtain ⟨hbn2, h2_0, h2_1, h2_2, h2_3, h2_4, hop2⟩ := hbr 2 (by omega) (by omega)
  have hbi2 := brN_in (i := 2) (by omega)
  obtain ⟨hbn3, h3_0, h3_1, h3_2, h3_3, h3_4, hop3⟩ := hbr 3 (by omega) (by omega)
  have hbi3 := brN_in (i := 3) (by omega)
  show T x 0 [(0, vR 0)] [] h 0 0
  refine st_iconst C dX10_open_0 (by decide) ?_
  refine st_istore_n C 1 dX10_open_1 rfl (by decide) rfl ?_
  show T x 2 [(0, vR 0), (1, vI 0)] [] _ _ _
  refine st_iload_n C 1 dX10_open_2 rfl rfl ?_
  refine st_iconst C dX10_open_3 (by decide) ?_
  refine st_icmp_ge (tgt := 41) C dX10_open_4 (by decide) (fun c_4 => by omega) (fun c_4 => ?_)
  refine st_aload_n C 0 dX10_open_7 rfl rfl ?_
  refine st_getf C dX10_open_8 fl_X10_28 hs rfl ?_
  refine st_iload_n C 1 dX10_open_11 rfl rfl ?_
  refine st_aald C dX10_open_12 RX0 (fun _ => rfl) hbf (by omega) (by omega) ?_
  rw [hbn0]
  show T x 13 [(0, vR 0), (1, vI 0)] [vR (brN 0)] _ _ _
  refine st_astore_n C 2 dX10_open_13 rfl (by decide) rfl ?_
  show T x 14 [(0, vR 0), (1, vI 0), (2, vR (brN 0))] [] _ _ _
  refine st_aload_n C 2 dX10_open_14 rfl rfl ?_
  refine st_ifnull_r C dX10_open_15 ?_
  refine st_aload_n C 2 dX10_open_18 rfl rfl ?_
  refine st_getf C dX10_open_19 fl_X10_98 h0_0 rfl ?_
  refine st_if_ne (tgt := 35) C dX10_open_22 (by decide) (fun c_22 => ?_) (fun c_22 => by omega)
  refine st_iinc C dX10_open_35 rfl (by decide) rfl ⟨(by omega), (by omega)⟩ ?_
  show T x 38 [(0, vR 0), (1, vI 1), (2, vR (brN 0))] [] _ _ _
  refine st_goto (tgt := 2) C dX10_open_38 (by decide) ?_
  refine st_iload_n C 1 dX10_open_2 rfl rfl ?_
  refine st_iconst C dX10_open_3 (by decide) ?_
  refine st_icmp_ge (tgt := 41) C dX10_open_4 (by decide) (fun c_4 => by omega) (fun c_4 => ?_)
  refine st_aload_n C 0 dX10_open_7 rfl rfl ?_
  refine st_getf C dX10_open_8 fl_X10_28 hs rfl ?_
  refine st_iload_n C 1 dX10_open_11 rfl rfl ?_
  refine st_aald C dX10_open_12 RX0 (fun _ => rfl) hbf (by omega) (by omega) ?_
  rw [hbn1]
  show T x 13 [(0, vR 0), (1, vI 1), (2, vR (brN 0))] [vR (brN 1)] _ _ _
  refine st_astore_n C 2 dX10_open_13 rfl (by decide) rfl ?_
  show T x 14 [(0, vR 0), (1, vI 1), (2, vR (brN 1))] [] _ _ _
  refine st_aload_n C 2 dX10_open_14 rfl rfl ?_
  refine st_ifnull_r C dX10_open_15 ?_
  refine st_aload_n C 2 dX10_open_18 rfl rfl ?_
  refine st_getf C dX10_open_19 fl_X10_98 h1_0 rfl ?_
  refine st_if_ne (tgt := 35) C dX10_open_22 (by decide) (fun c_22 => ?_) (fun c_22 => by omega)
  refine st_iinc C dX10_open_35 rfl (by decide) rfl ⟨(by omega), (by omega)⟩ ?_
  show T x 38 [(0, vR 0), (1, vI 2), (2, vR (brN 1))] [] _ _ _
  refine st_goto (tgt := 2) C dX10_open_38 (by decide) ?_
  refine st_iload_n C 1 dX10_open_2 rfl rfl ?_
  refine st_iconst C dX10_open_3 (by decide) ?_
  refine st_icmp_ge (tgt := 41) C dX10_open_4 (by decide) (fun c_4 => by omega) (fun c_4 => ?_)
  refine st_aload_n C 0 dX10_open_7 rfl rfl ?_
  refine st_getf C dX10_open_8 fl_X10_28 hs rfl ?_
  refine st_iload_n C 1 dX10_open_11 rfl rfl ?_
  refine st_aald C dX10_open_12 RX0 (fun _ => rfl) hbf (by omega) (by omega) ?_
  rw [hbn2]
  show T x 13 [(0, vR 0), (1, vI 2), (2, vR (brN 1))] [vR (brN 2)] _ _ _
  refine st_astore_n C 2 dX10_open_13 rfl (by decide) rfl ?_
  show T x 14 [(0, vR 0), (1, vI 2), (2, vR (brN 2))] [] _ _ _
  refine st_aload_n C 2 dX10_open_14 rfl rfl ?_
  refine st_ifnull_r C dX10_open_15 ?_
  refine st_aload_n C 2 dX10_open_18 rfl rfl ?_
  refine st_getf C dX10_open_19 fl_X10_98 h2_0 rfl ?_
  refine st_if_ne (tgt := 35) C dX10_open_22 (by decide) (fun c_22 => ?_) (fun c_22 => by omega)
  refine st_iinc C dX10_open_35 rfl (by decide) rfl ⟨(by omega), (by omega)⟩ ?_
  show T x 38 [(0, vR 0), (1, vI 3), (2, vR (brN 2))] [] _ _ _
  refine st_goto (tgt := 2) C dX10_open_38 (by decide) ?_
  refine st_iload_n C 1 dX10_open_2 rfl rfl ?_
  refine st_iconst C dX10_open_3 (by decide) ?_
  refine st_icmp_ge (tgt := 41) C dX10_open_4 (by decide) (fun c_4 => by omega) (fun c_4 => ?_)
  refine st_aload_n C 0 dX10_open_7 rfl rfl ?_
  refine st_getf C dX10_open_8 fl_X10_28 hs rfl ?_
  refine st_iload_n C 1 dX10_open_11 rfl rfl ?_
  refine st_aald C dX10_open_12 RX0 (fun _ => rfl) hbf (by omega) (by omega) ?_
  rw [hbn3]
  show T x 13 [(0, vR 0), (1, vI 3), (2, vR (brN 2))] [vR (brN 3)] _ _ _
  refine st_astore_n C 2 dX10_open_13 rfl (by decide) rfl ?_
  show T x 14 [(0, vR 0), (1, vI 3), (2, vR (brN 3))] [] _ _ _
  refine st_aload_n C 2 dX10_open_14 rfl rfl ?_
  refine st_ifnull_r C dX10_open_15 ?_
  refine st_aload_n C 2 dX10_open_18 rfl rfl ?_
  refine st_getf C dX10_open_19 fl_X10_98 h3_0 rfl ?_
  refine st_if_ne (tgt := 35) C dX10_open_22 (by decide) (fun c_22 => by omega) (fun c_22 => ?_)
  refine st_aload_n C 2 dX10_open_25 rfl rfl ?_
  refine st_aload_n C 0 dX10_open_26 rfl rfl ?_
  refine st_getf C dX10_open_27 fl_X10_9 hs rfl ?_
  refine st_callV (st := []) C dX10_open_30 [vR 1] (k_begin (b := (brN 3)) (op := (op 3)) (bs := (bs 3)) (ed := (ed 3)) (co := (co 3)) (no := (no 3)) (mf := mf) h3_0 h3_1 h3_2 h3_3 h3_4 hM (by omega) (by omega) (by omega) (by omega)) h3_0 w_X10_102 rfl (by decide) (by decide) (by omega) (by omega) (Nat.le_of_ble_eq_true rfl) (ko_rn ?_)
  show T x 33 [(0, vR 0), (1, vI 3), (2, vR (brN 3))] [] _ _ _
  refine st_iload_n C 1 dX10_open_33 rfl rfl ?_
  exact st_ireturn C F dX10_open_34 rfl ⟨rfl, rfl⟩ (by omega) (by omega)
set_option maxRecDepth 20000 in
set_option maxHeartbeats 4000000 in
theorem s_open_x1 {g : Gx} {h : HP} {rc dc : Int} {op : Int → Int} {bs ed co no : Int → Int → Int} {mf : Int → Int} (hs : cS h rc dc) (hB : cB h op bs ed co no) (hM : cM h mf) (o0 : op 0 = 1) (o1 : op 1 = 1) (o2 : op 2 = 1) (o3 : op 3 = 1) : Ct g yX10_open (.code yX10_open cX10_open 3 (some .int)) 6 1 6 [vR 0] h (Th "java/lang/IllegalStateException" h) := by
  refine Ct.of (by decide) (Nat.le_of_ble_eq_true rfl) (fun x hg C F => ?_)
  subst hg
  obtain ⟨bf, hbf, hbr⟩ := id hB
  obtain ⟨hbn0, h0_0, h0_1, h0_2, h0_3, h0_4, hop0⟩ := hbr 0 (by omega) (by omega)
  have hbi0 := brN_in (i := 0) (by omega)
  obtain ⟨hbn1, h1_0, h1_1, h1_2, h1_3, h1_4, hop1⟩ := hbr 1 (by omega) (by omega)
  have hbi1 := brN_in (i := 1) (by omega)
  obtain ⟨hbn2, h2_0, h2_1, h2_2, h2_3, h2_4, hop2⟩ := hbr 2 (by omega) (by omega)
  have hbi2 := brN_in (i := 2) (by omega)
  obtain ⟨hbn3, h3_0, h3_1, h3_2, h3_3, h3_4, hop3⟩ := hbr 3 (by omega) (by omega)
  have hbi3 := brN_in (i := 3) (by omega)
  show T x 0 [(0, vR 0)] [] h 0 0
  refine st_iconst C dX10_open_0 (by decide) ?_
  refine st_istore_n C 1 dX10_open_1 rfl (by decide) rfl ?_
  show T x 2 [(0, vR 0), (1, vI 0)] [] _ _ _
  refine st_iload_n C 1 dX10_open_2 rfl rfl ?_
  refine st_iconst C dX10_open_3 (by decide) ?_
  refine st_icmp_ge (tgt := 41) C dX10_open_4 (by decide) (fun c_4 => by omega) (fun c_4 => ?_)
  refine st_aload_n C 0 dX10_open_7 rfl rfl ?_
  refine st_getf C dX10_open_8 fl_X10_28 hs rfl ?_
  refine st_iload_n C 1 dX10_open_11 rfl rfl ?_
  refine st_aald C dX10_open_12 RX0 (fun _ => rfl) hbf (by omega) (by omega) ?_
  rw [hbn0]
  show T x 13 [(0, vR 0), (1, vI 0)] [vR (brN 0)] _ _ _
  refine st_astore_n C 2 dX10_open_13 rfl (by decide) rfl ?_
  show T x 14 [(0, vR 0), (1, vI 0), (2, vR (brN 0))] [] _ _ _
  refine st_aload_n C 2 dX10_open_14 rfl rfl ?_
  refine st_ifnull_r C dX10_open_15 ?_
  refine st_aload_n C 2 dX10_open_18 rfl rfl ?_
  refine st_getf C dX10_open_19 fl_X10_98 h0_0 rfl ?_
  refine st_if_ne (tgt := 35) C dX10_open_22 (by decide) (fun c_22 => ?_) (fun c_22 => by omega)
  refine st_iinc C dX10_open_35 rfl (by decide) rfl ⟨(by omega), (by omega)⟩ ?_
  show T x 38 [(0, vR 0), (1, vI 1), (2, vR (brN 0))] [] _ _ _
  refine st_goto (tgt := 2) C dX10_open_38 (by decide) ?_
  refine st_iload_n C 1 dX10_open_2 rfl rfl ?_
  refine st_iconst C dX10_open_3 (by decide) ?_
  refine st_icmp_ge (tgt := 41) C dX10_open_4 (by decide) (fun c_4 => by omega) (fun c_4 => ?_)
  refine st_aload_n C 0 dX10_open_7 rfl rfl ?_
  refine st_getf C dX10_open_8 fl_X10_28 hs rfl ?_
  refine st_iload_n C 1 dX10_open_11 rfl rfl ?_
  refine st_aald C dX10_open_12 RX0 (fun _ => rfl) hbf (by omega) (by omega) ?_
  rw [hbn1]
  show T x 13 [(0, vR 0), (1, vI 1), (2, vR (brN 0))] [vR (brN 1)] _ _ _
  refine st_astore_n C 2 dX10_open_13 rfl (by decide) rfl ?_
  show T x 14 [(0, vR 0), (1, vI 1), (2, vR (brN 1))] [] _ _ _
  refine st_aload_n C 2 dX10_open_14 rfl rfl ?_
  refine st_ifnull_r C dX10_open_15 ?_
  refine st_aload_n C 2 dX10_open_18 rfl rfl ?_
  refine st_getf C dX10_open_19 fl_X10_98 h1_0 rfl ?_
  refine st_if_ne (tgt := 35) C dX10_open_22 (by decide) (fun c_22 => ?_) (fun c_22 => by omega)
  refine st_iinc C dX10_open_35 rfl (by decide) rfl ⟨(by omega), (by omega)⟩ ?_
  show T x 38 [(0, vR 0), (1, vI 2), (2, vR (brN 1))] [] _ _ _
  refine st_goto (tgt := 2) C dX10_open_38 (by decide) ?_
  refine st_iload_n C 1 dX10_open_2 rfl rfl ?_
  refine st_iconst C dX10_open_3 (by decide) ?_
  refine st_icmp_ge (tgt := 41) C dX10_open_4 (by decide) (fun c_4 => by omega) (fun c_4 => ?_)
  refine st_aload_n C 0 dX10_open_7 rfl rfl ?_
  refine st_getf C dX10_open_8 fl_X10_28 hs rfl ?_
  refine st_iload_n C 1 dX10_open_11 rfl rfl ?_
  refine st_aald C dX10_open_12 RX0 (fun _ => rfl) hbf (by omega) (by omega) ?_
  rw [hbn2]
  show T x 13 [(0, vR 0), (1, vI 2), (2, vR (brN 1))] [vR (brN 2)] _ _ _
  refine st_astore_n C 2 dX10_open_13 rfl (by decide) rfl ?_
  show T x 14 [(0, vR 0), (1, vI 2), (2, vR (brN 2))] [] _ _ _
  refine st_aload_n C 2 dX10_open_14 rfl rfl ?_
  refine st_ifnull_r C dX10_open_15 ?_
  refine st_aload_n C 2 dX10_open_18 rfl rfl ?_
  refine st_getf C dX10_open_19 fl_X10_98 h2_0 rfl ?_
  refine st_if_ne (tgt := 35) C dX10_open_22 (by decide) (fun c_22 => ?_) (fun c_22 => by omega)
  refine st_iinc C dX10_open_35 rfl (by decide) rfl ⟨(by omega), (by omega)⟩ ?_
  show T x 38 [(0, vR 0), (1, vI 3), (2, vR (brN 2))] [] _ _ _
  refine st_goto (tgt := 2) C dX10_open_38 (by decide) ?_
  refine st_iload_n C 1 dX10_open_2 rfl rfl ?_
  refine st_iconst C dX10_open_3 (by decide) ?_
  refine st_icmp_ge (tgt := 41) C dX10_open_4 (by decide) (fun c_4 => by omega) (fun c_4 => ?_)
  refine st_aload_n C 0 dX10_open_7 rfl rfl ?_
  refine st_getf C dX10_open_8 fl_X10_28 hs rfl ?_
  refine st_iload_n C 1 dX10_open_11 rfl rfl ?_
  refine st_aald C dX10_open_12 RX0 (fun _ => rfl) hbf (by omega) (by omega) ?_
  rw [hbn3]
  show T x 13 [(0, vR 0), (1, vI 3), (2, vR (brN 2))] [vR (brN 3)] _ _ _
  refine st_astore_n C 2 dX10_open_13 rfl (by decide) rfl ?_
  show T x 14 [(0, vR 0), (1, vI 3), (2, vR (brN 3))] [] _ _ _
  refine st_aload_n C 2 dX10_open_14 rfl rfl ?_
  refine st_ifnull_r C dX10_open_15 ?_
  refine st_aload_n C 2 dX10_open_18 rfl rfl ?_
  refine st_getf C dX10_open_19 fl_X10_98 h3_0 rfl ?_
  refine st_if_ne (tgt := 35) C dX10_open_22 (by decide) (fun c_22 => ?_) (fun c_22 => by omega)
  refine st_iinc C dX10_open_35 rfl (by decide) rfl ⟨(by omega), (by omega)⟩ ?_
  show T x 38 [(0, vR 0), (1, vI 4), (2, vR (brN 3))] [] _ _ _
  refine st_goto (tgt := 2) C dX10_open_38 (by decide) ?_
  refine st_iload_n C 1 dX10_open_2 rfl rfl ?_
  refine st_iconst C dX10_open_3 (by decide) ?_
  refine st_icmp_ge (tgt := 41) C dX10_open_4 (by decide) (fun c_4 => ?_) (fun c_4 => by omega)
  exact st_throw C F dX10_open_41 dX10_open_44 dX10_open_45 dX10_open_48 xw_X10_95 (by decide) ⟨rfl, rfl⟩ (by omega) (by omega)
section NULLS
variable {x : Cx} {y : MethodName} {cc : ByteArray} {nL : Nat} {ret : Option FieldType} {tb : List (Nat × Nat × Nat × Nat)} {d mc ms : Nat} {pc : Nat} {ls : List (Nat × PV)} {st : List PV} {h : HP} {cl sl : Nat}
theorem st_Nload_n (C : Fr x y cc nL ret tb d mc ms) {j : Fin 4} (i : Nat) (hd : decode cc pc = .ok (.aload_n j, 1)) (hj : (j : Nat) = i) (hv : lget ls i = some vN) (k : T x (pc + 1) ls (vN :: st) h cl sl) : T x pc ls st h cl sl := by
  obtain ⟨p, l, e, R, s, m, args, below, meth, c, dC, dI, cA, H0, Qf, ad0, h0⟩ := x
  obtain ⟨hx, hb, hml, -⟩ := C
  intro ad H locs rls hS hR hE hL hK hl
  exact lv_aload_nN hx hb hd hj (has_at hl hv) (k ad H locs rls hS hR hE hL (okS_c (hL _ (lget_mem hv)) hK) hl)
theorem st_Nstore_n (C : Fr x y cc nL ret tb d mc ms) {j : Fin 4} (i : Nat) (hd : decode cc pc = .ok (.astore_n j, 1)) (hj : (j : Nat) = i) (hn : i < nL) (hf : lfree ls i vN = true) (k : T x (pc + 1) (lset ls i vN) st h cl sl) : T x pc ls (vN :: st) h cl sl := by
  obtain ⟨p, l, e, R, s, m, args, below, meth, c, dC, dI, cA, H0, Qf, ad0, h0⟩ := x
  obtain ⟨hx, hb, hml, -⟩ := C
  intro ad H locs rls hS hR hE hL hK hl
  refine lv_astore_nN hx hb hd hj hl (by rw [hml]; exact hn) rfl (fun rls' hl' => k ad H locs rls' hS hR hE (okL_set hL (okS_h hK)) (okS_t hK) (has_set hf hl' (fun q hq e1 e2 e3 => List.mem_cons_of_mem _ (List.mem_filter.mpr ⟨hq, by
    simp only [Bool.and_eq_true, Bool.not_eq_true', Bool.and_eq_false_iff, beq_eq_false_iff_ne]
    exact ⟨e1, (Decidable.em (q.1 + 1 = i)).symm.elim (fun z => Or.inl z) (fun z => Or.inr (e2 z))⟩⟩)) List.mem_cons_self))
end NULLS
set_option maxRecDepth 20000 in
set_option maxHeartbeats 4000000 in
theorem k_knownDevice_t {g : Gx} {h : HP} {rc dc : Int} {ct ld : Int → Int} {tf sf af : Int → Int → Int} {d9 : Int} (hs : cS h rc dc) (hD : cD h dc ct ld tf sf af) (hdc : 0 ≤ dc ∧ dc ≤ 3) (hV : 0 ≤ d9 ∧ d9 < dc) : Ct g yX10_knownDevice (.code yX10_knownDevice cX10_knownDevice 3 (some (.object "CindermapStore$Device"))) 6 1 6 [vR 0, vI d9] h (Rt (some (vR (dvN d9))) h) := by
  refine Ct.of (by decide) (Nat.le_of_ble_eq_true rfl) (fun x hg C F => ?_)
  subst hg
  obtain ⟨⟨df, hdf, hd1, hd2⟩, hda, hdb⟩ := id hD
  have hdn := hd1 d9 (by omega) (by omega)
  obtain ⟨e_0, e_1, e_2, e_3⟩ := hda d9 (by omega) (by omega)
  have hdi := dvN_in (i := d9) (by omega)
  show T x 0 [(0, vR 0), (1, vI d9)] [] h 0 0
  refine st_iload_n C 1 dX10_knownDevice_0 rfl rfl ?_
  refine st_if_lt (tgt := 9) C dX10_knownDevice_1 (by decide) (fun c_1 => by omega) (fun c_1 => ?_)
  refine st_iload_n C 1 dX10_knownDevice_4 rfl rfl ?_
  refine st_iconst C dX10_knownDevice_5 (by decide) ?_
  refine st_icmp_lt (tgt := 17) C dX10_knownDevice_6 (by decide) (fun c_6 => ?_) (fun c_6 => by omega)
  refine st_aload_n C 0 dX10_knownDevice_17 rfl rfl ?_
  refine st_getf C dX10_knownDevice_18 fl_X10_34 hs rfl ?_
  refine st_iload_n C 1 dX10_knownDevice_21 rfl rfl ?_
  refine st_aald C dX10_knownDevice_22 RX1 (fun _ => rfl) hdf (by omega) (by omega) ?_
  rw [hdn]
  show T x 23 [(0, vR 0), (1, vI d9)] [vR (dvN d9)] _ _ _
  refine st_astore_n C 2 dX10_knownDevice_23 rfl (by decide) rfl ?_
  show T x 24 [(0, vR 0), (1, vI d9), (2, vR (dvN d9))] [] _ _ _
  refine st_aload_n C 2 dX10_knownDevice_24 rfl rfl ?_
  refine st_ifnonnull_r (tgt := 36) C dX10_knownDevice_25 (by decide) ?_
  refine st_aload_n C 2 dX10_knownDevice_36 rfl rfl ?_
  exact st_areturn C F dX10_knownDevice_37 rfl ⟨rfl, rfl⟩ (by omega) (by omega)
set_option maxRecDepth 20000 in
set_option maxHeartbeats 4000000 in
theorem k_knownDevice_c {g : Gx} {h : HP} {rc dc : Int} {ct ld : Int → Int} {tf sf af : Int → Int → Int} {d9 : Int} (hs : cS h rc dc) (hD : cD h dc ct ld tf sf af) (hdc : 0 ≤ dc ∧ dc ≤ 3) (hV : dc ≤ d9 ∧ d9 ≤ 2) : Ct g yX10_knownDevice (.code yX10_knownDevice cX10_knownDevice 3 (some (.object "CindermapStore$Device"))) 6 1 6 [vR 0, vI d9] h (Th "java/lang/IndexOutOfBoundsException" h) := by
  refine Ct.of (by decide) (Nat.le_of_ble_eq_true rfl) (fun x hg C F => ?_)
  subst hg
  obtain ⟨⟨df, hdf, hd1, hd2⟩, hda, hdb⟩ := id hD
  have hdn := hd2 d9 (by omega) (by omega)
  show T x 0 [(0, vR 0), (1, vI d9)] [] h 0 0
  refine st_iload_n C 1 dX10_knownDevice_0 rfl rfl ?_
  refine st_if_lt (tgt := 9) C dX10_knownDevice_1 (by decide) (fun c_1 => by omega) (fun c_1 => ?_)
  refine st_iload_n C 1 dX10_knownDevice_4 rfl rfl ?_
  refine st_iconst C dX10_knownDevice_5 (by decide) ?_
  refine st_icmp_lt (tgt := 17) C dX10_knownDevice_6 (by decide) (fun c_6 => ?_) (fun c_6 => by omega)
  refine st_aload_n C 0 dX10_knownDevice_17 rfl rfl ?_
  refine st_getf C dX10_knownDevice_18 fl_X10_34 hs rfl ?_
  refine st_iload_n C 1 dX10_knownDevice_21 rfl rfl ?_
  refine st_aald C dX10_knownDevice_22 RX1 (fun _ => rfl) hdf (by omega) (by omega) ?_
  rw [hdn]
  show T x 23 [(0, vR 0), (1, vI d9)] [vN] _ _ _
  refine st_Nstore_n C 2 dX10_knownDevice_23 rfl (by decide) rfl ?_
  show T x 24 [(0, vR 0), (1, vI d9), (2, vN)] [] _ _ _
  refine st_Nload_n C 2 dX10_knownDevice_24 rfl rfl ?_
  refine st_ifnonnull_n C dX10_knownDevice_25 ?_
  exact st_throw C F dX10_knownDevice_28 dX10_knownDevice_31 dX10_knownDevice_32 dX10_knownDevice_35 xw_X10_167 (by decide) ⟨rfl, rfl⟩ (by omega) (by omega)
theorem k_knownDevice_f {g : Gx} {h : HP} {rc dc : Int} {ct ld : Int → Int} {tf sf af : Int → Int → Int} {d9 : Int} (hs : cS h rc dc) (hD : cD h dc ct ld tf sf af) (hdc : 0 ≤ dc ∧ dc ≤ 3) (hV : ¬ (0 ≤ d9 ∧ d9 < dc)) : Ct g yX10_knownDevice (.code yX10_knownDevice cX10_knownDevice 3 (some (.object "CindermapStore$Device"))) 6 1 6 [vR 0, vI d9] h (Th "java/lang/IndexOutOfBoundsException" h) := by
  by_cases c1 : d9 < 0
  · exact k_knownDevice_l hs c1
  by_cases c2 : 3 ≤ d9
  · exact k_knownDevice_g hs c2
  exact k_knownDevice_c hs hD hdc (by omega)
set_option maxRecDepth 20000 in
set_option maxHeartbeats 4000000 in
theorem s_ahead_x1 {g : Gx} {h : HP} {rc dc : Int} {ct ld : Int → Int} {tf sf af : Int → Int → Int} {d9 : Int} (hs : cS h rc dc) (hD : cD h dc ct ld tf sf af) (hdc : 0 ≤ dc ∧ dc ≤ 3) (hV : ¬ (0 ≤ d9 ∧ d9 < dc)) : Ct g yX10_ahead (.code yX10_ahead cX10_ahead 2 (some .int)) 7 2 12 [vR 0, vI d9] h (Th "java/lang/IndexOutOfBoundsException" h) := by
  refine Ct.of (by decide) (Nat.le_of_ble_eq_true rfl) (fun x hg C F => ?_)
  subst hg
  obtain ⟨⟨df, hdf, hd1, hd2⟩, hda, hdb⟩ := id hD
  show T x 0 [(0, vR 0), (1, vI d9)] [] h 0 0
  refine st_aload_n C 0 dX10_ahead_0 rfl rfl ?_
  refine st_iload_n C 1 dX10_ahead_1 rfl rfl ?_
  refine st_callV (st := []) C dX10_ahead_2 [vI d9] (k_knownDevice_f (rc := rc) (dc := dc) (ct := ct) (ld := ld) (tf := tf) (sf := sf) (af := af) (d9 := d9) hs hD hdc hV) hs w_X10_279 rfl (by decide) (by decide) (by omega) (by omega) (Nat.le_of_ble_eq_true rfl) (ko_th ?_)
  exact st_out C F (by first | exact ⟨rfl, rfl⟩ | (exfalso; omega) | exact absurd (by assumption) hQ | exact absurd hQ (by assumption)) (by omega) (by omega)
set_option maxRecDepth 20000 in
set_option maxHeartbeats 4000000 in
theorem s_ahead {g : Gx} {h : HP} {rc dc : Int} {ct ld : Int → Int} {tf sf af : Int → Int → Int} {d9 : Int} (hs : cS h rc dc) (hD : cD h dc ct ld tf sf af) (hdc : 0 ≤ dc ∧ dc ≤ 3) (hV : 0 ≤ d9 ∧ d9 < dc) : Ct g yX10_ahead (.code yX10_ahead cX10_ahead 2 (some .int)) 7 2 12 [vR 0, vI d9] h (Rt (some (vI (ld d9))) h) := by
  refine Ct.of (by decide) (Nat.le_of_ble_eq_true rfl) (fun x hg C F => ?_)
  subst hg
  obtain ⟨⟨df, hdf, hd1, hd2⟩, hda, hdb⟩ := id hD
  have hdn := hd1 d9 (by omega) (by omega)
  obtain ⟨e_0, e_1, e_2, e_3⟩ := hda d9 (by omega) (by omega)
  have hdi := dvN_in (i := d9) (by omega)
  show T x 0 [(0, vR 0), (1, vI d9)] [] h 0 0
  refine st_aload_n C 0 dX10_ahead_0 rfl rfl ?_
  refine st_iload_n C 1 dX10_ahead_1 rfl rfl ?_
  refine st_callV (st := []) C dX10_ahead_2 [vI d9] (k_knownDevice_t (rc := rc) (dc := dc) (ct := ct) (ld := ld) (tf := tf) (sf := sf) (af := af) (d9 := d9) hs hD hdc hV) hs w_X10_279 rfl (by decide) (by decide) (by omega) (by omega) (Nat.le_of_ble_eq_true rfl) (ko_rt ?_)
  show T x 5 [(0, vR 0), (1, vI d9)] [vR (dvN d9)] _ _ _
  refine st_getf C dX10_ahead_5 fl_X10_294 e_0 rfl ?_
  exact st_ireturn C F dX10_ahead_8 rfl (by first | exact ⟨by with_reducible rfl, by with_reducible rfl⟩ | (exfalso; omega) | exact absurd (by assumption) hQ | exact absurd hQ (by assumption)) (by omega) (by omega)
set_option maxRecDepth 20000 in
set_option maxHeartbeats 4000000 in
theorem s_note_x1 {g : Gx} {h : HP} {rc dc : Int} {ct ld : Int → Int} {tf sf af : Int → Int → Int} {d9 : Int} {t9 l9 x9 y9 v9 : Int} (hs : cS h rc dc) (hD : cD h dc ct ld tf sf af) (hdc : 0 ≤ dc ∧ dc ≤ 3) (hV : ¬ (0 ≤ d9 ∧ d9 < dc)) : Ct g yX10_note (.code yX10_note cX10_note 8 (some .int)) 7 2 12 [vR 0, vI d9, vI t9, vI l9, vI x9, vI y9, vI v9] h (Th "java/lang/IndexOutOfBoundsException" h) := by
  refine Ct.of (by decide) (Nat.le_of_ble_eq_true rfl) (fun x hg C F => ?_)
  subst hg
  obtain ⟨⟨df, hdf, hd1, hd2⟩, hda, hdb⟩ := id hD
  show T x 0 [(0, vR 0), (1, vI d9), (2, vI t9), (3, vI l9), (4, vI x9), (5, vI y9), (6, vI v9)] [] h 0 0
  refine st_aload_n C 0 dX10_note_0 rfl rfl ?_
  refine st_iload_n C 1 dX10_note_1 rfl rfl ?_
  refine st_callV (st := []) C dX10_note_2 [vI d9] (k_knownDevice_f (rc := rc) (dc := dc) (ct := ct) (ld := ld) (tf := tf) (sf := sf) (af := af) (d9 := d9) hs hD hdc hV) hs w_X10_279 rfl (by decide) (by decide) (by omega) (by omega) (Nat.le_of_ble_eq_true rfl) (ko_th ?_)
  exact st_out C F (by first | exact ⟨rfl, rfl⟩ | (exfalso; omega) | exact absurd (by assumption) hQ | exact absurd hQ (by assumption)) (by omega) (by omega)
set_option maxRecDepth 20000 in
set_option maxHeartbeats 4000000 in
theorem s_note_x3 {g : Gx} {h : HP} {rc dc : Int} {ct ld : Int → Int} {tf sf af : Int → Int → Int} {d9 : Int} {t9 l9 x9 y9 v9 : Int} (hs : cS h rc dc) (hD : cD h dc ct ld tf sf af) (hdc : 0 ≤ dc ∧ dc ≤ 3) (hV : 0 ≤ d9 ∧ d9 < dc) (hq : (0 ≤ t9 ∧ t9 ≤ 9999) ∧ (0 ≤ l9 ∧ l9 ≤ 2 ∧ 0 ≤ x9 ∧ x9 ≤ 7 ∧ 0 ≤ y9 ∧ y9 ≤ 7) ∧ 0 ≤ v9 ∧ v9 ≤ 9) (hc : 20 ≤ ct d9) : Ct g yX10_note (.code yX10_note cX10_note 8 (some .int)) 7 2 12 [vR 0, vI d9, vI t9, vI l9, vI x9, vI y9, vI v9] h (Th "java/lang/IllegalStateException" h) := by
  refine Ct.of (by decide) (Nat.le_of_ble_eq_true rfl) (fun x hg C F => ?_)
  subst hg
  obtain ⟨⟨df, hdf, hd1, hd2⟩, hda, hdb⟩ := id hD
  have hdn := hd1 d9 (by omega) (by omega)
  obtain ⟨e_0, e_1, e_2, e_3⟩ := hda d9 (by omega) (by omega)
  have hdi := dvN_in (i := d9) (by omega)
  show T x 0 [(0, vR 0), (1, vI d9), (2, vI t9), (3, vI l9), (4, vI x9), (5, vI y9), (6, vI v9)] [] h 0 0
  refine st_aload_n C 0 dX10_note_0 rfl rfl ?_
  refine st_iload_n C 1 dX10_note_1 rfl rfl ?_
  refine st_callV (st := []) C dX10_note_2 [vI d9] (k_knownDevice_t (rc := rc) (dc := dc) (ct := ct) (ld := ld) (tf := tf) (sf := sf) (af := af) (d9 := d9) hs hD hdc hV) hs w_X10_279 rfl (by decide) (by decide) (by omega) (by omega) (Nat.le_of_ble_eq_true rfl) (ko_rt ?_)
  show T x 5 [(0, vR 0), (1, vI d9), (2, vI t9), (3, vI l9), (4, vI x9), (5, vI y9), (6, vI v9)] [vR (dvN d9)] _ _ _
  refine st_astore C dX10_note_5 (by decide) rfl ?_
  show T x 7 [(0, vR 0), (1, vI d9), (2, vI t9), (3, vI l9), (4, vI x9), (5, vI y9), (6, vI v9), (7, vR (dvN d9))] [] _ _ _
  refine st_iload_n C 2 dX10_note_7 rfl rfl ?_
  refine st_sipush C dX10_note_8 (by decide) (by decide) ?_
  have b_11 : 0 ≤ t9 ∧ t9 ≤ 9999 := by omega
  refine st_callS (st := []) C dX10_note_11 [vI t9, vI 9999] (k_isWithin_t (v9 := t9) (m9 := 9999)  b_11) w_X10_118 rfl (by decide) (by decide) (by omega) (by omega) (Nat.le_of_ble_eq_true rfl) (ko_rt ?_)
  show T x 14 [(0, vR 0), (1, vI d9), (2, vI t9), (3, vI l9), (4, vI x9), (5, vI y9), (6, vI v9), (7, vR (dvN d9))] [vI 1] _ _ _
  refine st_if_eq (tgt := 42) C dX10_note_14 (by decide) (fun c_14 => by omega) (fun c_14 => ?_)
  refine st_iload_n C 3 dX10_note_17 rfl rfl ?_
  refine st_iload C dX10_note_18 rfl ?_
  refine st_iload C dX10_note_20 rfl ?_
  have b_22 : 0 ≤ l9 ∧ l9 ≤ 2 ∧ 0 ≤ x9 ∧ x9 ≤ 7 ∧ 0 ≤ y9 ∧ y9 ≤ 7 := by omega
  refine st_callS (st := []) C dX10_note_22 [vI l9, vI x9, vI y9] (k_isPlace_t (v9 := l9) (x9 := x9) (y9 := y9)  b_22) w_X10_114 rfl (by decide) (by decide) (by omega) (by omega) (Nat.le_of_ble_eq_true rfl) (ko_rt ?_)
  show T x 25 [(0, vR 0), (1, vI d9), (2, vI t9), (3, vI l9), (4, vI x9), (5, vI y9), (6, vI v9), (7, vR (dvN d9))] [vI 1] _ _ _
  refine st_if_eq (tgt := 42) C dX10_note_25 (by decide) (fun c_25 => by omega) (fun c_25 => ?_)
  refine st_iload C dX10_note_28 rfl ?_
  refine st_bipush C dX10_note_30 (by decide) (by decide) ?_
  have b_32 : 0 ≤ v9 ∧ v9 ≤ 9 := by omega
  refine st_callS (st := []) C dX10_note_32 [vI v9, vI 9] (k_isWithin_t (v9 := v9) (m9 := 9)  b_32) w_X10_118 rfl (by decide) (by decide) (by omega) (by omega) (Nat.le_of_ble_eq_true rfl) (ko_rt ?_)
  show T x 35 [(0, vR 0), (1, vI d9), (2, vI t9), (3, vI l9), (4, vI x9), (5, vI y9), (6, vI v9), (7, vR (dvN d9))] [vI 1] _ _ _
  refine st_if_eq (tgt := 42) C dX10_note_35 (by decide) (fun c_35 => by omega) (fun c_35 => ?_)
  refine st_iconst C dX10_note_38 (by decide) ?_
  refine st_goto (tgt := 43) C dX10_note_39 (by decide) ?_
  refine st_callS (st := []) C dX10_note_43 [vI 1] k_need_t w_X10_81 rfl (by decide) (by decide) (by omega) (by omega) (Nat.le_of_ble_eq_true rfl) (ko_rn ?_)
  show T x 46 [(0, vR 0), (1, vI d9), (2, vI t9), (3, vI l9), (4, vI x9), (5, vI y9), (6, vI v9), (7, vR (dvN d9))] [] _ _ _
  refine st_aload C dX10_note_46 rfl ?_
  have b_48 : 20 ≤ ct d9 := by omega
  refine st_callV (st := []) C dX10_note_48 [] (k_dFull_t (ct := (ct d9)) e_0 b_48) e_0 w_X10_283 rfl (by decide) (by decide) (by omega) (by omega) (Nat.le_of_ble_eq_true rfl) (ko_rt ?_)
  show T x 51 [(0, vR 0), (1, vI d9), (2, vI t9), (3, vI l9), (4, vI x9), (5, vI y9), (6, vI v9), (7, vR (dvN d9))] [vI 1] _ _ _
  refine st_if_eq (tgt := 62) C dX10_note_51 (by decide) (fun c_51 => by omega) (fun c_51 => ?_)
  exact st_throw C F dX10_note_54 dX10_note_57 dX10_note_58 dX10_note_61 xw_X10_95 (by decide) (by first | exact ⟨rfl, rfl⟩ | (exfalso; omega)) (by omega) (by omega)
set_option maxRecDepth 20000 in
set_option maxHeartbeats 4000000 in
theorem s_note {g : Gx} {h : HP} {rc dc : Int} {ct ld : Int → Int} {tf sf af : Int → Int → Int} {d9 : Int} {t9 l9 x9 y9 v9 : Int} (hs : cS h rc dc) (hD : cD h dc ct ld tf sf af) (hdc : 0 ≤ dc ∧ dc ≤ 3) (hV : 0 ≤ d9 ∧ d9 < dc) (hq : (0 ≤ t9 ∧ t9 ≤ 9999) ∧ (0 ≤ l9 ∧ l9 ≤ 2 ∧ 0 ≤ x9 ∧ x9 ≤ 7 ∧ 0 ≤ y9 ∧ y9 ≤ 7) ∧ 0 ≤ v9 ∧ v9 ≤ 9) (hc : 0 ≤ ct d9 ∧ ct d9 ≤ 19) : Ct g yX10_note (.code yX10_note cX10_note 8 (some .int)) 7 2 12 [vR 0, vI d9, vI t9, vI l9, vI x9, vI y9, vI v9] h (Rt (some (vI (ct d9 + 1))) (hput (dv3 h (dvN d9) (insF (tf d9) (insP (tf d9) t9 (ct d9).toNat) (ct d9) t9) (insF (sf d9) (insP (tf d9) t9 (ct d9).toNat) (ct d9) (64 * l9 + (8 * y9 + x9))) (insF (af d9) (insP (tf d9) t9 (ct d9).toNat) (ct d9) v9)) (dvN d9) (oO 1 [vI (ct d9 + 1), vI (ld d9), vR (dvN d9 + 1), vR (dvN d9 + 2), vR (dvN d9 + 3)]))) := by
  refine Ct.of (by decide) (Nat.le_of_ble_eq_true rfl) (fun x hg C F => ?_)
  subst hg
  obtain ⟨⟨df, hdf, hd1, hd2⟩, hda, hdb⟩ := id hD
  have hdn := hd1 d9 (by omega) (by omega)
  obtain ⟨e_0, e_1, e_2, e_3⟩ := hda d9 (by omega) (by omega)
  have hdi := dvN_in (i := d9) (by omega)
  show T x 0 [(0, vR 0), (1, vI d9), (2, vI t9), (3, vI l9), (4, vI x9), (5, vI y9), (6, vI v9)] [] h 0 0
  refine st_aload_n C 0 dX10_note_0 rfl rfl ?_
  refine st_iload_n C 1 dX10_note_1 rfl rfl ?_
  refine st_callV (st := []) C dX10_note_2 [vI d9] (k_knownDevice_t (rc := rc) (dc := dc) (ct := ct) (ld := ld) (tf := tf) (sf := sf) (af := af) (d9 := d9) hs hD hdc hV) hs w_X10_279 rfl (by decide) (by decide) (by omega) (by omega) (Nat.le_of_ble_eq_true rfl) (ko_rt ?_)
  show T x 5 [(0, vR 0), (1, vI d9), (2, vI t9), (3, vI l9), (4, vI x9), (5, vI y9), (6, vI v9)] [vR (dvN d9)] _ _ _
  refine st_astore C dX10_note_5 (by decide) rfl ?_
  show T x 7 [(0, vR 0), (1, vI d9), (2, vI t9), (3, vI l9), (4, vI x9), (5, vI y9), (6, vI v9), (7, vR (dvN d9))] [] _ _ _
  refine st_iload_n C 2 dX10_note_7 rfl rfl ?_
  refine st_sipush C dX10_note_8 (by decide) (by decide) ?_
  have b_11 : 0 ≤ t9 ∧ t9 ≤ 9999 := by omega
  refine st_callS (st := []) C dX10_note_11 [vI t9, vI 9999] (k_isWithin_t (v9 := t9) (m9 := 9999)  b_11) w_X10_118 rfl (by decide) (by decide) (by omega) (by omega) (Nat.le_of_ble_eq_true rfl) (ko_rt ?_)
  show T x 14 [(0, vR 0), (1, vI d9), (2, vI t9), (3, vI l9), (4, vI x9), (5, vI y9), (6, vI v9), (7, vR (dvN d9))] [vI 1] _ _ _
  refine st_if_eq (tgt := 42) C dX10_note_14 (by decide) (fun c_14 => by omega) (fun c_14 => ?_)
  refine st_iload_n C 3 dX10_note_17 rfl rfl ?_
  refine st_iload C dX10_note_18 rfl ?_
  refine st_iload C dX10_note_20 rfl ?_
  have b_22 : 0 ≤ l9 ∧ l9 ≤ 2 ∧ 0 ≤ x9 ∧ x9 ≤ 7 ∧ 0 ≤ y9 ∧ y9 ≤ 7 := by omega
  refine st_callS (st := []) C dX10_note_22 [vI l9, vI x9, vI y9] (k_isPlace_t (v9 := l9) (x9 := x9) (y9 := y9)  b_22) w_X10_114 rfl (by decide) (by decide) (by omega) (by omega) (Nat.le_of_ble_eq_true rfl) (ko_rt ?_)
  show T x 25 [(0, vR 0), (1, vI d9), (2, vI t9), (3, vI l9), (4, vI x9), (5, vI y9), (6, vI v9), (7, vR (dvN d9))] [vI 1] _ _ _
  refine st_if_eq (tgt := 42) C dX10_note_25 (by decide) (fun c_25 => by omega) (fun c_25 => ?_)
  refine st_iload C dX10_note_28 rfl ?_
  refine st_bipush C dX10_note_30 (by decide) (by decide) ?_
  have b_32 : 0 ≤ v9 ∧ v9 ≤ 9 := by omega
  refine st_callS (st := []) C dX10_note_32 [vI v9, vI 9] (k_isWithin_t (v9 := v9) (m9 := 9)  b_32) w_X10_118 rfl (by decide) (by decide) (by omega) (by omega) (Nat.le_of_ble_eq_true rfl) (ko_rt ?_)
  show T x 35 [(0, vR 0), (1, vI d9), (2, vI t9), (3, vI l9), (4, vI x9), (5, vI y9), (6, vI v9), (7, vR (dvN d9))] [vI 1] _ _ _
  refine st_if_eq (tgt := 42) C dX10_note_35 (by decide) (fun c_35 => by omega) (fun c_35 => ?_)
  refine st_iconst C dX10_note_38 (by decide) ?_
  refine st_goto (tgt := 43) C dX10_note_39 (by decide) ?_
  refine st_callS (st := []) C dX10_note_43 [vI 1] k_need_t w_X10_81 rfl (by decide) (by decide) (by omega) (by omega) (Nat.le_of_ble_eq_true rfl) (ko_rn ?_)
  show T x 46 [(0, vR 0), (1, vI d9), (2, vI t9), (3, vI l9), (4, vI x9), (5, vI y9), (6, vI v9), (7, vR (dvN d9))] [] _ _ _
  refine st_aload C dX10_note_46 rfl ?_
  have b_48 : ¬ (20 ≤ ct d9) := by omega
  refine st_callV (st := []) C dX10_note_48 [] (k_dFull_f (ct := (ct d9)) e_0 (by omega)) e_0 w_X10_283 rfl (by decide) (by decide) (by omega) (by omega) (Nat.le_of_ble_eq_true rfl) (ko_rt ?_)
  show T x 51 [(0, vR 0), (1, vI d9), (2, vI t9), (3, vI l9), (4, vI x9), (5, vI y9), (6, vI v9), (7, vR (dvN d9))] [vI 0] _ _ _
  refine st_if_eq (tgt := 62) C dX10_note_51 (by decide) (fun c_51 => ?_) (fun c_51 => by omega)
  refine st_aload C dX10_note_62 rfl ?_
  refine st_iload_n C 2 dX10_note_64 rfl rfl ?_
  refine st_iload_n C 3 dX10_note_65 rfl rfl ?_
  refine st_bipush C dX10_note_66 (by decide) (by decide) ?_
  refine st_iload C dX10_note_68 rfl ?_
  refine st_imul C dX10_note_70 ⟨(by omega), (by omega)⟩ ?_
  refine st_iload C dX10_note_71 rfl ?_
  refine st_iadd C dX10_note_73 ⟨(by omega), (by omega)⟩ ?_
  refine st_callS (st := [vI t9, vR (dvN d9)]) C dX10_note_74 [vI l9, vI (8 * y9 + x9)] (k_areaSpot (l := l9) (p := (8 * y9 + x9)) (by omega) (by omega)) w_X10_122 rfl (by decide) (by decide) (by omega) (by omega) (Nat.le_of_ble_eq_true rfl) (ko_rt ?_)
  show T x 77 [(0, vR 0), (1, vI d9), (2, vI t9), (3, vI l9), (4, vI x9), (5, vI y9), (6, vI v9), (7, vR (dvN d9))] [vI (64 * l9 + (8 * y9 + x9)), vI t9, vR (dvN d9)] _ _ _
  refine st_iload C dX10_note_77 rfl ?_
  refine st_callV (st := []) C dX10_note_79 [vI t9, vI (64 * l9 + (8 * y9 + x9)), vI v9] (k_dAdd (d9 := dvN d9) (ct := ct d9) (ld := ld d9) (tf := tf d9) (sf := sf d9) (af := af d9) (t9 := t9) (s9 := 64 * l9 + (8 * y9 + x9)) (a9 := v9) e_0 e_1 e_2 e_3 (by omega)) e_0 w_X10_284 rfl (by decide) (by decide) (by omega) (by omega) (Nat.le_of_ble_eq_true rfl) (ko_rn ?_)
  show T x 82 [(0, vR 0), (1, vI d9), (2, vI t9), (3, vI l9), (4, vI x9), (5, vI y9), (6, vI v9), (7, vR (dvN d9))] [] _ _ _
  refine st_aload C dX10_note_82 rfl ?_
  refine st_getf C dX10_note_84 fl_X10_287 hput_s rfl ?_
  exact st_ireturn C F dX10_note_87 rfl (by first | exact ⟨rfl, rfl⟩ | (exfalso; omega)) (by omega) (by omega)
set_option maxRecDepth 20000 in
set_option maxHeartbeats 4000000 in
theorem s_note_x2 {g : Gx} {h : HP} {rc dc : Int} {ct ld : Int → Int} {tf sf af : Int → Int → Int} {d9 : Int} {t9 l9 x9 y9 v9 : Int} (hs : cS h rc dc) (hD : cD h dc ct ld tf sf af) (hdc : 0 ≤ dc ∧ dc ≤ 3) (hV : 0 ≤ d9 ∧ d9 < dc) (hQ : ¬ ((0 ≤ t9 ∧ t9 ≤ 9999) ∧ (0 ≤ l9 ∧ l9 ≤ 2 ∧ 0 ≤ x9 ∧ x9 ≤ 7 ∧ 0 ≤ y9 ∧ y9 ≤ 7) ∧ 0 ≤ v9 ∧ v9 ≤ 9)) : Ct g yX10_note (.code yX10_note cX10_note 8 (some .int)) 7 2 12 [vR 0, vI d9, vI t9, vI l9, vI x9, vI y9, vI v9] h (Th "java/lang/IllegalArgumentException" h) := by
  refine Ct.of (by decide) (Nat.le_of_ble_eq_true rfl) (fun x hg C F => ?_)
  subst hg
  obtain ⟨⟨df, hdf, hd1, hd2⟩, hda, hdb⟩ := id hD
  have hdn := hd1 d9 (by omega) (by omega)
  obtain ⟨e_0, e_1, e_2, e_3⟩ := hda d9 (by omega) (by omega)
  have hdi := dvN_in (i := d9) (by omega)
  show T x 0 [(0, vR 0), (1, vI d9), (2, vI t9), (3, vI l9), (4, vI x9), (5, vI y9), (6, vI v9)] [] h 0 0
  refine st_aload_n C 0 dX10_note_0 rfl rfl ?_
  refine st_iload_n C 1 dX10_note_1 rfl rfl ?_
  refine st_callV (st := []) C dX10_note_2 [vI d9] (k_knownDevice_t (rc := rc) (dc := dc) (ct := ct) (ld := ld) (tf := tf) (sf := sf) (af := af) (d9 := d9) hs hD hdc hV) hs w_X10_279 rfl (by decide) (by decide) (by omega) (by omega) (Nat.le_of_ble_eq_true rfl) (ko_rt ?_)
  show T x 5 [(0, vR 0), (1, vI d9), (2, vI t9), (3, vI l9), (4, vI x9), (5, vI y9), (6, vI v9)] [vR (dvN d9)] _ _ _
  refine st_astore C dX10_note_5 (by decide) rfl ?_
  show T x 7 [(0, vR 0), (1, vI d9), (2, vI t9), (3, vI l9), (4, vI x9), (5, vI y9), (6, vI v9), (7, vR (dvN d9))] [] _ _ _
  refine st_iload_n C 2 dX10_note_7 rfl rfl ?_
  refine st_sipush C dX10_note_8 (by decide) (by decide) ?_
  by_cases b_11 : 0 ≤ t9 ∧ t9 ≤ 9999
  · refine st_callS (st := []) C dX10_note_11 [vI t9, vI 9999] (k_isWithin_t (v9 := t9) (m9 := 9999)  b_11) w_X10_118 rfl (by decide) (by decide) (by omega) (by omega) (Nat.le_of_ble_eq_true rfl) (ko_rt ?_)
    show T x 14 [(0, vR 0), (1, vI d9), (2, vI t9), (3, vI l9), (4, vI x9), (5, vI y9), (6, vI v9), (7, vR (dvN d9))] [vI 1] _ _ _
    refine st_if_eq (tgt := 42) C dX10_note_14 (by decide) (fun c_14 => by omega) (fun c_14 => ?_)
    refine st_iload_n C 3 dX10_note_17 rfl rfl ?_
    refine st_iload C dX10_note_18 rfl ?_
    refine st_iload C dX10_note_20 rfl ?_
    by_cases b_22 : 0 ≤ l9 ∧ l9 ≤ 2 ∧ 0 ≤ x9 ∧ x9 ≤ 7 ∧ 0 ≤ y9 ∧ y9 ≤ 7
    · refine st_callS (st := []) C dX10_note_22 [vI l9, vI x9, vI y9] (k_isPlace_t (v9 := l9) (x9 := x9) (y9 := y9)  b_22) w_X10_114 rfl (by decide) (by decide) (by omega) (by omega) (Nat.le_of_ble_eq_true rfl) (ko_rt ?_)
      show T x 25 [(0, vR 0), (1, vI d9), (2, vI t9), (3, vI l9), (4, vI x9), (5, vI y9), (6, vI v9), (7, vR (dvN d9))] [vI 1] _ _ _
      refine st_if_eq (tgt := 42) C dX10_note_25 (by decide) (fun c_25 => by omega) (fun c_25 => ?_)
      refine st_iload C dX10_note_28 rfl ?_
      refine st_bipush C dX10_note_30 (by decide) (by decide) ?_
      by_cases b_32 : 0 ≤ v9 ∧ v9 ≤ 9
      · refine st_callS (st := []) C dX10_note_32 [vI v9, vI 9] (k_isWithin_t (v9 := v9) (m9 := 9)  b_32) w_X10_118 rfl (by decide) (by decide) (by omega) (by omega) (Nat.le_of_ble_eq_true rfl) (ko_rt ?_)
        show T x 35 [(0, vR 0), (1, vI d9), (2, vI t9), (3, vI l9), (4, vI x9), (5, vI y9), (6, vI v9), (7, vR (dvN d9))] [vI 1] _ _ _
        refine st_if_eq (tgt := 42) C dX10_note_35 (by decide) (fun c_35 => by omega) (fun c_35 => ?_)
        refine st_iconst C dX10_note_38 (by decide) ?_
        refine st_goto (tgt := 43) C dX10_note_39 (by decide) ?_
        exact absurd (by first | exact ⟨by assumption, by assumption, by assumption⟩ | exact ⟨by assumption, by assumption⟩) hQ
      · refine st_callS (st := []) C dX10_note_32 [vI v9, vI 9] (k_isWithin_f (v9 := v9) (m9 := 9)  b_32) w_X10_118 rfl (by decide) (by decide) (by omega) (by omega) (Nat.le_of_ble_eq_true rfl) (ko_rt ?_)
        show T x 35 [(0, vR 0), (1, vI d9), (2, vI t9), (3, vI l9), (4, vI x9), (5, vI y9), (6, vI v9), (7, vR (dvN d9))] [vI 0] _ _ _
        refine st_if_eq (tgt := 42) C dX10_note_35 (by decide) (fun c_35 => ?_) (fun c_35 => by omega)
        refine st_iconst C dX10_note_42 (by decide) ?_
        refine st_callS (st := []) C dX10_note_43 [vI 0] k_need_f w_X10_81 rfl (by decide) (by decide) (by omega) (by omega) (Nat.le_of_ble_eq_true rfl) (ko_th ?_)
        exact st_out C F (by first | exact ⟨rfl, rfl⟩ | (exfalso; omega) | exact absurd (by assumption) hQ | exact absurd hQ (by assumption)) (by omega) (by omega)
    · refine st_callS (st := []) C dX10_note_22 [vI l9, vI x9, vI y9] (k_isPlace_f (v9 := l9) (x9 := x9) (y9 := y9)  b_22) w_X10_114 rfl (by decide) (by decide) (by omega) (by omega) (Nat.le_of_ble_eq_true rfl) (ko_rt ?_)
      show T x 25 [(0, vR 0), (1, vI d9), (2, vI t9), (3, vI l9), (4, vI x9), (5, vI y9), (6, vI v9), (7, vR (dvN d9))] [vI 0] _ _ _
      refine st_if_eq (tgt := 42) C dX10_note_25 (by decide) (fun c_25 => ?_) (fun c_25 => by omega)
      refine st_iconst C dX10_note_42 (by decide) ?_
      refine st_callS (st := []) C dX10_note_43 [vI 0] k_need_f w_X10_81 rfl (by decide) (by decide) (by omega) (by omega) (Nat.le_of_ble_eq_true rfl) (ko_th ?_)
      exact st_out C F (by first | exact ⟨rfl, rfl⟩ | (exfalso; omega) | exact absurd (by assumption) hQ | exact absurd hQ (by assumption)) (by omega) (by omega)
  · refine st_callS (st := []) C dX10_note_11 [vI t9, vI 9999] (k_isWithin_f (v9 := t9) (m9 := 9999)  b_11) w_X10_118 rfl (by decide) (by decide) (by omega) (by omega) (Nat.le_of_ble_eq_true rfl) (ko_rt ?_)
    show T x 14 [(0, vR 0), (1, vI d9), (2, vI t9), (3, vI l9), (4, vI x9), (5, vI y9), (6, vI v9), (7, vR (dvN d9))] [vI 0] _ _ _
    refine st_if_eq (tgt := 42) C dX10_note_14 (by decide) (fun c_14 => ?_) (fun c_14 => by omega)
    refine st_iconst C dX10_note_42 (by decide) ?_
    refine st_callS (st := []) C dX10_note_43 [vI 0] k_need_f w_X10_81 rfl (by decide) (by decide) (by omega) (by omega) (Nat.le_of_ble_eq_true rfl) (ko_th ?_)
    exact st_out C F (by first | exact ⟨rfl, rfl⟩ | (exfalso; omega) | exact absurd (by assumption) hQ | exact absurd hQ (by assumption)) (by omega) (by omega)
set_option maxRecDepth 20000 in
set_option maxHeartbeats 4000000 in
theorem s_home_x1d {g : Gx} {h : HP} {rc dc : Int} {ct ld : Int → Int} {tf sf af : Int → Int → Int} {d9 : Int} {op : Int → Int} {bs ed co no : Int → Int → Int} {n9 o9 r9 : Int} (hs : cS h rc dc) (hD : cD h dc ct ld tf sf af) (hdc : 0 ≤ dc ∧ dc ≤ 3) (hV : ¬ (0 ≤ d9 ∧ d9 < dc)) (hB : cB h op bs ed co no) : Ct g yX10_home (.code yX10_home cX10_home 7 (some .int)) 7 2 12 [vR 0, vI d9, vI n9, vI o9, vI r9] h (Th "java/lang/IndexOutOfBoundsException" h) := by
  refine Ct.of (by decide) (Nat.le_of_ble_eq_true rfl) (fun x hg C F => ?_)
  subst hg
  obtain ⟨⟨df, hdf, hd1, hd2⟩, hda, hdb⟩ := id hD
  obtain ⟨bf, hbf, hbr⟩ := id hB
  show T x 0 [(0, vR 0), (1, vI d9), (2, vI n9), (3, vI o9), (4, vI r9)] [] h 0 0
  refine st_aload_n C 0 dX10_home_0 rfl rfl ?_
  refine st_iload_n C 1 dX10_home_1 rfl rfl ?_
  refine st_callV (st := []) C dX10_home_2 [vI d9] (k_knownDevice_f (rc := rc) (dc := dc) (ct := ct) (ld := ld) (tf := tf) (sf := sf) (af := af) (d9 := d9) hs hD hdc hV) hs w_X10_279 rfl (by decide) (by decide) (by omega) (by omega) (Nat.le_of_ble_eq_true rfl) (ko_th ?_)
  exact st_out C F (by first | exact ⟨rfl, rfl⟩ | (exfalso; omega) | exact absurd (by assumption) hQ | exact absurd hQ (by assumption)) (by omega) (by omega)
set_option maxRecDepth 20000 in
set_option maxHeartbeats 4000000 in
theorem s_home_x1b {g : Gx} {h : HP} {rc dc : Int} {ct ld : Int → Int} {tf sf af : Int → Int → Int} {d9 : Int} {op : Int → Int} {bs ed co no : Int → Int → Int} {n9 o9 r9 : Int} (hs : cS h rc dc) (hD : cD h dc ct ld tf sf af) (hdc : 0 ≤ dc ∧ dc ≤ 3) (hV : 0 ≤ d9 ∧ d9 < dc) (hB : cB h op bs ed co no) (hO : ¬ (0 ≤ n9 ∧ n9 ≤ 3 ∧ op n9 = 1)) : Ct g yX10_home (.code yX10_home cX10_home 7 (some .int)) 7 2 12 [vR 0, vI d9, vI n9, vI o9, vI r9] h (Th "java/lang/IndexOutOfBoundsException" h) := by
  refine Ct.of (by decide) (Nat.le_of_ble_eq_true rfl) (fun x hg C F => ?_)
  subst hg
  obtain ⟨⟨df, hdf, hd1, hd2⟩, hda, hdb⟩ := id hD
  have hdn := hd1 d9 (by omega) (by omega)
  obtain ⟨e_0, e_1, e_2, e_3⟩ := hda d9 (by omega) (by omega)
  have hdi := dvN_in (i := d9) (by omega)
  obtain ⟨bf, hbf, hbr⟩ := id hB
  show T x 0 [(0, vR 0), (1, vI d9), (2, vI n9), (3, vI o9), (4, vI r9)] [] h 0 0
  refine st_aload_n C 0 dX10_home_0 rfl rfl ?_
  refine st_iload_n C 1 dX10_home_1 rfl rfl ?_
  refine st_callV (st := []) C dX10_home_2 [vI d9] (k_knownDevice_t (rc := rc) (dc := dc) (ct := ct) (ld := ld) (tf := tf) (sf := sf) (af := af) (d9 := d9) hs hD hdc hV) hs w_X10_279 rfl (by decide) (by decide) (by omega) (by omega) (Nat.le_of_ble_eq_true rfl) (ko_rt ?_)
  show T x 5 [(0, vR 0), (1, vI d9), (2, vI n9), (3, vI o9), (4, vI r9)] [vR (dvN d9)] _ _ _
  refine st_astore C dX10_home_5 (by decide) rfl ?_
  show T x 7 [(0, vR 0), (1, vI d9), (2, vI n9), (3, vI o9), (4, vI r9), (5, vR (dvN d9))] [] _ _ _
  refine st_aload_n C 0 dX10_home_7 rfl rfl ?_
  refine st_iload_n C 2 dX10_home_8 rfl rfl ?_
  refine st_callV (st := []) C dX10_home_9 [vI n9] (k_openBranch_f (rc := rc) (dc := dc) (op := op) (bs := bs) (ed := ed) (co := co) (no := no) (n9 := n9) hs hB hO) hs w_X10_106 rfl (by decide) (by decide) (by omega) (by omega) (Nat.le_of_ble_eq_true rfl) (ko_th ?_)
  exact st_out C F (by first | exact ⟨rfl, rfl⟩ | (exfalso; omega) | exact absurd (by assumption) hQ | exact absurd hQ (by assumption)) (by omega) (by omega)
set_option maxRecDepth 20000 in
set_option maxHeartbeats 4000000 in
theorem s_home_x2 {g : Gx} {h : HP} {rc dc : Int} {ct ld : Int → Int} {tf sf af : Int → Int → Int} {d9 : Int} {op : Int → Int} {bs ed co no : Int → Int → Int} {n9 o9 r9 : Int} (hs : cS h rc dc) (hD : cD h dc ct ld tf sf af) (hdc : 0 ≤ dc ∧ dc ≤ 3) (hV : 0 ≤ d9 ∧ d9 < dc) (hB : cB h op bs ed co no) (hO : 0 ≤ n9 ∧ n9 ≤ 3 ∧ op n9 = 1) (hQ : ¬ ((0 ≤ o9 ∧ o9 ≤ 9999) ∧ 0 ≤ r9 ∧ r9 ≤ 9999)) : Ct g yX10_home (.code yX10_home cX10_home 7 (some .int)) 7 2 12 [vR 0, vI d9, vI n9, vI o9, vI r9] h (Th "java/lang/IllegalArgumentException" h) := by
  refine Ct.of (by decide) (Nat.le_of_ble_eq_true rfl) (fun x hg C F => ?_)
  subst hg
  obtain ⟨⟨df, hdf, hd1, hd2⟩, hda, hdb⟩ := id hD
  have hdn := hd1 d9 (by omega) (by omega)
  obtain ⟨e_0, e_1, e_2, e_3⟩ := hda d9 (by omega) (by omega)
  have hdi := dvN_in (i := d9) (by omega)
  obtain ⟨bf, hbf, hbr⟩ := id hB
  obtain ⟨hbn, h_0, h_1, h_2, h_3, h_4, hop⟩ := hbr n9 (by omega) (by omega)
  have hbi := brN_in (i := n9) (by omega)
  show T x 0 [(0, vR 0), (1, vI d9), (2, vI n9), (3, vI o9), (4, vI r9)] [] h 0 0
  refine st_aload_n C 0 dX10_home_0 rfl rfl ?_
  refine st_iload_n C 1 dX10_home_1 rfl rfl ?_
  refine st_callV (st := []) C dX10_home_2 [vI d9] (k_knownDevice_t (rc := rc) (dc := dc) (ct := ct) (ld := ld) (tf := tf) (sf := sf) (af := af) (d9 := d9) hs hD hdc hV) hs w_X10_279 rfl (by decide) (by decide) (by omega) (by omega) (Nat.le_of_ble_eq_true rfl) (ko_rt ?_)
  show T x 5 [(0, vR 0), (1, vI d9), (2, vI n9), (3, vI o9), (4, vI r9)] [vR (dvN d9)] _ _ _
  refine st_astore C dX10_home_5 (by decide) rfl ?_
  show T x 7 [(0, vR 0), (1, vI d9), (2, vI n9), (3, vI o9), (4, vI r9), (5, vR (dvN d9))] [] _ _ _
  refine st_aload_n C 0 dX10_home_7 rfl rfl ?_
  refine st_iload_n C 2 dX10_home_8 rfl rfl ?_
  refine st_callV (st := []) C dX10_home_9 [vI n9] (k_openBranch_t (rc := rc) (dc := dc) (op := op) (bs := bs) (ed := ed) (co := co) (no := no) (n9 := n9) hs hB hO) hs w_X10_106 rfl (by decide) (by decide) (by omega) (by omega) (Nat.le_of_ble_eq_true rfl) (ko_rt ?_)
  show T x 12 [(0, vR 0), (1, vI d9), (2, vI n9), (3, vI o9), (4, vI r9), (5, vR (dvN d9))] [vR (brN n9)] _ _ _
  refine st_astore C dX10_home_12 (by decide) rfl ?_
  show T x 14 [(0, vR 0), (1, vI d9), (2, vI n9), (3, vI o9), (4, vI r9), (5, vR (dvN d9)), (6, vR (brN n9))] [] _ _ _
  refine st_iload_n C 3 dX10_home_14 rfl rfl ?_
  refine st_sipush C dX10_home_15 (by decide) (by decide) ?_
  by_cases b_18 : 0 ≤ o9 ∧ o9 ≤ 9999
  · refine st_callS (st := []) C dX10_home_18 [vI o9, vI 9999] (k_isWithin_t (v9 := o9) (m9 := 9999)  b_18) w_X10_118 rfl (by decide) (by decide) (by omega) (by omega) (Nat.le_of_ble_eq_true rfl) (ko_rt ?_)
    show T x 21 [(0, vR 0), (1, vI d9), (2, vI n9), (3, vI o9), (4, vI r9), (5, vR (dvN d9)), (6, vR (brN n9))] [vI 1] _ _ _
    refine st_if_eq (tgt := 39) C dX10_home_21 (by decide) (fun c_21 => by omega) (fun c_21 => ?_)
    refine st_iload C dX10_home_24 rfl ?_
    refine st_sipush C dX10_home_26 (by decide) (by decide) ?_
    by_cases b_29 : 0 ≤ r9 ∧ r9 ≤ 9999
    · refine st_callS (st := []) C dX10_home_29 [vI r9, vI 9999] (k_isWithin_t (v9 := r9) (m9 := 9999)  b_29) w_X10_118 rfl (by decide) (by decide) (by omega) (by omega) (Nat.le_of_ble_eq_true rfl) (ko_rt ?_)
      show T x 32 [(0, vR 0), (1, vI d9), (2, vI n9), (3, vI o9), (4, vI r9), (5, vR (dvN d9)), (6, vR (brN n9))] [vI 1] _ _ _
      refine st_if_eq (tgt := 39) C dX10_home_32 (by decide) (fun c_32 => by omega) (fun c_32 => ?_)
      refine st_iconst C dX10_home_35 (by decide) ?_
      refine st_goto (tgt := 40) C dX10_home_36 (by decide) ?_
      exact absurd (by first | exact ⟨by assumption, by assumption, by assumption⟩ | exact ⟨by assumption, by assumption⟩) hQ
    · refine st_callS (st := []) C dX10_home_29 [vI r9, vI 9999] (k_isWithin_f (v9 := r9) (m9 := 9999)  b_29) w_X10_118 rfl (by decide) (by decide) (by omega) (by omega) (Nat.le_of_ble_eq_true rfl) (ko_rt ?_)
      show T x 32 [(0, vR 0), (1, vI d9), (2, vI n9), (3, vI o9), (4, vI r9), (5, vR (dvN d9)), (6, vR (brN n9))] [vI 0] _ _ _
      refine st_if_eq (tgt := 39) C dX10_home_32 (by decide) (fun c_32 => ?_) (fun c_32 => by omega)
      refine st_iconst C dX10_home_39 (by decide) ?_
      refine st_callS (st := []) C dX10_home_40 [vI 0] k_need_f w_X10_81 rfl (by decide) (by decide) (by omega) (by omega) (Nat.le_of_ble_eq_true rfl) (ko_th ?_)
      exact st_out C F (by first | exact ⟨rfl, rfl⟩ | (exfalso; omega) | exact absurd (by assumption) hQ | exact absurd hQ (by assumption)) (by omega) (by omega)
  · refine st_callS (st := []) C dX10_home_18 [vI o9, vI 9999] (k_isWithin_f (v9 := o9) (m9 := 9999)  b_18) w_X10_118 rfl (by decide) (by decide) (by omega) (by omega) (Nat.le_of_ble_eq_true rfl) (ko_rt ?_)
    show T x 21 [(0, vR 0), (1, vI d9), (2, vI n9), (3, vI o9), (4, vI r9), (5, vR (dvN d9)), (6, vR (brN n9))] [vI 0] _ _ _
    refine st_if_eq (tgt := 39) C dX10_home_21 (by decide) (fun c_21 => ?_) (fun c_21 => by omega)
    refine st_iconst C dX10_home_39 (by decide) ?_
    refine st_callS (st := []) C dX10_home_40 [vI 0] k_need_f w_X10_81 rfl (by decide) (by decide) (by omega) (by omega) (Nat.le_of_ble_eq_true rfl) (ko_th ?_)
    exact st_out C F (by first | exact ⟨rfl, rfl⟩ | (exfalso; omega) | exact absurd (by assumption) hQ | exact absurd hQ (by assumption)) (by omega) (by omega)
set_option maxRecDepth 20000 in
set_option maxHeartbeats 4000000 in
theorem s_home {g : Gx} {h : HP} {rc dc : Int} {ct ld : Int → Int} {tf sf af : Int → Int → Int} {d9 : Int} {op : Int → Int} {bs ed co no : Int → Int → Int} {n9 o9 r9 : Int} (hs : cS h rc dc) (hD : cD h dc ct ld tf sf af) (hdc : 0 ≤ dc ∧ dc ≤ 3) (hV : 0 ≤ d9 ∧ d9 < dc) (hB : cB h op bs ed co no) (hO : 0 ≤ n9 ∧ n9 ≤ 3 ∧ op n9 = 1) (hQ : (0 ≤ o9 ∧ o9 ≤ 9999) ∧ 0 ≤ r9 ∧ r9 ≤ 9999) (hct : 0 ≤ ct d9 ∧ ct d9 ≤ 20) (htt : ∀ j, 0 ≤ j → j < ct d9 → -10000 ≤ tf d9 j ∧ tf d9 j ≤ 10000) (hsp : ∀ j, 0 ≤ j → j < ct d9 → 0 ≤ sf d9 j ∧ sf d9 j ≤ 303) : Ct g yX10_home (.code yX10_home cX10_home 7 (some .int)) 7 2 12 [vR 0, vI d9, vI n9, vI o9, vI r9] h (Rt (some (vI ((brS (tf d9) (sf d9) (af d9) (bs n9) (ed n9) (co n9) (no n9) (o9 - r9) (ct d9).toNat).2.2.2))) (hput (br3 (hput h (dvN d9) (oO 1 [vI (ct d9), vI (o9 - r9), vR (dvN d9 + 1), vR (dvN d9 + 2), vR (dvN d9 + 3)])) (brN n9) (brS (tf d9) (sf d9) (af d9) (bs n9) (ed n9) (co n9) (no n9) (o9 - r9) (ct d9).toNat)) (dvN d9) (oO 1 [vI 0, vI (o9 - r9), vR (dvN d9 + 1), vR (dvN d9 + 2), vR (dvN d9 + 3)]))) := by
  refine Ct.of (by decide) (Nat.le_of_ble_eq_true rfl) (fun x hg C F => ?_)
  subst hg
  obtain ⟨⟨df, hdf, hd1, hd2⟩, hda, hdb⟩ := id hD
  have hdn := hd1 d9 (by omega) (by omega)
  obtain ⟨e_0, e_1, e_2, e_3⟩ := hda d9 (by omega) (by omega)
  have hdi := dvN_in (i := d9) (by omega)
  obtain ⟨bf, hbf, hbr⟩ := id hB
  obtain ⟨hbn, h_0, h_1, h_2, h_3, h_4, hop⟩ := hbr n9 (by omega) (by omega)
  have hbi := brN_in (i := n9) (by omega)
  show T x 0 [(0, vR 0), (1, vI d9), (2, vI n9), (3, vI o9), (4, vI r9)] [] h 0 0
  refine st_aload_n C 0 dX10_home_0 rfl rfl ?_
  refine st_iload_n C 1 dX10_home_1 rfl rfl ?_
  refine st_callV (st := []) C dX10_home_2 [vI d9] (k_knownDevice_t (rc := rc) (dc := dc) (ct := ct) (ld := ld) (tf := tf) (sf := sf) (af := af) (d9 := d9) hs hD hdc hV) hs w_X10_279 rfl (by decide) (by decide) (by omega) (by omega) (Nat.le_of_ble_eq_true rfl) (ko_rt ?_)
  show T x 5 [(0, vR 0), (1, vI d9), (2, vI n9), (3, vI o9), (4, vI r9)] [vR (dvN d9)] _ _ _
  refine st_astore C dX10_home_5 (by decide) rfl ?_
  show T x 7 [(0, vR 0), (1, vI d9), (2, vI n9), (3, vI o9), (4, vI r9), (5, vR (dvN d9))] [] _ _ _
  refine st_aload_n C 0 dX10_home_7 rfl rfl ?_
  refine st_iload_n C 2 dX10_home_8 rfl rfl ?_
  refine st_callV (st := []) C dX10_home_9 [vI n9] (k_openBranch_t (rc := rc) (dc := dc) (op := op) (bs := bs) (ed := ed) (co := co) (no := no) (n9 := n9) hs hB hO) hs w_X10_106 rfl (by decide) (by decide) (by omega) (by omega) (Nat.le_of_ble_eq_true rfl) (ko_rt ?_)
  show T x 12 [(0, vR 0), (1, vI d9), (2, vI n9), (3, vI o9), (4, vI r9), (5, vR (dvN d9))] [vR (brN n9)] _ _ _
  refine st_astore C dX10_home_12 (by decide) rfl ?_
  show T x 14 [(0, vR 0), (1, vI d9), (2, vI n9), (3, vI o9), (4, vI r9), (5, vR (dvN d9)), (6, vR (brN n9))] [] _ _ _
  refine st_iload_n C 3 dX10_home_14 rfl rfl ?_
  refine st_sipush C dX10_home_15 (by decide) (by decide) ?_
  have b_18 : 0 ≤ o9 ∧ o9 ≤ 9999 := by omega
  refine st_callS (st := []) C dX10_home_18 [vI o9, vI 9999] (k_isWithin_t (v9 := o9) (m9 := 9999)  b_18) w_X10_118 rfl (by decide) (by decide) (by omega) (by omega) (Nat.le_of_ble_eq_true rfl) (ko_rt ?_)
  show T x 21 [(0, vR 0), (1, vI d9), (2, vI n9), (3, vI o9), (4, vI r9), (5, vR (dvN d9)), (6, vR (brN n9))] [vI 1] _ _ _
  refine st_if_eq (tgt := 39) C dX10_home_21 (by decide) (fun c_21 => by omega) (fun c_21 => ?_)
  refine st_iload C dX10_home_24 rfl ?_
  refine st_sipush C dX10_home_26 (by decide) (by decide) ?_
  have b_29 : 0 ≤ r9 ∧ r9 ≤ 9999 := by omega
  refine st_callS (st := []) C dX10_home_29 [vI r9, vI 9999] (k_isWithin_t (v9 := r9) (m9 := 9999)  b_29) w_X10_118 rfl (by decide) (by decide) (by omega) (by omega) (Nat.le_of_ble_eq_true rfl) (ko_rt ?_)
  show T x 32 [(0, vR 0), (1, vI d9), (2, vI n9), (3, vI o9), (4, vI r9), (5, vR (dvN d9)), (6, vR (brN n9))] [vI 1] _ _ _
  refine st_if_eq (tgt := 39) C dX10_home_32 (by decide) (fun c_32 => by omega) (fun c_32 => ?_)
  refine st_iconst C dX10_home_35 (by decide) ?_
  refine st_goto (tgt := 40) C dX10_home_36 (by decide) ?_
  refine st_callS (st := []) C dX10_home_40 [vI 1] k_need_t w_X10_81 rfl (by decide) (by decide) (by omega) (by omega) (Nat.le_of_ble_eq_true rfl) (ko_rn ?_)
  show T x 43 [(0, vR 0), (1, vI d9), (2, vI n9), (3, vI o9), (4, vI r9), (5, vR (dvN d9)), (6, vR (brN n9))] [] _ _ _
  refine st_aload C dX10_home_43 rfl ?_
  refine st_aload C dX10_home_45 rfl ?_
  refine st_iload_n C 3 dX10_home_47 rfl rfl ?_
  refine st_iload C dX10_home_48 rfl ?_
  refine st_isub C dX10_home_50 ⟨(by omega), (by omega)⟩ ?_
  refine st_callV (st := []) C dX10_home_51 [vR (brN n9), vI (o9 - r9)] (k_bringTo (d9 := dvN d9) (ct := ct d9) (ld := ld d9) (tf := tf d9) (sf := sf d9) (af := af d9) (b := brN n9) (op := op n9) (bs := bs n9) (ed := ed n9) (co := co n9) (no := no n9) (l9 := o9 - r9) e_0 e_1 e_2 e_3 h_0 h_1 h_2 h_3 h_4 hct (by omega) htt hsp (by omega)) e_0 w_X10_290 rfl (by decide) (by decide) (by omega) (by omega) (Nat.le_of_ble_eq_true rfl) (ko_rt ?_)
  show T x 54 [(0, vR 0), (1, vI d9), (2, vI n9), (3, vI o9), (4, vI r9), (5, vR (dvN d9)), (6, vR (brN n9))] [vI ((brS (tf d9) (sf d9) (af d9) (bs n9) (ed n9) (co n9) (no n9) (o9 - r9) (ct d9).toNat).2.2.2)] _ _ _
  exact st_ireturn C F dX10_home_54 rfl (by first | exact ⟨by with_reducible rfl, by with_reducible rfl⟩ | (exfalso; omega) | exact absurd (by assumption) hQ | exact absurd hQ (by assumption)) (by omega) (by omega)
/-- a side right of or below p, between a and b -/
def BordP (f : Int → Int) (l a b p d : Int) : Prop := besid p d ≠ -1 ∧ ((f (64 * l + p) = a ∧ f (64 * l + besid p d) = b) ∨ (f (64 * l + p) = b ∧ f (64 * l + besid p d) = a))
noncomputable def bordN (f : Int → Int) (l a b : Int) : Int := sum (fun p => cnt (BordP f l a b p) 2) 64
set_option maxRecDepth 20000 in
set_option maxHeartbeats 4000000 in
theorem s_border_x1 {g : Gx} {h : HP} {rc dc : Int} {mf : Int → Int} {l a9 b9 : Int} (hs : cS h rc dc) (hM : cM h mf) (hQ : ¬ ((0 ≤ l ∧ l ≤ 2) ∧ (0 ≤ a9 ∧ a9 ≤ 9) ∧ (0 ≤ b9 ∧ b9 ≤ 9) ∧ a9 ≠ b9)) : Ct g yX10_border (.code yX10_border cX10_border 10 (some .int)) 7 1 6 [vR 0, vI l, vI a9, vI b9] h (Th "java/lang/IllegalArgumentException" h) := by
  refine Ct.of (by decide) (Nat.le_of_ble_eq_true rfl) (fun x hg C F => ?_)
  subst hg
  show T x 0 [(0, vR 0), (1, vI l), (2, vI a9), (3, vI b9)] [] h 0 0
  refine st_iload_n C 1 dX10_border_0 rfl rfl ?_
  by_cases b_1 : 0 ≤ l ∧ l ≤ 2
  · refine st_callS (st := []) C dX10_border_1 [vI l] (k_isLayer_t (v9 := l)  b_1) w_X10_249 rfl (by decide) (by decide) (by omega) (by omega) (Nat.le_of_ble_eq_true rfl) (ko_rt ?_)
    show T x 4 [(0, vR 0), (1, vI l), (2, vI a9), (3, vI b9)] [vI 1] _ _ _
    refine st_if_eq (tgt := 34) C dX10_border_4 (by decide) (fun c_4 => by omega) (fun c_4 => ?_)
    refine st_iload_n C 2 dX10_border_7 rfl rfl ?_
    refine st_bipush C dX10_border_8 (by decide) (by decide) ?_
    by_cases b_10 : 0 ≤ a9 ∧ a9 ≤ 9
    · refine st_callS (st := []) C dX10_border_10 [vI a9, vI 9] (k_isWithin_t (v9 := a9) (m9 := 9)  b_10) w_X10_118 rfl (by decide) (by decide) (by omega) (by omega) (Nat.le_of_ble_eq_true rfl) (ko_rt ?_)
      show T x 13 [(0, vR 0), (1, vI l), (2, vI a9), (3, vI b9)] [vI 1] _ _ _
      refine st_if_eq (tgt := 34) C dX10_border_13 (by decide) (fun c_13 => by omega) (fun c_13 => ?_)
      refine st_iload_n C 3 dX10_border_16 rfl rfl ?_
      refine st_bipush C dX10_border_17 (by decide) (by decide) ?_
      by_cases b_19 : 0 ≤ b9 ∧ b9 ≤ 9
      · refine st_callS (st := []) C dX10_border_19 [vI b9, vI 9] (k_isWithin_t (v9 := b9) (m9 := 9)  b_19) w_X10_118 rfl (by decide) (by decide) (by omega) (by omega) (Nat.le_of_ble_eq_true rfl) (ko_rt ?_)
        show T x 22 [(0, vR 0), (1, vI l), (2, vI a9), (3, vI b9)] [vI 1] _ _ _
        refine st_if_eq (tgt := 34) C dX10_border_22 (by decide) (fun c_22 => by omega) (fun c_22 => ?_)
        refine st_iload_n C 2 dX10_border_25 rfl rfl ?_
        refine st_iload_n C 3 dX10_border_26 rfl rfl ?_
        refine st_icmp_eq (tgt := 34) C dX10_border_27 (by decide) (fun c_27 => ?_) (fun c_27 => ?_)
        · refine st_iconst C dX10_border_34 (by decide) ?_
          refine st_callS (st := []) C dX10_border_35 [vI 0] k_need_f w_X10_81 rfl (by decide) (by decide) (by omega) (by omega) (Nat.le_of_ble_eq_true rfl) (ko_th ?_)
          exact st_out C F (by first | exact ⟨rfl, rfl⟩ | (exfalso; omega) | exact absurd (by assumption) hQ | exact absurd hQ (by assumption)) (by omega) (by omega)
        · refine st_iconst C dX10_border_30 (by decide) ?_
          refine st_goto (tgt := 35) C dX10_border_31 (by decide) ?_
          exact absurd ⟨by assumption, by assumption, by assumption, by assumption⟩ hQ
      · refine st_callS (st := []) C dX10_border_19 [vI b9, vI 9] (k_isWithin_f (v9 := b9) (m9 := 9)  b_19) w_X10_118 rfl (by decide) (by decide) (by omega) (by omega) (Nat.le_of_ble_eq_true rfl) (ko_rt ?_)
        show T x 22 [(0, vR 0), (1, vI l), (2, vI a9), (3, vI b9)] [vI 0] _ _ _
        refine st_if_eq (tgt := 34) C dX10_border_22 (by decide) (fun c_22 => ?_) (fun c_22 => by omega)
        refine st_iconst C dX10_border_34 (by decide) ?_
        refine st_callS (st := []) C dX10_border_35 [vI 0] k_need_f w_X10_81 rfl (by decide) (by decide) (by omega) (by omega) (Nat.le_of_ble_eq_true rfl) (ko_th ?_)
        exact st_out C F (by first | exact ⟨rfl, rfl⟩ | (exfalso; omega) | exact absurd (by assumption) hQ | exact absurd hQ (by assumption)) (by omega) (by omega)
    · refine st_callS (st := []) C dX10_border_10 [vI a9, vI 9] (k_isWithin_f (v9 := a9) (m9 := 9)  b_10) w_X10_118 rfl (by decide) (by decide) (by omega) (by omega) (Nat.le_of_ble_eq_true rfl) (ko_rt ?_)
      show T x 13 [(0, vR 0), (1, vI l), (2, vI a9), (3, vI b9)] [vI 0] _ _ _
      refine st_if_eq (tgt := 34) C dX10_border_13 (by decide) (fun c_13 => ?_) (fun c_13 => by omega)
      refine st_iconst C dX10_border_34 (by decide) ?_
      refine st_callS (st := []) C dX10_border_35 [vI 0] k_need_f w_X10_81 rfl (by decide) (by decide) (by omega) (by omega) (Nat.le_of_ble_eq_true rfl) (ko_th ?_)
      exact st_out C F (by first | exact ⟨rfl, rfl⟩ | (exfalso; omega) | exact absurd (by assumption) hQ | exact absurd hQ (by assumption)) (by omega) (by omega)
  · refine st_callS (st := []) C dX10_border_1 [vI l] (k_isLayer_f (v9 := l)  b_1) w_X10_249 rfl (by decide) (by decide) (by omega) (by omega) (Nat.le_of_ble_eq_true rfl) (ko_rt ?_)
    show T x 4 [(0, vR 0), (1, vI l), (2, vI a9), (3, vI b9)] [vI 0] _ _ _
    refine st_if_eq (tgt := 34) C dX10_border_4 (by decide) (fun c_4 => ?_) (fun c_4 => by omega)
    refine st_iconst C dX10_border_34 (by decide) ?_
    refine st_callS (st := []) C dX10_border_35 [vI 0] k_need_f w_X10_81 rfl (by decide) (by decide) (by omega) (by omega) (Nat.le_of_ble_eq_true rfl) (ko_th ?_)
    exact st_out C F (by first | exact ⟨rfl, rfl⟩ | (exfalso; omega) | exact absurd (by assumption) hQ | exact absurd hQ (by assumption)) (by omega) (by omega)
set_option maxRecDepth 20000 in
set_option maxHeartbeats 4000000 in
theorem s_border {g : Gx} {h : HP} {rc dc : Int} {mf : Int → Int} {l a9 b9 : Int} (hs : cS h rc dc) (hM : cM h mf) (hQ : (0 ≤ l ∧ l ≤ 2) ∧ (0 ≤ a9 ∧ a9 ≤ 9) ∧ (0 ≤ b9 ∧ b9 ≤ 9) ∧ a9 ≠ b9) : Ct g yX10_border (.code yX10_border cX10_border 10 (some .int)) 7 1 6 [vR 0, vI l, vI a9, vI b9] h (Rt (some (vI (bordN mf l a9 b9))) h) := by
  refine Ct.of (by decide) (Nat.le_of_ble_eq_true rfl) (fun x hg C F => ?_)
  subst hg
  show T x 0 [(0, vR 0), (1, vI l), (2, vI a9), (3, vI b9)] [] h 0 0
  refine st_iload_n C 1 dX10_border_0 rfl rfl ?_
  have b_1 : 0 ≤ l ∧ l ≤ 2 := by omega
  refine st_callS (st := []) C dX10_border_1 [vI l] (k_isLayer_t (v9 := l)  b_1) w_X10_249 rfl (by decide) (by decide) (by omega) (by omega) (Nat.le_of_ble_eq_true rfl) (ko_rt ?_)
  show T x 4 [(0, vR 0), (1, vI l), (2, vI a9), (3, vI b9)] [vI 1] _ _ _
  refine st_if_eq (tgt := 34) C dX10_border_4 (by decide) (fun c_4 => by omega) (fun c_4 => ?_)
  refine st_iload_n C 2 dX10_border_7 rfl rfl ?_
  refine st_bipush C dX10_border_8 (by decide) (by decide) ?_
  have b_10 : 0 ≤ a9 ∧ a9 ≤ 9 := by omega
  refine st_callS (st := []) C dX10_border_10 [vI a9, vI 9] (k_isWithin_t (v9 := a9) (m9 := 9)  b_10) w_X10_118 rfl (by decide) (by decide) (by omega) (by omega) (Nat.le_of_ble_eq_true rfl) (ko_rt ?_)
  show T x 13 [(0, vR 0), (1, vI l), (2, vI a9), (3, vI b9)] [vI 1] _ _ _
  refine st_if_eq (tgt := 34) C dX10_border_13 (by decide) (fun c_13 => by omega) (fun c_13 => ?_)
  refine st_iload_n C 3 dX10_border_16 rfl rfl ?_
  refine st_bipush C dX10_border_17 (by decide) (by decide) ?_
  have b_19 : 0 ≤ b9 ∧ b9 ≤ 9 := by omega
  refine st_callS (st := []) C dX10_border_19 [vI b9, vI 9] (k_isWithin_t (v9 := b9) (m9 := 9)  b_19) w_X10_118 rfl (by decide) (by decide) (by omega) (by omega) (Nat.le_of_ble_eq_true rfl) (ko_rt ?_)
  show T x 22 [(0, vR 0), (1, vI l), (2, vI a9), (3, vI b9)] [vI 1] _ _ _
  refine st_if_eq (tgt := 34) C dX10_border_22 (by decide) (fun c_22 => by omega) (fun c_22 => ?_)
  refine st_iload_n C 2 dX10_border_25 rfl rfl ?_
  refine st_iload_n C 3 dX10_border_26 rfl rfl ?_
  refine st_icmp_eq (tgt := 34) C dX10_border_27 (by decide) (fun c_27 => ?_) (fun c_27 => ?_)
  · refine st_iconst C dX10_border_34 (by decide) ?_
    refine st_callS (st := []) C dX10_border_35 [vI 0] k_need_f w_X10_81 rfl (by decide) (by decide) (by omega) (by omega) (Nat.le_of_ble_eq_true rfl) (ko_th ?_)
    exact st_out C F (by first | exact rt_i (sumE h4 (by omega)) rfl | (exfalso; omega)) (by omega) (by omega)
  · refine st_iconst C dX10_border_30 (by decide) ?_
    refine st_goto (tgt := 35) C dX10_border_31 (by decide) ?_
    refine st_callS (st := []) C dX10_border_35 [vI 1] k_need_t w_X10_81 rfl (by decide) (by decide) (by omega) (by omega) (Nat.le_of_ble_eq_true rfl) (ko_rn ?_)
    show T x 38 [(0, vR 0), (1, vI l), (2, vI a9), (3, vI b9)] [] _ _ _
    refine st_iconst C dX10_border_38 (by decide) ?_
    refine st_istore C dX10_border_39 (by decide) rfl ?_
    show T x 41 [(0, vR 0), (1, vI l), (2, vI a9), (3, vI b9), (4, vI 0)] [] _ _ _
    refine st_iconst C dX10_border_41 (by decide) ?_
    refine st_istore C dX10_border_42 (by decide) rfl ?_
    show T x 44 [(0, vR 0), (1, vI l), (2, vI a9), (3, vI b9), (4, vI 0), (5, vI 0)] [] _ _ _
    have loop_44 : ∀ (n_44 : Nat) (c1 : Int) (p1 : Int), (0 ≤ p1) → (p1 ≤ 64) → (0 ≤ c1 ∧ c1 ≤ 2 * p1) → (c1 = sum (fun p => cnt (BordP mf l a9 b9 p) 2) p1) → (64 - p1).toNat < n_44 → T x 44 [(0, vR 0), (1, vI l), (2, vI a9), (3, vI b9), (4, vI c1), (5, vI p1)] [] h 0 0 := by
      intro n_44
      induction n_44 with
      | zero => intro c1 p1 h1 h2 h3 h4 hm_44; exact absurd hm_44 (Nat.not_lt_zero _)
      | succ n_44 ih_44 =>
        intro c1 p1 h1 h2 h3 h4 hm_44
        refine st_iload C dX10_border_44 rfl ?_
        refine st_bipush C dX10_border_46 (by decide) (by decide) ?_
        refine st_icmp_ge (tgt := 142) C dX10_border_48 (by decide) (fun c_48 => ?_) (fun c_48 => ?_)
        · refine st_iload C dX10_border_142 rfl ?_
          exact st_ireturn C F dX10_border_144 rfl (by first | exact rt_i (sumE h4 (by omega)) rfl | (exfalso; omega)) (by omega) (by omega)
        · refine st_aload_n C 0 dX10_border_51 rfl rfl ?_
          refine st_getf C dX10_border_52 fl_X10_9 hs rfl ?_
          refine st_iload_n C 1 dX10_border_55 rfl rfl ?_
          refine st_iload C dX10_border_56 rfl ?_
          refine st_callS (st := []) C dX10_border_58 [vR 1, vI l, vI p1] (k_areaAt (f := mf) (l := l) (p := p1) hM (by omega) (by omega)) w_X10_255 rfl (by decide) (by decide) (by omega) (by omega) (Nat.le_of_ble_eq_true rfl) (ko_rt ?_)
          show T x 61 [(0, vR 0), (1, vI l), (2, vI a9), (3, vI b9), (4, vI c1), (5, vI p1)] [vI (mf (64 * l + p1))] _ _ _
          refine st_istore C dX10_border_61 (by decide) rfl ?_
          show T x 63 [(0, vR 0), (1, vI l), (2, vI a9), (3, vI b9), (4, vI c1), (5, vI p1), (6, vI (mf (64 * l + p1)))] [] _ _ _
          refine st_iconst C dX10_border_63 (by decide) ?_
          refine st_istore C dX10_border_64 (by decide) rfl ?_
          show T x 66 [(0, vR 0), (1, vI l), (2, vI a9), (3, vI b9), (4, vI c1), (5, vI p1), (6, vI (mf (64 * l + p1))), (7, vI 0)] [] _ _ _
          have loop_66 : ∀ (n_66 : Nat) (c2 : Int) (d1 : Int), (0 ≤ d1) → (d1 ≤ 2) → (0 ≤ c2 ∧ c2 ≤ 2 * p1 + d1) → (c2 = sum (fun p => cnt (BordP mf l a9 b9 p) 2) p1 + cnt (BordP mf l a9 b9 p1) d1) → (2 - d1).toNat < n_66 → T x 66 [(0, vR 0), (1, vI l), (2, vI a9), (3, vI b9), (4, vI c2), (5, vI p1), (6, vI (mf (64 * l + p1))), (7, vI d1)] [] h 0 0 := by
            intro n_66
            induction n_66 with
            | zero => intro c2 d1 h5 h6 h7 h8 hm_66; exact absurd hm_66 (Nat.not_lt_zero _)
            | succ n_66 ih_66 =>
              intro c2 d1 h5 h6 h7 h8 hm_66
              have fb := besid_in (p := p1) (d := d1) (by omega)
              refine st_iload C dX10_border_66 rfl ?_
              refine st_iconst C dX10_border_68 (by decide) ?_
              refine st_icmp_gt (tgt := 136) C dX10_border_69 (by decide) (fun c_69 => ?_) (fun c_69 => ?_)
              · refine st_iinc C dX10_border_136 rfl (by decide) rfl ⟨(by omega), (by omega)⟩ ?_
                show T x 139 [(0, vR 0), (1, vI l), (2, vI a9), (3, vI b9), (4, vI c2), (5, vI (p1 + 1)), (6, vI (mf (64 * l + p1))), (7, vI d1)] [] _ _ _
                refine st_goto (tgt := 44) C dX10_border_139 (by decide) ?_
                refine st_sub [0, 1, 2, 3, 4, 5] rfl ?_
                exact ih_44 c2 (p1 + 1) (by omega) (by omega) (by omega) (sumc h1 rfl h8 (by omega)) (by omega)
              · refine st_iload C dX10_border_72 rfl ?_
                refine st_iload C dX10_border_74 rfl ?_
                refine st_callS (st := []) C dX10_border_76 [vI p1, vI d1] (k_beside (p := p1) (d := d1) (by omega) (by omega)) w_X10_258 rfl (by decide) (by decide) (by omega) (by omega) (Nat.le_of_ble_eq_true rfl) (ko_rt ?_)
                show T x 79 [(0, vR 0), (1, vI l), (2, vI a9), (3, vI b9), (4, vI c2), (5, vI p1), (6, vI (mf (64 * l + p1))), (7, vI d1)] [vI (besid p1 d1)] _ _ _
                refine st_istore C dX10_border_79 (by decide) rfl ?_
                show T x 81 [(0, vR 0), (1, vI l), (2, vI a9), (3, vI b9), (4, vI c2), (5, vI p1), (6, vI (mf (64 * l + p1))), (7, vI d1), (8, vI (besid p1 d1))] [] _ _ _
                refine st_iload C dX10_border_81 rfl ?_
                refine st_iconst C dX10_border_83 (by decide) ?_
                refine st_icmp_ne (tgt := 91) C dX10_border_84 (by decide) (fun c_84 => ?_) (fun c_84 => ?_)
                · refine st_aload_n C 0 dX10_border_91 rfl rfl ?_
                  refine st_getf C dX10_border_92 fl_X10_9 hs rfl ?_
                  refine st_iload_n C 1 dX10_border_95 rfl rfl ?_
                  refine st_iload C dX10_border_96 rfl ?_
                  refine st_callS (st := []) C dX10_border_98 [vR 1, vI l, vI (besid p1 d1)] (k_areaAt (f := mf) (l := l) (p := (besid p1 d1)) hM (by omega) (by omega)) w_X10_255 rfl (by decide) (by decide) (by omega) (by omega) (Nat.le_of_ble_eq_true rfl) (ko_rt ?_)
                  show T x 101 [(0, vR 0), (1, vI l), (2, vI a9), (3, vI b9), (4, vI c2), (5, vI p1), (6, vI (mf (64 * l + p1))), (7, vI d1), (8, vI (besid p1 d1))] [vI (mf (64 * l + (besid p1 d1)))] _ _ _
                  refine st_istore C dX10_border_101 (by decide) rfl ?_
                  show T x 103 [(0, vR 0), (1, vI l), (2, vI a9), (3, vI b9), (4, vI c2), (5, vI p1), (6, vI (mf (64 * l + p1))), (7, vI d1), (8, vI (besid p1 d1)), (9, vI (mf (64 * l + (besid p1 d1))))] [] _ _ _
                  refine st_iload C dX10_border_103 rfl ?_
                  refine st_iload_n C 2 dX10_border_105 rfl rfl ?_
                  refine st_icmp_ne (tgt := 115) C dX10_border_106 (by decide) (fun c_106 => ?_) (fun c_106 => ?_)
                  · refine st_iload C dX10_border_115 rfl ?_
                    refine st_iload_n C 3 dX10_border_117 rfl rfl ?_
                    refine st_icmp_ne (tgt := 130) C dX10_border_118 (by decide) (fun c_118 => ?_) (fun c_118 => ?_)
                    · refine st_iinc C dX10_border_130 rfl (by decide) rfl ⟨(by omega), (by omega)⟩ ?_
                      show T x 133 [(0, vR 0), (1, vI l), (2, vI a9), (3, vI b9), (4, vI c2), (5, vI p1), (6, vI (mf (64 * l + p1))), (7, vI (d1 + 1)), (8, vI (besid p1 d1)), (9, vI (mf (64 * l + (besid p1 d1))))] [] _ _ _
                      refine st_goto (tgt := 66) C dX10_border_133 (by decide) ?_
                      refine st_sub [0, 1, 2, 3, 4, 5, 6, 7] rfl ?_
                      exact ih_66 c2 (d1 + 1) (by omega) (by omega) (by omega) (by first | exact cntb_t h5 (by unfold BordP; omega) h8 | exact cntb_f h5 (by unfold BordP; omega) h8) (by omega)
                    · refine st_iload C dX10_border_121 rfl ?_
                      refine st_iload_n C 2 dX10_border_123 rfl rfl ?_
                      refine st_icmp_ne (tgt := 130) C dX10_border_124 (by decide) (fun c_124 => ?_) (fun c_124 => ?_)
                      · refine st_iinc C dX10_border_130 rfl (by decide) rfl ⟨(by omega), (by omega)⟩ ?_
                        show T x 133 [(0, vR 0), (1, vI l), (2, vI a9), (3, vI b9), (4, vI c2), (5, vI p1), (6, vI (mf (64 * l + p1))), (7, vI (d1 + 1)), (8, vI (besid p1 d1)), (9, vI (mf (64 * l + (besid p1 d1))))] [] _ _ _
                        refine st_goto (tgt := 66) C dX10_border_133 (by decide) ?_
                        refine st_sub [0, 1, 2, 3, 4, 5, 6, 7] rfl ?_
                        exact ih_66 c2 (d1 + 1) (by omega) (by omega) (by omega) (by first | exact cntb_t h5 (by unfold BordP; omega) h8 | exact cntb_f h5 (by unfold BordP; omega) h8) (by omega)
                      · refine st_iinc C dX10_border_127 rfl (by decide) rfl ⟨(by omega), (by omega)⟩ ?_
                        show T x 130 [(0, vR 0), (1, vI l), (2, vI a9), (3, vI b9), (4, vI (c2 + 1)), (5, vI p1), (6, vI (mf (64 * l + p1))), (7, vI d1), (8, vI (besid p1 d1)), (9, vI (mf (64 * l + (besid p1 d1))))] [] _ _ _
                        refine st_iinc C dX10_border_130 rfl (by decide) rfl ⟨(by omega), (by omega)⟩ ?_
                        show T x 133 [(0, vR 0), (1, vI l), (2, vI a9), (3, vI b9), (4, vI (c2 + 1)), (5, vI p1), (6, vI (mf (64 * l + p1))), (7, vI (d1 + 1)), (8, vI (besid p1 d1)), (9, vI (mf (64 * l + (besid p1 d1))))] [] _ _ _
                        refine st_goto (tgt := 66) C dX10_border_133 (by decide) ?_
                        refine st_sub [0, 1, 2, 3, 4, 5, 6, 7] rfl ?_
                        exact ih_66 (c2 + 1) (d1 + 1) (by omega) (by omega) (by omega) (by first | exact cntb_t h5 (by unfold BordP; omega) h8 | exact cntb_f h5 (by unfold BordP; omega) h8) (by omega)
                  · refine st_iload C dX10_border_109 rfl ?_
                    refine st_iload_n C 3 dX10_border_111 rfl rfl ?_
                    refine st_icmp_eq (tgt := 127) C dX10_border_112 (by decide) (fun c_112 => ?_) (fun c_112 => ?_)
                    · refine st_iinc C dX10_border_127 rfl (by decide) rfl ⟨(by omega), (by omega)⟩ ?_
                      show T x 130 [(0, vR 0), (1, vI l), (2, vI a9), (3, vI b9), (4, vI (c2 + 1)), (5, vI p1), (6, vI (mf (64 * l + p1))), (7, vI d1), (8, vI (besid p1 d1)), (9, vI (mf (64 * l + (besid p1 d1))))] [] _ _ _
                      refine st_iinc C dX10_border_130 rfl (by decide) rfl ⟨(by omega), (by omega)⟩ ?_
                      show T x 133 [(0, vR 0), (1, vI l), (2, vI a9), (3, vI b9), (4, vI (c2 + 1)), (5, vI p1), (6, vI (mf (64 * l + p1))), (7, vI (d1 + 1)), (8, vI (besid p1 d1)), (9, vI (mf (64 * l + (besid p1 d1))))] [] _ _ _
                      refine st_goto (tgt := 66) C dX10_border_133 (by decide) ?_
                      refine st_sub [0, 1, 2, 3, 4, 5, 6, 7] rfl ?_
                      exact ih_66 (c2 + 1) (d1 + 1) (by omega) (by omega) (by omega) (by first | exact cntb_t h5 (by unfold BordP; omega) h8 | exact cntb_f h5 (by unfold BordP; omega) h8) (by omega)
                    · refine st_iload C dX10_border_115 rfl ?_
                      refine st_iload_n C 3 dX10_border_117 rfl rfl ?_
                      refine st_icmp_ne (tgt := 130) C dX10_border_118 (by decide) (fun c_118 => ?_) (fun c_118 => ?_)
                      · refine st_iinc C dX10_border_130 rfl (by decide) rfl ⟨(by omega), (by omega)⟩ ?_
                        show T x 133 [(0, vR 0), (1, vI l), (2, vI a9), (3, vI b9), (4, vI c2), (5, vI p1), (6, vI (mf (64 * l + p1))), (7, vI (d1 + 1)), (8, vI (besid p1 d1)), (9, vI (mf (64 * l + (besid p1 d1))))] [] _ _ _
                        refine st_goto (tgt := 66) C dX10_border_133 (by decide) ?_
                        refine st_sub [0, 1, 2, 3, 4, 5, 6, 7] rfl ?_
                        exact ih_66 c2 (d1 + 1) (by omega) (by omega) (by omega) (by first | exact cntb_t h5 (by unfold BordP; omega) h8 | exact cntb_f h5 (by unfold BordP; omega) h8) (by omega)
                      · refine st_iload C dX10_border_121 rfl ?_
                        refine st_iload_n C 2 dX10_border_123 rfl rfl ?_
                        refine st_icmp_ne (tgt := 130) C dX10_border_124 (by decide) (fun c_124 => ?_) (fun c_124 => ?_)
                        · refine st_iinc C dX10_border_130 rfl (by decide) rfl ⟨(by omega), (by omega)⟩ ?_
                          show T x 133 [(0, vR 0), (1, vI l), (2, vI a9), (3, vI b9), (4, vI c2), (5, vI p1), (6, vI (mf (64 * l + p1))), (7, vI (d1 + 1)), (8, vI (besid p1 d1)), (9, vI (mf (64 * l + (besid p1 d1))))] [] _ _ _
                          refine st_goto (tgt := 66) C dX10_border_133 (by decide) ?_
                          refine st_sub [0, 1, 2, 3, 4, 5, 6, 7] rfl ?_
                          exact ih_66 c2 (d1 + 1) (by omega) (by omega) (by omega) (by first | exact cntb_t h5 (by unfold BordP; omega) h8 | exact cntb_f h5 (by unfold BordP; omega) h8) (by omega)
                        · refine st_iinc C dX10_border_127 rfl (by decide) rfl ⟨(by omega), (by omega)⟩ ?_
                          show T x 130 [(0, vR 0), (1, vI l), (2, vI a9), (3, vI b9), (4, vI (c2 + 1)), (5, vI p1), (6, vI (mf (64 * l + p1))), (7, vI d1), (8, vI (besid p1 d1)), (9, vI (mf (64 * l + (besid p1 d1))))] [] _ _ _
                          refine st_iinc C dX10_border_130 rfl (by decide) rfl ⟨(by omega), (by omega)⟩ ?_
                          show T x 133 [(0, vR 0), (1, vI l), (2, vI a9), (3, vI b9), (4, vI (c2 + 1)), (5, vI p1), (6, vI (mf (64 * l + p1))), (7, vI (d1 + 1)), (8, vI (besid p1 d1)), (9, vI (mf (64 * l + (besid p1 d1))))] [] _ _ _
                          refine st_goto (tgt := 66) C dX10_border_133 (by decide) ?_
                          refine st_sub [0, 1, 2, 3, 4, 5, 6, 7] rfl ?_
                          exact ih_66 (c2 + 1) (d1 + 1) (by omega) (by omega) (by omega) (by first | exact cntb_t h5 (by unfold BordP; omega) h8 | exact cntb_f h5 (by unfold BordP; omega) h8) (by omega)
                · refine st_iconst C dX10_border_87 (by decide) ?_
                  refine st_goto (tgt := 101) C dX10_border_88 (by decide) ?_
                  refine st_istore C dX10_border_101 (by decide) rfl ?_
                  show T x 103 [(0, vR 0), (1, vI l), (2, vI a9), (3, vI b9), (4, vI c2), (5, vI p1), (6, vI (mf (64 * l + p1))), (7, vI d1), (8, vI (besid p1 d1)), (9, vI (-1))] [] _ _ _
                  refine st_iload C dX10_border_103 rfl ?_
                  refine st_iload_n C 2 dX10_border_105 rfl rfl ?_
                  refine st_icmp_ne (tgt := 115) C dX10_border_106 (by decide) (fun c_106 => ?_) (fun c_106 => ?_)
                  · refine st_iload C dX10_border_115 rfl ?_
                    refine st_iload_n C 3 dX10_border_117 rfl rfl ?_
                    refine st_icmp_ne (tgt := 130) C dX10_border_118 (by decide) (fun c_118 => ?_) (fun c_118 => ?_)
                    · refine st_iinc C dX10_border_130 rfl (by decide) rfl ⟨(by omega), (by omega)⟩ ?_
                      show T x 133 [(0, vR 0), (1, vI l), (2, vI a9), (3, vI b9), (4, vI c2), (5, vI p1), (6, vI (mf (64 * l + p1))), (7, vI (d1 + 1)), (8, vI (besid p1 d1)), (9, vI (-1))] [] _ _ _
                      refine st_goto (tgt := 66) C dX10_border_133 (by decide) ?_
                      refine st_sub [0, 1, 2, 3, 4, 5, 6, 7] rfl ?_
                      exact ih_66 c2 (d1 + 1) (by omega) (by omega) (by omega) (by first | exact cntb_t h5 (by unfold BordP; omega) h8 | exact cntb_f h5 (by unfold BordP; omega) h8) (by omega)
                    · refine st_iload C dX10_border_121 rfl ?_
                      refine st_iload_n C 2 dX10_border_123 rfl rfl ?_
                      refine st_icmp_ne (tgt := 130) C dX10_border_124 (by decide) (fun c_124 => ?_) (fun c_124 => by omega)
                      refine st_iinc C dX10_border_130 rfl (by decide) rfl ⟨(by omega), (by omega)⟩ ?_
                      show T x 133 [(0, vR 0), (1, vI l), (2, vI a9), (3, vI b9), (4, vI c2), (5, vI p1), (6, vI (mf (64 * l + p1))), (7, vI (d1 + 1)), (8, vI (besid p1 d1)), (9, vI (-1))] [] _ _ _
                      refine st_goto (tgt := 66) C dX10_border_133 (by decide) ?_
                      refine st_sub [0, 1, 2, 3, 4, 5, 6, 7] rfl ?_
                      exact ih_66 c2 (d1 + 1) (by omega) (by omega) (by omega) (by first | exact cntb_t h5 (by unfold BordP; omega) h8 | exact cntb_f h5 (by unfold BordP; omega) h8) (by omega)
                  · refine st_iload C dX10_border_109 rfl ?_
                    refine st_iload_n C 3 dX10_border_111 rfl rfl ?_
                    refine st_icmp_eq (tgt := 127) C dX10_border_112 (by decide) (fun c_112 => by omega) (fun c_112 => ?_)
                    refine st_iload C dX10_border_115 rfl ?_
                    refine st_iload_n C 3 dX10_border_117 rfl rfl ?_
                    refine st_icmp_ne (tgt := 130) C dX10_border_118 (by decide) (fun c_118 => ?_) (fun c_118 => ?_)
                    · refine st_iinc C dX10_border_130 rfl (by decide) rfl ⟨(by omega), (by omega)⟩ ?_
                      show T x 133 [(0, vR 0), (1, vI l), (2, vI a9), (3, vI b9), (4, vI c2), (5, vI p1), (6, vI (mf (64 * l + p1))), (7, vI (d1 + 1)), (8, vI (besid p1 d1)), (9, vI (-1))] [] _ _ _
                      refine st_goto (tgt := 66) C dX10_border_133 (by decide) ?_
                      refine st_sub [0, 1, 2, 3, 4, 5, 6, 7] rfl ?_
                      exact ih_66 c2 (d1 + 1) (by omega) (by omega) (by omega) (by first | exact cntb_t h5 (by unfold BordP; omega) h8 | exact cntb_f h5 (by unfold BordP; omega) h8) (by omega)
                    · refine st_iload C dX10_border_121 rfl ?_
                      refine st_iload_n C 2 dX10_border_123 rfl rfl ?_
                      refine st_icmp_ne (tgt := 130) C dX10_border_124 (by decide) (fun c_124 => ?_) (fun c_124 => by omega)
                      refine st_iinc C dX10_border_130 rfl (by decide) rfl ⟨(by omega), (by omega)⟩ ?_
                      show T x 133 [(0, vR 0), (1, vI l), (2, vI a9), (3, vI b9), (4, vI c2), (5, vI p1), (6, vI (mf (64 * l + p1))), (7, vI (d1 + 1)), (8, vI (besid p1 d1)), (9, vI (-1))] [] _ _ _
                      refine st_goto (tgt := 66) C dX10_border_133 (by decide) ?_
                      refine st_sub [0, 1, 2, 3, 4, 5, 6, 7] rfl ?_
                      exact ih_66 c2 (d1 + 1) (by omega) (by omega) (by omega) (by first | exact cntb_t h5 (by unfold BordP; omega) h8 | exact cntb_f h5 (by unfold BordP; omega) h8) (by omega)
          exact loop_66 _ c1 0 (by omega) (by omega) (by omega) (cb_0 h4) (Nat.lt_succ_self _)
    exact loop_44 _ 0 0 (by omega) (by omega) (by omega) (sum_0) (Nat.lt_succ_self _)
