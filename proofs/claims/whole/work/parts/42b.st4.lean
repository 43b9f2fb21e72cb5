theorem addH_o {h : HP} {k S G p q j : Nat} {nw mcn : Int} {sf : Int → Option Nat} {bf af : Int → Int} {e : Option PE} (n1 : j ≠ k) (n2 : j ≠ S) (n3 : j ≠ stN (nw + 1)) (n4 : j ≠ stN (nw + 1) + 1) (he : h j = e) : addH h k S G p q nw mcn sf bf af j = e := hput_o n2 (hput_o n3 (hput_o n4 (hput_o n3 (hput_o n1 he))))
theorem addH_k {h : HP} {k S G p q : Nat} {nw mcn : Int} {sf : Int → Option Nat} {bf af : Int → Int} (n2 : k ≠ S) (n3 : k ≠ stN (nw + 1)) (n4 : k ≠ stN (nw + 1) + 1) : addH h k S G p q nw mcn sf bf af k = some (oO 2 [vI (nw + 1), vR S, vR G, vI mcn]) := hput_o n2 (hput_o n3 (hput_o n4 (hput_o n3 hput_s)))
/-- the trial row made the map -/
def bringH (h : HP) (nw mcn : Int) (stf : Int → Option Nat) (mf tf tl : Int → Int) : HP := hput (hput (addH h 6 11 12 1 2 nw mcn stf mf tf) 13 (oI 255 (thU tl mf tf 192))) 1 (oI 304 (fcpy tf mf 0 0 304))
theorem bringH_o {h : HP} {nw mcn : Int} {stf : Int → Option Nat} {mf tf tl : Int → Int} {j : Nat} {e : Option PE} (hn : 0 ≤ nw) (n1 : j ≠ 1 ∧ j ≠ 6 ∧ j ≠ 11 ∧ j ≠ 13) (n2 : j < 102) (he : h j = e) : bringH h nw mcn stf mf tf tl j = e := by
  have := stN_ge (v := nw + 1) (by omega)
  exact hput_o n1.1 (hput_o n1.2.2.2 (addH_o n1.2.1 n1.2.2.1 (by omega) (by omega) he))
theorem bringH_6 {h : HP} {nw mcn : Int} {stf : Int → Option Nat} {mf tf tl : Int → Int} (hn : 0 ≤ nw) : bringH h nw mcn stf mf tf tl 6 = some (oO 2 [vI (nw + 1), vR 11, vR 12, vI mcn]) := by
  have := stN_ge (v := nw + 1) (by omega)
  exact hput_o (by omega) (hput_o (by omega) (addH_k (by omega) (by omega) (by omega)))
/-- the history, its steps' row told -/
def cHf (h : HP) (nw mcn : Int) (sv : Int → Int → Int) (gf : Int → Int) (f : Int → Option Nat) : Prop := HisR h 6 11 12 nw mcn f sv ∧ h 12 = some (oI 40 gf) ∧ ∀ v, nw < v → v ≤ 40 → h (stN v) = none ∧ h (stN v + 1) = none
theorem cHf.put {h : HP} {nw mcn : Int} {sv : Int → Int → Int} {gf : Int → Int} {f : Int → Option Nat} {k : Nat} {e : PE} (c : cHf h nw mcn sv gf f) (h0 : 0 ≤ nw ∧ nw ≤ 40) (n : k ≠ 6 ∧ k ≠ 11 ∧ k ≠ 12) (n2 : k < 102 ∨ 182 ≤ k) : cHf (hput h k e) nw mcn sv gf f := by
  obtain ⟨hR, hG, hn⟩ := c
  refine ⟨hR.put (Ne.symm n.1) (Ne.symm n.2.1) (fun v h1 h2 => ?_), hput_o (Ne.symm n.2.2) hG, fun v h1 h2 => ?_⟩
  · have := stN_ge h1
    have := stN_le (v := v) (by omega)
    omega
  · have := stN_ge (v := v) (by omega)
    have := stN_le (v := v) (by omega)
    exact ⟨hput_o (by omega) (hn v h1 h2).1, hput_o (by omega) (hn v h1 h2).2⟩
def ThS (E : String) (h : HP) (Q S : Nat) : PR → HP → Prop := fun r h' => r = .inr E ∧ ∃ q s : Int → Int, h' = sc h Q S q s
set_option maxRecDepth 20000 in
set_option maxHeartbeats 4000000 in
theorem k_bring9 {g : Gx} {h : HP} {rc dc : Int} {mf : Int → Int} {mk : Int} {tl : Int → Int} {nw mcn : Int} {sv : Int → Int → Int} {gf : Int → Int} {stf : Int → Option Nat} {t2 : Int → Int} (hs : cS h rc dc) (hM : cM h mf) (hL : cL h mk tl) (hH : cHf h nw mcn sv gf stf) (hnw : 0 ≤ nw ∧ nw ≤ 40) (hT : h 2 = some (oI 304 t2)) (hn9 : nw ≤ 39) : Ct g yX10_bringTrialToMap (.code yX10_bringTrialToMap cX10_bringTrialToMap 1 none) 4 2 305 [vR 0] h (Rt none (bringH h nw mcn stf mf t2 tl)) := by
  refine Ct.of (by decide) (Nat.le_of_ble_eq_true rfl) (fun x hg C F => ?_)
  subst hg
  obtain ⟨hHR, hH12, hHn⟩ := id hH
  have hH6 := hHR.1
  have hH11 := hHR.2.1
  have hge : 102 ≤ stN (nw + 1) := stN_ge (by omega)
  show T x 0 [(0, vR 0)] [] h 0 0
  refine st_aload_n C 0 dX10_bringTrialToMap_0 rfl rfl ?_
  refine st_getf C dX10_bringTrialToMap_1 fl_X10_44 hs rfl ?_
  refine st_aload_n C 0 dX10_bringTrialToMap_4 rfl rfl ?_
  refine st_getf C dX10_bringTrialToMap_5 fl_X10_9 hs rfl ?_
  refine st_aload_n C 0 dX10_bringTrialToMap_8 rfl rfl ?_
  refine st_getf C dX10_bringTrialToMap_9 fl_X10_13 hs rfl ?_
  refine st_callV (st := []) C dX10_bringTrialToMap_12 [vR 1, vR 2] (k_hAdd (nw := nw) (mcn := mcn) (sf := stf) (bf := mf) (af := t2) hH6 hH11 (by omega) (hHn _ (by omega) (by omega)).1 (hHn _ (by omega) (by omega)).2 hM hT (by omega) (by omega) (by omega) (by omega) (by omega) (by omega) (by omega)) hH6 w_X10_201 rfl (by decide) (by decide) (by omega) (by omega) (Nat.le_of_ble_eq_true rfl) (ko_rn ?_)
  show T x 15 [(0, vR 0)] [] _ _ _
  refine st_aload_n C 0 dX10_bringTrialToMap_15 rfl rfl ?_
  refine st_getf C dX10_bringTrialToMap_16 fl_X10_51 (addH_o (by omega) (by omega) (by omega) (by omega) hs) rfl ?_
  refine st_aload_n C 0 dX10_bringTrialToMap_19 rfl rfl ?_
  refine st_getf C dX10_bringTrialToMap_20 fl_X10_9 (addH_o (by omega) (by omega) (by omega) (by omega) hs) rfl ?_
  refine st_aload_n C 0 dX10_bringTrialToMap_23 rfl rfl ?_
  refine st_getf C dX10_bringTrialToMap_24 fl_X10_13 (addH_o (by omega) (by omega) (by omega) (by omega) hs) rfl ?_
  refine st_callV (st := []) C dX10_bringTrialToMap_27 [vR 1, vR 2] (k_throwOutUnlike (af := tl) (rf := mf) (qf := t2) (addH_o (by omega) (by omega) (by omega) (by omega) hL.1) (addH_o (by omega) (by omega) (by omega) (by omega) hL.2) (by omega) (addH_o (by omega) (by omega) (by omega) (by omega) hM) (addH_o (by omega) (by omega) (by omega) (by omega) hT) (by omega) (by omega)) (addH_o (by omega) (by omega) (by omega) (by omega) hL.1) w_X10_204 rfl (by decide) (by decide) (by omega) (by omega) (Nat.le_of_ble_eq_true rfl) (ko_rn ?_)
  show T x 30 [(0, vR 0)] [] (hput (addH h 6 11 12 1 2 nw mcn stf mf t2) 13 (oI 255 (thU tl mf t2 192))) _ _
  refine st_aload_n C 0 dX10_bringTrialToMap_30 rfl rfl ?_
  refine st_getf C dX10_bringTrialToMap_31 fl_X10_13 (hput_o (by omega) (addH_o (by omega) (by omega) (by omega) (by omega) hs)) rfl ?_
  refine st_iconst C dX10_bringTrialToMap_34 (by decide) ?_
  refine st_aload_n C 0 dX10_bringTrialToMap_35 rfl rfl ?_
  refine st_getf C dX10_bringTrialToMap_36 fl_X10_9 (hput_o (by omega) (addH_o (by omega) (by omega) (by omega) (by omega) hs)) rfl ?_
  refine st_iconst C dX10_bringTrialToMap_39 (by decide) ?_
  refine st_sipush C dX10_bringTrialToMap_40 (by decide) (by decide) ?_
  refine st_copy C dX10_bringTrialToMap_43 cp_X10_207 cp_2 cp_3 cp_4 (hput_o (by omega) (addH_o (by omega) (by omega) (by omega) (by omega) hT)) (hput_o (by omega) (addH_o (by omega) (by omega) (by omega) (by omega) hM)) (by omega) (by omega) (by omega) (by omega) (by omega) (by decide) (Nat.le_of_ble_eq_true rfl) ?_
  exact st_return C F dX10_bringTrialToMap_46 rfl ⟨rfl, rfl⟩ (by omega) (by omega)
set_option maxRecDepth 20000 in
set_option maxHeartbeats 4000000 in
theorem s_breaks {g : Gx} {h : HP} {rc dc : Int} {op : Int → Int} {bs ed co no : Int → Int → Int} {mf : Int → Int} {rk ra rb : Int → Int} {rn : Int → Nat} {t2 : Int → Int} {n9 r9 : Int} (hs : cS h rc dc) (hB : cB h op bs ed co no) (hM : cM h mf) (hO : 0 ≤ n9 ∧ n9 ≤ 3 ∧ op n9 = 1) (hR : cR h rc rk ra rb rn) (hrc : 0 ≤ rc ∧ rc ≤ 6) (hok : ∀ i, 0 ≤ i → i < rc → RuleOk (rk i) (ra i) (rb i)) (hX : cX h) (hT : h 2 = some (oI 304 t2)) (hF : IsFirst (fun i => ¬ RuleHolds (rk i) (ra i) (rb i) (fmix (wov (ed n9) mf) t2 304)) rc r9) : Ct g yX10_breaks (.code yX10_breaks cX10_breaks 2 (some .int)) 7 1 6 [vR 0, vI n9] h (RtS (vI r9) (hput h 2 (oI 304 (fmix (wov (ed n9) mf) t2 304))) 14 15 (fun _ => True)) := by
  refine Ct.of (by decide) (Nat.le_of_ble_eq_true rfl) (fun x hg C F => ?_)
  subst hg
  obtain ⟨bf, hbf, hbr⟩ := id hB
  obtain ⟨hbn, h_0, h_1, h_2, h_3, h_4, hop⟩ := hbr n9 (by omega) (by omega)
  have hbi := brN_in (i := n9) (by omega)
  obtain ⟨hx9, ⟨qa, hx14⟩, sa, hx15⟩ := id hX
  show T x 0 [(0, vR 0), (1, vI n9)] [] h 0 0
  refine st_aload_n C 0 dX10_breaks_0 rfl rfl ?_
  refine st_iload_n C 1 dX10_breaks_1 rfl rfl ?_
  refine st_callV (st := []) C dX10_breaks_2 [vI n9] (k_openBranch_t (rc := rc) (dc := dc) (op := op) (bs := bs) (ed := ed) (co := co) (no := no) (n9 := n9) hs hB hO) hs w_X10_106 rfl (by decide) (by decide) (by omega) (by omega) (Nat.le_of_ble_eq_true rfl) (ko_rt ?_)
  show T x 5 [(0, vR 0), (1, vI n9)] [vR (brN n9)] _ _ _
  refine st_aload_n C 0 dX10_breaks_5 rfl rfl ?_
  refine st_getf C dX10_breaks_6 fl_X10_9 hs rfl ?_
  refine st_aload_n C 0 dX10_breaks_9 rfl rfl ?_
  refine st_getf C dX10_breaks_10 fl_X10_13 hs rfl ?_
  refine st_callV (st := []) C dX10_breaks_13 [vR 1, vR 2] (k_writeOver (b := (brN n9)) (op := (op n9)) (bs := (bs n9)) (ed := (ed n9)) (co := (co n9)) (no := (no n9)) (mf := mf) (tf := t2) h_0 h_1 h_2 h_3 h_4 hM hT (by omega) (by omega) (by omega)) h_0 w_X10_170 rfl (by decide) (by decide) (by omega) (by omega) (Nat.le_of_ble_eq_true rfl) (ko_rn ?_)
  show T x 16 [(0, vR 0), (1, vI n9)] [] (hput h 2 (oI 304 (fmix (wov (ed n9) mf) t2 304))) _ _
  refine st_aload_n C 0 dX10_breaks_16 rfl rfl ?_
  refine st_aload_n C 0 dX10_breaks_17 rfl rfl ?_
  refine st_getf C dX10_breaks_18 fl_X10_13 (hput_o (by omega) hs) rfl ?_
  refine st_callV (st := []) C dX10_breaks_21 [vR 2] (k_firstBroken (rk := rk) (ra := ra) (rb := rb) (rn := rn) (rf := (fmix (wov (ed n9) mf) t2 304)) (r9 := r9) (hput_o (by omega) hs) (cR.put hR (by omega) (by omega)) hrc hok ⟨(hput_o (by omega) hx9), ⟨_, (hput_o (by omega) hx14)⟩, _, (hput_o (by omega) hx15)⟩ hput_s (by omega) (by omega) hF) (hput_o (by omega) hs) w_X10_174 rfl (by decide) (by decide) (by omega) (by omega) (Nat.le_of_ble_eq_true rfl) (ko_rs (fun q2 s2 _ => ?_))
  show T x 24 [(0, vR 0), (1, vI n9)] [vI r9] _ _ _
  exact st_ireturn C F dX10_breaks_24 rfl (by first | exact ⟨q2, s2, rfl, rfl, trivial⟩ | (exfalso; omega) | exact absurd (by assumption) hQ | exact absurd hQ (by assumption)) (by omega) (by omega)
set_option maxRecDepth 20000 in
set_option maxHeartbeats 4000000 in
theorem s_merge_x2c {g : Gx} {h : HP} {rc dc : Int} {op : Int → Int} {bs ed co no : Int → Int → Int} {mf : Int → Int} {rk ra rb : Int → Int} {rn : Int → Nat} {t2 : Int → Int} {n9 r9 : Int} {mk : Int} {tl : Int → Int} {nw mcn : Int} {sv : Int → Int → Int} {gf : Int → Int} {stf : Int → Option Nat} (hs : cS h rc dc) (hB : cB h op bs ed co no) (hM : cM h mf) (hO : 0 ≤ n9 ∧ n9 ≤ 3 ∧ op n9 = 1) (hR : cR h rc rk ra rb rn) (hrc : 0 ≤ rc ∧ rc ≤ 6) (hok : ∀ i, 0 ≤ i → i < rc → RuleOk (rk i) (ra i) (rb i)) (hX : cX h) (hT : h 2 = some (oI 304 t2)) (hF : IsFirst (fun i => ¬ RuleHolds (rk i) (ra i) (rb i) (fmix (wov (ed n9) mf) t2 304)) rc r9) (hL : cL h mk tl) (hH : cHf h nw mcn sv gf stf) (hnw : 0 ≤ nw ∧ nw ≤ 40) (hQ : 0 < cnt (fun j => Cf (ed n9) (bs n9) (co n9) j (mf j)) 304) : Ct g yX10_merge (.code yX10_merge cX10_merge 4 (some .int)) 7 4 330 [vR 0, vI n9] h (Th "java/lang/UnsupportedOperationException" (hput h 2 (oI 304 (fmix (wov (ed n9) mf) t2 304)))) := by
  refine Ct.of (by decide) (Nat.le_of_ble_eq_true rfl) (fun x hg C F => ?_)
  subst hg
  obtain ⟨bf, hbf, hbr⟩ := id hB
  obtain ⟨hbn, h_0, h_1, h_2, h_3, h_4, hop⟩ := hbr n9 (by omega) (by omega)
  have hbi := brN_in (i := n9) (by omega)
  obtain ⟨hx9, ⟨qa, hx14⟩, sa, hx15⟩ := id hX
  obtain ⟨hHR, hH12, hHn⟩ := id hH
  have hH6 := hHR.1
  have hH11 := hHR.2.1
  have hge : 102 ≤ stN (nw + 1) := stN_ge (by omega)
  show T x 0 [(0, vR 0), (1, vI n9)] [] h 0 0
  refine st_aload_n C 0 dX10_merge_0 rfl rfl ?_
  refine st_iload_n C 1 dX10_merge_1 rfl rfl ?_
  refine st_callV (st := []) C dX10_merge_2 [vI n9] (k_openBranch_t (rc := rc) (dc := dc) (op := op) (bs := bs) (ed := ed) (co := co) (no := no) (n9 := n9) hs hB hO) hs w_X10_106 rfl (by decide) (by decide) (by omega) (by omega) (Nat.le_of_ble_eq_true rfl) (ko_rt ?_)
  show T x 5 [(0, vR 0), (1, vI n9)] [vR (brN n9)] _ _ _
  refine st_astore_n C 2 dX10_merge_5 rfl (by decide) rfl ?_
  show T x 6 [(0, vR 0), (1, vI n9), (2, vR (brN n9))] [] _ _ _
  refine st_aload_n C 2 dX10_merge_6 rfl rfl ?_
  refine st_aload_n C 0 dX10_merge_7 rfl rfl ?_
  refine st_getf C dX10_merge_8 fl_X10_9 hs rfl ?_
  refine st_aload_n C 0 dX10_merge_11 rfl rfl ?_
  refine st_getf C dX10_merge_12 fl_X10_13 hs rfl ?_
  refine st_callV (st := []) C dX10_merge_15 [vR 1, vR 2] (k_writeOver (b := (brN n9)) (op := (op n9)) (bs := (bs n9)) (ed := (ed n9)) (co := (co n9)) (no := (no n9)) (mf := mf) (tf := t2) h_0 h_1 h_2 h_3 h_4 hM hT (by omega) (by omega) (by omega)) h_0 w_X10_170 rfl (by decide) (by decide) (by omega) (by omega) (Nat.le_of_ble_eq_true rfl) (ko_rn ?_)
  show T x 18 [(0, vR 0), (1, vI n9), (2, vR (brN n9))] [] (hput h 2 (oI 304 (fmix (wov (ed n9) mf) t2 304))) _ _
  refine st_aload_n C 2 dX10_merge_18 rfl rfl ?_
  refine st_aload_n C 0 dX10_merge_19 rfl rfl ?_
  refine st_getf C dX10_merge_20 fl_X10_9 (hput_o (by omega) hs) rfl ?_
  refine st_callV (st := []) C dX10_merge_23 [vR 1] (k_conflictCount (b := (brN n9)) (op := (op n9)) (bs := (bs n9)) (ed := (ed n9)) (co := (co n9)) (no := (no n9)) (mf := mf) (hput_o (by omega) h_0) (hput_o (by omega) h_1) (hput_o (by omega) h_2) (hput_o (by omega) h_3) (hput_o (by omega) h_4) (hput_o (by omega) hM)) (hput_o (by omega) h_0) w_X10_146 rfl (by decide) (by decide) (by omega) (by omega) (Nat.le_of_ble_eq_true rfl) (ko_rt ?_)
  show T x 26 [(0, vR 0), (1, vI n9), (2, vR (brN n9))] [vI (cnt (fun j => Cf (ed n9) (bs n9) (co n9) j (mf j)) 304)] _ _ _
  refine st_if_gt (tgt := 41) C dX10_merge_26 (by decide) (fun c_26 => ?_) (fun c_26 => ?_)
  · exact st_throw C F dX10_merge_41 dX10_merge_44 dX10_merge_45 dX10_merge_48 xw_X10_92 (by decide) (by first | exact ⟨rfl, rfl⟩ | (exfalso; omega) | exact absurd (by assumption) hQ | exact absurd hQ (by assumption)) (by omega) (by omega)
  · refine st_aload_n C 0 dX10_merge_29 rfl rfl ?_
    refine st_aload_n C 0 dX10_merge_30 rfl rfl ?_
    refine st_getf C dX10_merge_31 fl_X10_13 (hput_o (by omega) hs) rfl ?_
    refine st_callV (st := []) C dX10_merge_34 [vR 2] (k_firstBroken (rk := rk) (ra := ra) (rb := rb) (rn := rn) (rf := (fmix (wov (ed n9) mf) t2 304)) (r9 := r9) (hput_o (by omega) hs) (cR.put hR (by omega) (by omega)) hrc hok ⟨(hput_o (by omega) hx9), ⟨_, (hput_o (by omega) hx14)⟩, _, (hput_o (by omega) hx15)⟩ hput_s (by omega) (by omega) hF) (hput_o (by omega) hs) w_X10_174 rfl (by decide) (by decide) (by omega) (by omega) (Nat.le_of_ble_eq_true rfl) (ko_rs (fun q2 s2 _ => ?_))
    show T x 37 [(0, vR 0), (1, vI n9), (2, vR (brN n9))] [vI r9] _ _ _
    refine st_iconst C dX10_merge_37 (by decide) ?_
    refine st_icmp_eq (tgt := 49) C dX10_merge_38 (by decide) (fun c_38 => ?_) (fun c_38 => ?_)
    · refine st_aload_n C 0 dX10_merge_49 rfl rfl ?_
      refine st_getf C dX10_merge_50 fl_X10_9 (sc_o (by omega) (by omega) (hput_o (by omega) hs)) rfl ?_
      refine st_aload_n C 0 dX10_merge_53 rfl rfl ?_
      refine st_getf C dX10_merge_54 fl_X10_13 (sc_o (by omega) (by omega) (hput_o (by omega) hs)) rfl ?_
      refine st_callS (st := []) C dX10_merge_57 [vR 1, vR 2] (k_unlike (f := mf) (f2 := (fmix (wov (ed n9) mf) t2 304)) (sc_o (by omega) (by omega) (hput_o (by omega) hM)) (sc_o (by omega) (by omega) hput_s)) w_X10_177 rfl (by decide) (by decide) (by omega) (by omega) (Nat.le_of_ble_eq_true rfl) (ko_rt ?_)
      show T x 60 [(0, vR 0), (1, vI n9), (2, vR (brN n9))] [vI (cnt (fun j => mf j ≠ (fmix (wov (ed n9) mf) t2 304) j) 304)] _ _ _
      refine st_istore_n C 3 dX10_merge_60 rfl (by decide) rfl ?_
      show T x 61 [(0, vR 0), (1, vI n9), (2, vR (brN n9)), (3, vI (cnt (fun j => mf j ≠ (fmix (wov (ed n9) mf) t2 304) j) 304))] [] _ _ _
      refine st_iload_n C 3 dX10_merge_61 rfl rfl ?_
      refine st_if_le (tgt := 94) C dX10_merge_62 (by decide) (fun c_62 => ?_) (fun c_62 => ?_)
      · refine st_aload_n C 2 dX10_merge_94 rfl rfl ?_
        refine st_iconst C dX10_merge_95 (by decide) ?_
        refine st_putf C dX10_merge_96 fp_X10_98 (fun q => by cases q) (sc_o (by omega) (by omega) (hput_o (by omega) h_0)) (Nat.le_of_ble_eq_true rfl) (fit_bool (by omega)) ?_
        show T x 99 [(0, vR 0), (1, vI n9), (2, vR (brN n9)), (3, vI (cnt (fun j => mf j ≠ (fmix (wov (ed n9) mf) t2 304) j) 304))] [] (hput (sc (hput h 2 (oI 304 (fmix (wov (ed n9) mf) t2 304))) 14 15 q2 s2) (brN n9) (oO 0 [vI 0, vR (brN n9 + 1), vR (brN n9 + 2), vR (brN n9 + 3), vR (brN n9 + 4)])) _ _
        refine st_iload_n C 3 dX10_merge_99 rfl rfl ?_
        exact st_ireturn C F dX10_merge_100 rfl (by first | exact ⟨rfl, rfl⟩ | (exfalso; omega) | exact absurd (by assumption) hQ | exact absurd hQ (by assumption)) (by omega) (by omega)
      · refine st_aload_n C 0 dX10_merge_65 rfl rfl ?_
        refine st_getf C dX10_merge_66 fl_X10_44 (sc_o (by omega) (by omega) (hput_o (by omega) hs)) rfl ?_
        by_cases b_69 : 40 ≤ nw
        · refine st_callV (st := []) C dX10_merge_69 [] (k_hFull_t (sc_o (by omega) (by omega) (hput_o (by omega) hH6)) b_69) (sc_o (by omega) (by omega) (hput_o (by omega) hH6)) w_X10_181 rfl (by decide) (by decide) (by omega) (by omega) (Nat.le_of_ble_eq_true rfl) (ko_rt ?_)
          show T x 72 [(0, vR 0), (1, vI n9), (2, vR (brN n9)), (3, vI (cnt (fun j => mf j ≠ (fmix (wov (ed n9) mf) t2 304) j) 304))] [vI 1] _ _ _
          refine st_if_eq (tgt := 83) C dX10_merge_72 (by decide) (fun c_72 => by omega) (fun c_72 => ?_)
          exact st_throw C F dX10_merge_75 dX10_merge_78 dX10_merge_79 dX10_merge_82 xw_X10_95 (by decide) (by first | exact ⟨rfl, rfl⟩ | (exfalso; omega) | exact absurd (by assumption) hQ | exact absurd hQ (by assumption)) (by omega) (by omega)
        · refine st_callV (st := []) C dX10_merge_69 [] (k_hFull_f (sc_o (by omega) (by omega) (hput_o (by omega) hH6)) (by omega)) (sc_o (by omega) (by omega) (hput_o (by omega) hH6)) w_X10_181 rfl (by decide) (by decide) (by omega) (by omega) (Nat.le_of_ble_eq_true rfl) (ko_rt ?_)
          show T x 72 [(0, vR 0), (1, vI n9), (2, vR (brN n9)), (3, vI (cnt (fun j => mf j ≠ (fmix (wov (ed n9) mf) t2 304) j) 304))] [vI 0] _ _ _
          refine st_if_eq (tgt := 83) C dX10_merge_72 (by decide) (fun c_72 => ?_) (fun c_72 => by omega)
          refine st_aload_n C 0 dX10_merge_83 rfl rfl ?_
          refine st_callV (st := []) C dX10_merge_84 [] (k_bring9 (rc := rc) (dc := dc) (mf := mf) (tl := tl) (t2 := (fmix (wov (ed n9) mf) t2 304)) (sc_o (by omega) (by omega) (hput_o (by omega) hs)) (sc_o (by omega) (by omega) (hput_o (by omega) hM)) ⟨(sc_o (by omega) (by omega) (hput_o (by omega) hL.1)), (sc_o (by omega) (by omega) (hput_o (by omega) hL.2))⟩ (cHf.put (cHf.put (cHf.put hH hnw (by omega) (by omega)) hnw (by omega) (by omega)) hnw (by omega) (by omega)) hnw (sc_o (by omega) (by omega) hput_s) (by omega)) (sc_o (by omega) (by omega) (hput_o (by omega) hs)) w_X10_185 rfl (by decide) (by decide) (by omega) (by omega) (Nat.le_of_ble_eq_true rfl) (ko_rn ?_)
          show T x 87 [(0, vR 0), (1, vI n9), (2, vR (brN n9)), (3, vI (cnt (fun j => mf j ≠ (fmix (wov (ed n9) mf) t2 304) j) 304))] [] _ _ _
          refine st_aload_n C 0 dX10_merge_87 rfl rfl ?_
          refine st_getf C dX10_merge_88 fl_X10_44 (bringH_o hnw.1 (by omega) (by omega) (sc_o (by omega) (by omega) (hput_o (by omega) hs))) rfl ?_
          refine st_callV (st := []) C dX10_merge_91 [] (k_remember (nw := (nw + 1)) (mcn := mcn) (gf := gf) (bringH_6 hnw.1) (bringH_o hnw.1 (by omega) (by omega) (sc_o (by omega) (by omega) (hput_o (by omega) hH12))) (by omega) (by omega)) (bringH_6 hnw.1) w_X10_188 rfl (by decide) (by decide) (by omega) (by omega) (Nat.le_of_ble_eq_true rfl) (ko_rn ?_)
          show T x 94 [(0, vR 0), (1, vI n9), (2, vR (brN n9)), (3, vI (cnt (fun j => mf j ≠ (fmix (wov (ed n9) mf) t2 304) j) 304))] [] (hput (hput (bringH (sc (hput h 2 (oI 304 (fmix (wov (ed n9) mf) t2 304))) 14 15 q2 s2) nw mcn stf mf (fmix (wov (ed n9) mf) t2 304) tl) 12 (oI 40 (fput gf mcn (nw + 1)))) 6 (oO 2 [vI (nw + 1), vR 11, vR 12, vI (mcn + 1)])) _ _
          refine st_aload_n C 2 dX10_merge_94 rfl rfl ?_
          refine st_iconst C dX10_merge_95 (by decide) ?_
          refine st_putf C dX10_merge_96 fp_X10_98 (fun q => by cases q) (hput_o (by omega) (hput_o (by omega) (bringH_o hnw.1 (by omega) (by omega) (sc_o (by omega) (by omega) (hput_o (by omega) h_0))))) (Nat.le_of_ble_eq_true rfl) (fit_bool (by omega)) ?_
          show T x 99 [(0, vR 0), (1, vI n9), (2, vR (brN n9)), (3, vI (cnt (fun j => mf j ≠ (fmix (wov (ed n9) mf) t2 304) j) 304))] [] (hput (hput (hput (bringH (sc (hput h 2 (oI 304 (fmix (wov (ed n9) mf) t2 304))) 14 15 q2 s2) nw mcn stf mf (fmix (wov (ed n9) mf) t2 304) tl) 12 (oI 40 (fput gf mcn (nw + 1)))) 6 (oO 2 [vI (nw + 1), vR 11, vR 12, vI (mcn + 1)])) (brN n9) (oO 0 [vI 0, vR (brN n9 + 1), vR (brN n9 + 2), vR (brN n9 + 3), vR (brN n9 + 4)])) _ _
          refine st_iload_n C 3 dX10_merge_99 rfl rfl ?_
          exact st_ireturn C F dX10_merge_100 rfl (by first | exact ⟨rfl, rfl⟩ | (exfalso; omega) | exact absurd (by assumption) hQ | exact absurd hQ (by assumption)) (by omega) (by omega)
    · exact st_throw C F dX10_merge_41 dX10_merge_44 dX10_merge_45 dX10_merge_48 xw_X10_92 (by decide) (by first | exact ⟨rfl, rfl⟩ | (exfalso; omega) | exact absurd (by assumption) hQ | exact absurd hQ (by assumption)) (by omega) (by omega)
set_option maxRecDepth 20000 in
set_option maxHeartbeats 4000000 in
theorem s_merge_x2b {g : Gx} {h : HP} {rc dc : Int} {op : Int → Int} {bs ed co no : Int → Int → Int} {mf : Int → Int} {rk ra rb : Int → Int} {rn : Int → Nat} {t2 : Int → Int} {n9 r9 : Int} {mk : Int} {tl : Int → Int} {nw mcn : Int} {sv : Int → Int → Int} {gf : Int → Int} {stf : Int → Option Nat} (hs : cS h rc dc) (hB : cB h op bs ed co no) (hM : cM h mf) (hO : 0 ≤ n9 ∧ n9 ≤ 3 ∧ op n9 = 1) (hR : cR h rc rk ra rb rn) (hrc : 0 ≤ rc ∧ rc ≤ 6) (hok : ∀ i, 0 ≤ i → i < rc → RuleOk (rk i) (ra i) (rb i)) (hX : cX h) (hT : h 2 = some (oI 304 t2)) (hF : IsFirst (fun i => ¬ RuleHolds (rk i) (ra i) (rb i) (fmix (wov (ed n9) mf) t2 304)) rc r9) (hL : cL h mk tl) (hH : cHf h nw mcn sv gf stf) (hnw : 0 ≤ nw ∧ nw ≤ 40) (hq : ¬ 0 < cnt (fun j => Cf (ed n9) (bs n9) (co n9) j (mf j)) 304) (hQ : r9 ≠ -1) : Ct g yX10_merge (.code yX10_merge cX10_merge 4 (some .int)) 7 4 330 [vR 0, vI n9] h (ThS "java/lang/UnsupportedOperationException" (hput h 2 (oI 304 (fmix (wov (ed n9) mf) t2 304))) 14 15) := by
  refine Ct.of (by decide) (Nat.le_of_ble_eq_true rfl) (fun x hg C F => ?_)
  subst hg
  obtain ⟨bf, hbf, hbr⟩ := id hB
  obtain ⟨hbn, h_0, h_1, h_2, h_3, h_4, hop⟩ := hbr n9 (by omega) (by omega)
  have hbi := brN_in (i := n9) (by omega)
  obtain ⟨hx9, ⟨qa, hx14⟩, sa, hx15⟩ := id hX
  obtain ⟨hHR, hH12, hHn⟩ := id hH
  have hH6 := hHR.1
  have hH11 := hHR.2.1
  have hge : 102 ≤ stN (nw + 1) := stN_ge (by omega)
  show T x 0 [(0, vR 0), (1, vI n9)] [] h 0 0
  refine st_aload_n C 0 dX10_merge_0 rfl rfl ?_
  refine st_iload_n C 1 dX10_merge_1 rfl rfl ?_
  refine st_callV (st := []) C dX10_merge_2 [vI n9] (k_openBranch_t (rc := rc) (dc := dc) (op := op) (bs := bs) (ed := ed) (co := co) (no := no) (n9 := n9) hs hB hO) hs w_X10_106 rfl (by decide) (by decide) (by omega) (by omega) (Nat.le_of_ble_eq_true rfl) (ko_rt ?_)
  show T x 5 [(0, vR 0), (1, vI n9)] [vR (brN n9)] _ _ _
  refine st_astore_n C 2 dX10_merge_5 rfl (by decide) rfl ?_
  show T x 6 [(0, vR 0), (1, vI n9), (2, vR (brN n9))] [] _ _ _
  refine st_aload_n C 2 dX10_merge_6 rfl rfl ?_
  refine st_aload_n C 0 dX10_merge_7 rfl rfl ?_
  refine st_getf C dX10_merge_8 fl_X10_9 hs rfl ?_
  refine st_aload_n C 0 dX10_merge_11 rfl rfl ?_
  refine st_getf C dX10_merge_12 fl_X10_13 hs rfl ?_
  refine st_callV (st := []) C dX10_merge_15 [vR 1, vR 2] (k_writeOver (b := (brN n9)) (op := (op n9)) (bs := (bs n9)) (ed := (ed n9)) (co := (co n9)) (no := (no n9)) (mf := mf) (tf := t2) h_0 h_1 h_2 h_3 h_4 hM hT (by omega) (by omega) (by omega)) h_0 w_X10_170 rfl (by decide) (by decide) (by omega) (by omega) (Nat.le_of_ble_eq_true rfl) (ko_rn ?_)
  show T x 18 [(0, vR 0), (1, vI n9), (2, vR (brN n9))] [] (hput h 2 (oI 304 (fmix (wov (ed n9) mf) t2 304))) _ _
  refine st_aload_n C 2 dX10_merge_18 rfl rfl ?_
  refine st_aload_n C 0 dX10_merge_19 rfl rfl ?_
  refine st_getf C dX10_merge_20 fl_X10_9 (hput_o (by omega) hs) rfl ?_
  refine st_callV (st := []) C dX10_merge_23 [vR 1] (k_conflictCount (b := (brN n9)) (op := (op n9)) (bs := (bs n9)) (ed := (ed n9)) (co := (co n9)) (no := (no n9)) (mf := mf) (hput_o (by omega) h_0) (hput_o (by omega) h_1) (hput_o (by omega) h_2) (hput_o (by omega) h_3) (hput_o (by omega) h_4) (hput_o (by omega) hM)) (hput_o (by omega) h_0) w_X10_146 rfl (by decide) (by decide) (by omega) (by omega) (Nat.le_of_ble_eq_true rfl) (ko_rt ?_)
  show T x 26 [(0, vR 0), (1, vI n9), (2, vR (brN n9))] [vI (cnt (fun j => Cf (ed n9) (bs n9) (co n9) j (mf j)) 304)] _ _ _
  refine st_if_gt (tgt := 41) C dX10_merge_26 (by decide) (fun c_26 => ?_) (fun c_26 => ?_)
  · exact st_throw C F dX10_merge_41 dX10_merge_44 dX10_merge_45 dX10_merge_48 xw_X10_92 (by decide) (by first | exact ⟨rfl, q2, s2, rfl⟩ | (exfalso; omega) | exact absurd (by assumption) hQ | exact absurd hQ (by assumption)) (by omega) (by omega)
  · refine st_aload_n C 0 dX10_merge_29 rfl rfl ?_
    refine st_aload_n C 0 dX10_merge_30 rfl rfl ?_
    refine st_getf C dX10_merge_31 fl_X10_13 (hput_o (by omega) hs) rfl ?_
    refine st_callV (st := []) C dX10_merge_34 [vR 2] (k_firstBroken (rk := rk) (ra := ra) (rb := rb) (rn := rn) (rf := (fmix (wov (ed n9) mf) t2 304)) (r9 := r9) (hput_o (by omega) hs) (cR.put hR (by omega) (by omega)) hrc hok ⟨(hput_o (by omega) hx9), ⟨_, (hput_o (by omega) hx14)⟩, _, (hput_o (by omega) hx15)⟩ hput_s (by omega) (by omega) hF) (hput_o (by omega) hs) w_X10_174 rfl (by decide) (by decide) (by omega) (by omega) (Nat.le_of_ble_eq_true rfl) (ko_rs (fun q2 s2 _ => ?_))
    show T x 37 [(0, vR 0), (1, vI n9), (2, vR (brN n9))] [vI r9] _ _ _
    refine st_iconst C dX10_merge_37 (by decide) ?_
    refine st_icmp_eq (tgt := 49) C dX10_merge_38 (by decide) (fun c_38 => ?_) (fun c_38 => ?_)
    · refine st_aload_n C 0 dX10_merge_49 rfl rfl ?_
      refine st_getf C dX10_merge_50 fl_X10_9 (sc_o (by omega) (by omega) (hput_o (by omega) hs)) rfl ?_
      refine st_aload_n C 0 dX10_merge_53 rfl rfl ?_
      refine st_getf C dX10_merge_54 fl_X10_13 (sc_o (by omega) (by omega) (hput_o (by omega) hs)) rfl ?_
      refine st_callS (st := []) C dX10_merge_57 [vR 1, vR 2] (k_unlike (f := mf) (f2 := (fmix (wov (ed n9) mf) t2 304)) (sc_o (by omega) (by omega) (hput_o (by omega) hM)) (sc_o (by omega) (by omega) hput_s)) w_X10_177 rfl (by decide) (by decide) (by omega) (by omega) (Nat.le_of_ble_eq_true rfl) (ko_rt ?_)
      show T x 60 [(0, vR 0), (1, vI n9), (2, vR (brN n9))] [vI (cnt (fun j => mf j ≠ (fmix (wov (ed n9) mf) t2 304) j) 304)] _ _ _
      refine st_istore_n C 3 dX10_merge_60 rfl (by decide) rfl ?_
      show T x 61 [(0, vR 0), (1, vI n9), (2, vR (brN n9)), (3, vI (cnt (fun j => mf j ≠ (fmix (wov (ed n9) mf) t2 304) j) 304))] [] _ _ _
      refine st_iload_n C 3 dX10_merge_61 rfl rfl ?_
      refine st_if_le (tgt := 94) C dX10_merge_62 (by decide) (fun c_62 => ?_) (fun c_62 => ?_)
      · refine st_aload_n C 2 dX10_merge_94 rfl rfl ?_
        refine st_iconst C dX10_merge_95 (by decide) ?_
        refine st_putf C dX10_merge_96 fp_X10_98 (fun q => by cases q) (sc_o (by omega) (by omega) (hput_o (by omega) h_0)) (Nat.le_of_ble_eq_true rfl) (fit_bool (by omega)) ?_
        show T x 99 [(0, vR 0), (1, vI n9), (2, vR (brN n9)), (3, vI (cnt (fun j => mf j ≠ (fmix (wov (ed n9) mf) t2 304) j) 304))] [] (hput (sc (hput h 2 (oI 304 (fmix (wov (ed n9) mf) t2 304))) 14 15 q2 s2) (brN n9) (oO 0 [vI 0, vR (brN n9 + 1), vR (brN n9 + 2), vR (brN n9 + 3), vR (brN n9 + 4)])) _ _
        refine st_iload_n C 3 dX10_merge_99 rfl rfl ?_
        exact st_ireturn C F dX10_merge_100 rfl (by first | exact ⟨rfl, q2, s2, rfl⟩ | (exfalso; omega) | exact absurd (by assumption) hQ | exact absurd hQ (by assumption)) (by omega) (by omega)
      · refine st_aload_n C 0 dX10_merge_65 rfl rfl ?_
        refine st_getf C dX10_merge_66 fl_X10_44 (sc_o (by omega) (by omega) (hput_o (by omega) hs)) rfl ?_
        by_cases b_69 : 40 ≤ nw
        · refine st_callV (st := []) C dX10_merge_69 [] (k_hFull_t (sc_o (by omega) (by omega) (hput_o (by omega) hH6)) b_69) (sc_o (by omega) (by omega) (hput_o (by omega) hH6)) w_X10_181 rfl (by decide) (by decide) (by omega) (by omega) (Nat.le_of_ble_eq_true rfl) (ko_rt ?_)
          show T x 72 [(0, vR 0), (1, vI n9), (2, vR (brN n9)), (3, vI (cnt (fun j => mf j ≠ (fmix (wov (ed n9) mf) t2 304) j) 304))] [vI 1] _ _ _
          refine st_if_eq (tgt := 83) C dX10_merge_72 (by decide) (fun c_72 => by omega) (fun c_72 => ?_)
          exact st_throw C F dX10_merge_75 dX10_merge_78 dX10_merge_79 dX10_merge_82 xw_X10_95 (by decide) (by first | exact ⟨rfl, q2, s2, rfl⟩ | (exfalso; omega) | exact absurd (by assumption) hQ | exact absurd hQ (by assumption)) (by omega) (by omega)
        · refine st_callV (st := []) C dX10_merge_69 [] (k_hFull_f (sc_o (by omega) (by omega) (hput_o (by omega) hH6)) (by omega)) (sc_o (by omega) (by omega) (hput_o (by omega) hH6)) w_X10_181 rfl (by decide) (by decide) (by omega) (by omega) (Nat.le_of_ble_eq_true rfl) (ko_rt ?_)
          show T x 72 [(0, vR 0), (1, vI n9), (2, vR (brN n9)), (3, vI (cnt (fun j => mf j ≠ (fmix (wov (ed n9) mf) t2 304) j) 304))] [vI 0] _ _ _
          refine st_if_eq (tgt := 83) C dX10_merge_72 (by decide) (fun c_72 => ?_) (fun c_72 => by omega)
          refine st_aload_n C 0 dX10_merge_83 rfl rfl ?_
          refine st_callV (st := []) C dX10_merge_84 [] (k_bring9 (rc := rc) (dc := dc) (mf := mf) (tl := tl) (t2 := (fmix (wov (ed n9) mf) t2 304)) (sc_o (by omega) (by omega) (hput_o (by omega) hs)) (sc_o (by omega) (by omega) (hput_o (by omega) hM)) ⟨(sc_o (by omega) (by omega) (hput_o (by omega) hL.1)), (sc_o (by omega) (by omega) (hput_o (by omega) hL.2))⟩ (cHf.put (cHf.put (cHf.put hH hnw (by omega) (by omega)) hnw (by omega) (by omega)) hnw (by omega) (by omega)) hnw (sc_o (by omega) (by omega) hput_s) (by omega)) (sc_o (by omega) (by omega) (hput_o (by omega) hs)) w_X10_185 rfl (by decide) (by decide) (by omega) (by omega) (Nat.le_of_ble_eq_true rfl) (ko_rn ?_)
          show T x 87 [(0, vR 0), (1, vI n9), (2, vR (brN n9)), (3, vI (cnt (fun j => mf j ≠ (fmix (wov (ed n9) mf) t2 304) j) 304))] [] _ _ _
          refine st_aload_n C 0 dX10_merge_87 rfl rfl ?_
          refine st_getf C dX10_merge_88 fl_X10_44 (bringH_o hnw.1 (by omega) (by omega) (sc_o (by omega) (by omega) (hput_o (by omega) hs))) rfl ?_
          refine st_callV (st := []) C dX10_merge_91 [] (k_remember (nw := (nw + 1)) (mcn := mcn) (gf := gf) (bringH_6 hnw.1) (bringH_o hnw.1 (by omega) (by omega) (sc_o (by omega) (by omega) (hput_o (by omega) hH12))) (by omega) (by omega)) (bringH_6 hnw.1) w_X10_188 rfl (by decide) (by decide) (by omega) (by omega) (Nat.le_of_ble_eq_true rfl) (ko_rn ?_)
          show T x 94 [(0, vR 0), (1, vI n9), (2, vR (brN n9)), (3, vI (cnt (fun j => mf j ≠ (fmix (wov (ed n9) mf) t2 304) j) 304))] [] (hput (hput (bringH (sc (hput h 2 (oI 304 (fmix (wov (ed n9) mf) t2 304))) 14 15 q2 s2) nw mcn stf mf (fmix (wov (ed n9) mf) t2 304) tl) 12 (oI 40 (fput gf mcn (nw + 1)))) 6 (oO 2 [vI (nw + 1), vR 11, vR 12, vI (mcn + 1)])) _ _
          refine st_aload_n C 2 dX10_merge_94 rfl rfl ?_
          refine st_iconst C dX10_merge_95 (by decide) ?_
          refine st_putf C dX10_merge_96 fp_X10_98 (fun q => by cases q) (hput_o (by omega) (hput_o (by omega) (bringH_o hnw.1 (by omega) (by omega) (sc_o (by omega) (by omega) (hput_o (by omega) h_0))))) (Nat.le_of_ble_eq_true rfl) (fit_bool (by omega)) ?_
          show T x 99 [(0, vR 0), (1, vI n9), (2, vR (brN n9)), (3, vI (cnt (fun j => mf j ≠ (fmix (wov (ed n9) mf) t2 304) j) 304))] [] (hput (hput (hput (bringH (sc (hput h 2 (oI 304 (fmix (wov (ed n9) mf) t2 304))) 14 15 q2 s2) nw mcn stf mf (fmix (wov (ed n9) mf) t2 304) tl) 12 (oI 40 (fput gf mcn (nw + 1)))) 6 (oO 2 [vI (nw + 1), vR 11, vR 12, vI (mcn + 1)])) (brN n9) (oO 0 [vI 0, vR (brN n9 + 1), vR (brN n9 + 2), vR (brN n9 + 3), vR (brN n9 + 4)])) _ _
          refine st_iload_n C 3 dX10_merge_99 rfl rfl ?_
          exact st_ireturn C F dX10_merge_100 rfl (by first | exact ⟨rfl, q2, s2, rfl⟩ | (exfalso; omega) | exact absurd (by assumption) hQ | exact absurd hQ (by assumption)) (by omega) (by omega)
    · exact st_throw C F dX10_merge_41 dX10_merge_44 dX10_merge_45 dX10_merge_48 xw_X10_92 (by decide) (by first | exact ⟨rfl, q2, s2, rfl⟩ | (exfalso; omega) | exact absurd (by assumption) hQ | exact absurd hQ (by assumption)) (by omega) (by omega)
set_option maxRecDepth 20000 in
set_option maxHeartbeats 4000000 in
theorem s_merge_0 {g : Gx} {h : HP} {rc dc : Int} {op : Int → Int} {bs ed co no : Int → Int → Int} {mf : Int → Int} {rk ra rb : Int → Int} {rn : Int → Nat} {t2 : Int → Int} {n9 r9 : Int} {mk : Int} {tl : Int → Int} {nw mcn : Int} {sv : Int → Int → Int} {gf : Int → Int} {stf : Int → Option Nat} (hs : cS h rc dc) (hB : cB h op bs ed co no) (hM : cM h mf) (hO : 0 ≤ n9 ∧ n9 ≤ 3 ∧ op n9 = 1) (hR : cR h rc rk ra rb rn) (hrc : 0 ≤ rc ∧ rc ≤ 6) (hok : ∀ i, 0 ≤ i → i < rc → RuleOk (rk i) (ra i) (rb i)) (hX : cX h) (hT : h 2 = some (oI 304 t2)) (hF : IsFirst (fun i => ¬ RuleHolds (rk i) (ra i) (rb i) (fmix (wov (ed n9) mf) t2 304)) rc r9) (hL : cL h mk tl) (hH : cHf h nw mcn sv gf stf) (hnw : 0 ≤ nw ∧ nw ≤ 40) (hq : ¬ 0 < cnt (fun j => Cf (ed n9) (bs n9) (co n9) j (mf j)) 304) (hr : r9 = -1) (hQ : ¬ 0 < cnt (fun j => mf j ≠ (fmix (wov (ed n9) mf) t2 304) j) 304) : Ct g yX10_merge (.code yX10_merge cX10_merge 4 (some .int)) 7 4 330 [vR 0, vI n9] h ((fun r h' => r = .inl (some (vI (cnt (fun j => mf j ≠ (fmix (wov (ed n9) mf) t2 304) j) 304))) ∧ ∃ q s : Int → Int, h' = hput (sc (hput h 2 (oI 304 (fmix (wov (ed n9) mf) t2 304))) 14 15 q s) (brN n9) (oO 0 [vI 0, vR (brN n9 + 1), vR (brN n9 + 2), vR (brN n9 + 3), vR (brN n9 + 4)]))) := by
  refine Ct.of (by decide) (Nat.le_of_ble_eq_true rfl) (fun x hg C F => ?_)
  subst hg
  obtain ⟨bf, hbf, hbr⟩ := id hB
  obtain ⟨hbn, h_0, h_1, h_2, h_3, h_4, hop⟩ := hbr n9 (by omega) (by omega)
  have hbi := brN_in (i := n9) (by omega)
  obtain ⟨hx9, ⟨qa, hx14⟩, sa, hx15⟩ := id hX
  obtain ⟨hHR, hH12, hHn⟩ := id hH
  have hH6 := hHR.1
  have hH11 := hHR.2.1
  have hge : 102 ≤ stN (nw + 1) := stN_ge (by omega)
  show T x 0 [(0, vR 0), (1, vI n9)] [] h 0 0
  refine st_aload_n C 0 dX10_merge_0 rfl rfl ?_
  refine st_iload_n C 1 dX10_merge_1 rfl rfl ?_
  refine st_callV (st := []) C dX10_merge_2 [vI n9] (k_openBranch_t (rc := rc) (dc := dc) (op := op) (bs := bs) (ed := ed) (co := co) (no := no) (n9 := n9) hs hB hO) hs w_X10_106 rfl (by decide) (by decide) (by omega) (by omega) (Nat.le_of_ble_eq_true rfl) (ko_rt ?_)
  show T x 5 [(0, vR 0), (1, vI n9)] [vR (brN n9)] _ _ _
  refine st_astore_n C 2 dX10_merge_5 rfl (by decide) rfl ?_
  show T x 6 [(0, vR 0), (1, vI n9), (2, vR (brN n9))] [] _ _ _
  refine st_aload_n C 2 dX10_merge_6 rfl rfl ?_
  refine st_aload_n C 0 dX10_merge_7 rfl rfl ?_
  refine st_getf C dX10_merge_8 fl_X10_9 hs rfl ?_
  refine st_aload_n C 0 dX10_merge_11 rfl rfl ?_
  refine st_getf C dX10_merge_12 fl_X10_13 hs rfl ?_
  refine st_callV (st := []) C dX10_merge_15 [vR 1, vR 2] (k_writeOver (b := (brN n9)) (op := (op n9)) (bs := (bs n9)) (ed := (ed n9)) (co := (co n9)) (no := (no n9)) (mf := mf) (tf := t2) h_0 h_1 h_2 h_3 h_4 hM hT (by omega) (by omega) (by omega)) h_0 w_X10_170 rfl (by decide) (by decide) (by omega) (by omega) (Nat.le_of_ble_eq_true rfl) (ko_rn ?_)
  show T x 18 [(0, vR 0), (1, vI n9), (2, vR (brN n9))] [] (hput h 2 (oI 304 (fmix (wov (ed n9) mf) t2 304))) _ _
  refine st_aload_n C 2 dX10_merge_18 rfl rfl ?_
  refine st_aload_n C 0 dX10_merge_19 rfl rfl ?_
  refine st_getf C dX10_merge_20 fl_X10_9 (hput_o (by omega) hs) rfl ?_
  refine st_callV (st := []) C dX10_merge_23 [vR 1] (k_conflictCount (b := (brN n9)) (op := (op n9)) (bs := (bs n9)) (ed := (ed n9)) (co := (co n9)) (no := (no n9)) (mf := mf) (hput_o (by omega) h_0) (hput_o (by omega) h_1) (hput_o (by omega) h_2) (hput_o (by omega) h_3) (hput_o (by omega) h_4) (hput_o (by omega) hM)) (hput_o (by omega) h_0) w_X10_146 rfl (by decide) (by decide) (by omega) (by omega) (Nat.le_of_ble_eq_true rfl) (ko_rt ?_)
  show T x 26 [(0, vR 0), (1, vI n9), (2, vR (brN n9))] [vI (cnt (fun j => Cf (ed n9) (bs n9) (co n9) j (mf j)) 304)] _ _ _
  refine st_if_gt (tgt := 41) C dX10_merge_26 (by decide) (fun c_26 => ?_) (fun c_26 => ?_)
  · exact st_throw C F dX10_merge_41 dX10_merge_44 dX10_merge_45 dX10_merge_48 xw_X10_92 (by decide) (by first | exact ⟨rfl, q2, s2, rfl⟩ | (exfalso; omega) | exact absurd (by assumption) hQ | exact absurd hQ (by assumption)) (by omega) (by omega)
  · refine st_aload_n C 0 dX10_merge_29 rfl rfl ?_
    refine st_aload_n C 0 dX10_merge_30 rfl rfl ?_
    refine st_getf C dX10_merge_31 fl_X10_13 (hput_o (by omega) hs) rfl ?_
    refine st_callV (st := []) C dX10_merge_34 [vR 2] (k_firstBroken (rk := rk) (ra := ra) (rb := rb) (rn := rn) (rf := (fmix (wov (ed n9) mf) t2 304)) (r9 := r9) (hput_o (by omega) hs) (cR.put hR (by omega) (by omega)) hrc hok ⟨(hput_o (by omega) hx9), ⟨_, (hput_o (by omega) hx14)⟩, _, (hput_o (by omega) hx15)⟩ hput_s (by omega) (by omega) hF) (hput_o (by omega) hs) w_X10_174 rfl (by decide) (by decide) (by omega) (by omega) (Nat.le_of_ble_eq_true rfl) (ko_rs (fun q2 s2 _ => ?_))
    show T x 37 [(0, vR 0), (1, vI n9), (2, vR (brN n9))] [vI r9] _ _ _
    refine st_iconst C dX10_merge_37 (by decide) ?_
    refine st_icmp_eq (tgt := 49) C dX10_merge_38 (by decide) (fun c_38 => ?_) (fun c_38 => by omega)
    refine st_aload_n C 0 dX10_merge_49 rfl rfl ?_
    refine st_getf C dX10_merge_50 fl_X10_9 (sc_o (by omega) (by omega) (hput_o (by omega) hs)) rfl ?_
    refine st_aload_n C 0 dX10_merge_53 rfl rfl ?_
    refine st_getf C dX10_merge_54 fl_X10_13 (sc_o (by omega) (by omega) (hput_o (by omega) hs)) rfl ?_
    refine st_callS (st := []) C dX10_merge_57 [vR 1, vR 2] (k_unlike (f := mf) (f2 := (fmix (wov (ed n9) mf) t2 304)) (sc_o (by omega) (by omega) (hput_o (by omega) hM)) (sc_o (by omega) (by omega) hput_s)) w_X10_177 rfl (by decide) (by decide) (by omega) (by omega) (Nat.le_of_ble_eq_true rfl) (ko_rt ?_)
    show T x 60 [(0, vR 0), (1, vI n9), (2, vR (brN n9))] [vI (cnt (fun j => mf j ≠ (fmix (wov (ed n9) mf) t2 304) j) 304)] _ _ _
    refine st_istore_n C 3 dX10_merge_60 rfl (by decide) rfl ?_
    show T x 61 [(0, vR 0), (1, vI n9), (2, vR (brN n9)), (3, vI (cnt (fun j => mf j ≠ (fmix (wov (ed n9) mf) t2 304) j) 304))] [] _ _ _
    refine st_iload_n C 3 dX10_merge_61 rfl rfl ?_
    refine st_if_le (tgt := 94) C dX10_merge_62 (by decide) (fun c_62 => ?_) (fun c_62 => ?_)
    · refine st_aload_n C 2 dX10_merge_94 rfl rfl ?_
      refine st_iconst C dX10_merge_95 (by decide) ?_
      refine st_putf C dX10_merge_96 fp_X10_98 (fun q => by cases q) (sc_o (by omega) (by omega) (hput_o (by omega) h_0)) (Nat.le_of_ble_eq_true rfl) (fit_bool (by omega)) ?_
      show T x 99 [(0, vR 0), (1, vI n9), (2, vR (brN n9)), (3, vI (cnt (fun j => mf j ≠ (fmix (wov (ed n9) mf) t2 304) j) 304))] [] (hput (sc (hput h 2 (oI 304 (fmix (wov (ed n9) mf) t2 304))) 14 15 q2 s2) (brN n9) (oO 0 [vI 0, vR (brN n9 + 1), vR (brN n9 + 2), vR (brN n9 + 3), vR (brN n9 + 4)])) _ _
      refine st_iload_n C 3 dX10_merge_99 rfl rfl ?_
      exact st_ireturn C F dX10_merge_100 rfl (by first | exact ⟨rfl, q2, s2, rfl⟩ | (exfalso; omega) | exact absurd (by assumption) hQ | exact absurd hQ (by assumption)) (by omega) (by omega)
    · refine st_aload_n C 0 dX10_merge_65 rfl rfl ?_
      refine st_getf C dX10_merge_66 fl_X10_44 (sc_o (by omega) (by omega) (hput_o (by omega) hs)) rfl ?_
      by_cases b_69 : 40 ≤ nw
      · refine st_callV (st := []) C dX10_merge_69 [] (k_hFull_t (sc_o (by omega) (by omega) (hput_o (by omega) hH6)) b_69) (sc_o (by omega) (by omega) (hput_o (by omega) hH6)) w_X10_181 rfl (by decide) (by decide) (by omega) (by omega) (Nat.le_of_ble_eq_true rfl) (ko_rt ?_)
        show T x 72 [(0, vR 0), (1, vI n9), (2, vR (brN n9)), (3, vI (cnt (fun j => mf j ≠ (fmix (wov (ed n9) mf) t2 304) j) 304))] [vI 1] _ _ _
        refine st_if_eq (tgt := 83) C dX10_merge_72 (by decide) (fun c_72 => by omega) (fun c_72 => ?_)
        exact st_throw C F dX10_merge_75 dX10_merge_78 dX10_merge_79 dX10_merge_82 xw_X10_95 (by decide) (by first | exact ⟨rfl, q2, s2, rfl⟩ | (exfalso; omega) | exact absurd (by assumption) hQ | exact absurd hQ (by assumption)) (by omega) (by omega)
      · refine st_callV (st := []) C dX10_merge_69 [] (k_hFull_f (sc_o (by omega) (by omega) (hput_o (by omega) hH6)) (by omega)) (sc_o (by omega) (by omega) (hput_o (by omega) hH6)) w_X10_181 rfl (by decide) (by decide) (by omega) (by omega) (Nat.le_of_ble_eq_true rfl) (ko_rt ?_)
        show T x 72 [(0, vR 0), (1, vI n9), (2, vR (brN n9)), (3, vI (cnt (fun j => mf j ≠ (fmix (wov (ed n9) mf) t2 304) j) 304))] [vI 0] _ _ _
        refine st_if_eq (tgt := 83) C dX10_merge_72 (by decide) (fun c_72 => ?_) (fun c_72 => by omega)
        refine st_aload_n C 0 dX10_merge_83 rfl rfl ?_
        refine st_callV (st := []) C dX10_merge_84 [] (k_bring9 (rc := rc) (dc := dc) (mf := mf) (tl := tl) (t2 := (fmix (wov (ed n9) mf) t2 304)) (sc_o (by omega) (by omega) (hput_o (by omega) hs)) (sc_o (by omega) (by omega) (hput_o (by omega) hM)) ⟨(sc_o (by omega) (by omega) (hput_o (by omega) hL.1)), (sc_o (by omega) (by omega) (hput_o (by omega) hL.2))⟩ (cHf.put (cHf.put (cHf.put hH hnw (by omega) (by omega)) hnw (by omega) (by omega)) hnw (by omega) (by omega)) hnw (sc_o (by omega) (by omega) hput_s) (by omega)) (sc_o (by omega) (by omega) (hput_o (by omega) hs)) w_X10_185 rfl (by decide) (by decide) (by omega) (by omega) (Nat.le_of_ble_eq_true rfl) (ko_rn ?_)
        show T x 87 [(0, vR 0), (1, vI n9), (2, vR (brN n9)), (3, vI (cnt (fun j => mf j ≠ (fmix (wov (ed n9) mf) t2 304) j) 304))] [] _ _ _
        refine st_aload_n C 0 dX10_merge_87 rfl rfl ?_
        refine st_getf C dX10_merge_88 fl_X10_44 (bringH_o hnw.1 (by omega) (by omega) (sc_o (by omega) (by omega) (hput_o (by omega) hs))) rfl ?_
        refine st_callV (st := []) C dX10_merge_91 [] (k_remember (nw := (nw + 1)) (mcn := mcn) (gf := gf) (bringH_6 hnw.1) (bringH_o hnw.1 (by omega) (by omega) (sc_o (by omega) (by omega) (hput_o (by omega) hH12))) (by omega) (by omega)) (bringH_6 hnw.1) w_X10_188 rfl (by decide) (by decide) (by omega) (by omega) (Nat.le_of_ble_eq_true rfl) (ko_rn ?_)
        show T x 94 [(0, vR 0), (1, vI n9), (2, vR (brN n9)), (3, vI (cnt (fun j => mf j ≠ (fmix (wov (ed n9) mf) t2 304) j) 304))] [] (hput (hput (bringH (sc (hput h 2 (oI 304 (fmix (wov (ed n9) mf) t2 304))) 14 15 q2 s2) nw mcn stf mf (fmix (wov (ed n9) mf) t2 304) tl) 12 (oI 40 (fput gf mcn (nw + 1)))) 6 (oO 2 [vI (nw + 1), vR 11, vR 12, vI (mcn + 1)])) _ _
        refine st_aload_n C 2 dX10_merge_94 rfl rfl ?_
        refine st_iconst C dX10_merge_95 (by decide) ?_
        refine st_putf C dX10_merge_96 fp_X10_98 (fun q => by cases q) (hput_o (by omega) (hput_o (by omega) (bringH_o hnw.1 (by omega) (by omega) (sc_o (by omega) (by omega) (hput_o (by omega) h_0))))) (Nat.le_of_ble_eq_true rfl) (fit_bool (by omega)) ?_
        show T x 99 [(0, vR 0), (1, vI n9), (2, vR (brN n9)), (3, vI (cnt (fun j => mf j ≠ (fmix (wov (ed n9) mf) t2 304) j) 304))] [] (hput (hput (hput (bringH (sc (hput h 2 (oI 304 (fmix (wov (ed n9) mf) t2 304))) 14 15 q2 s2) nw mcn stf mf (fmix (wov (ed n9) mf) t2 304) tl) 12 (oI 40 (fput gf mcn (nw + 1)))) 6 (oO 2 [vI (nw + 1), vR 11, vR 12, vI (mcn + 1)])) (brN n9) (oO 0 [vI 0, vR (brN n9 + 1), vR (brN n9 + 2), vR (brN n9 + 3), vR (brN n9 + 4)])) _ _
        refine st_iload_n C 3 dX10_merge_99 rfl rfl ?_
        exact st_ireturn C F dX10_merge_100 rfl (by first | exact ⟨rfl, q2, s2, rfl⟩ | (exfalso; omega) | exact absurd (by assumption) hQ | exact absurd hQ (by assumption)) (by omega) (by omega)
set_option maxRecDepth 20000 in
set_option maxHeartbeats 4000000 in
theorem s_merge_x3 {g : Gx} {h : HP} {rc dc : Int} {op : Int → Int} {bs ed co no : Int → Int → Int} {mf : Int → Int} {rk ra rb : Int → Int} {rn : Int → Nat} {t2 : Int → Int} {n9 r9 : Int} {mk : Int} {tl : Int → Int} {nw mcn : Int} {sv : Int → Int → Int} {gf : Int → Int} {stf : Int → Option Nat} (hs : cS h rc dc) (hB : cB h op bs ed co no) (hM : cM h mf) (hO : 0 ≤ n9 ∧ n9 ≤ 3 ∧ op n9 = 1) (hR : cR h rc rk ra rb rn) (hrc : 0 ≤ rc ∧ rc ≤ 6) (hok : ∀ i, 0 ≤ i → i < rc → RuleOk (rk i) (ra i) (rb i)) (hX : cX h) (hT : h 2 = some (oI 304 t2)) (hF : IsFirst (fun i => ¬ RuleHolds (rk i) (ra i) (rb i) (fmix (wov (ed n9) mf) t2 304)) rc r9) (hL : cL h mk tl) (hH : cHf h nw mcn sv gf stf) (hnw : 0 ≤ nw ∧ nw ≤ 40) (hq : ¬ 0 < cnt (fun j => Cf (ed n9) (bs n9) (co n9) j (mf j)) 304) (hr : r9 = -1) (hQ : 0 < cnt (fun j => mf j ≠ (fmix (wov (ed n9) mf) t2 304) j) 304) (hfull : 40 ≤ nw) : Ct g yX10_merge (.code yX10_merge cX10_merge 4 (some .int)) 7 4 330 [vR 0, vI n9] h (ThS "java/lang/IllegalStateException" (hput h 2 (oI 304 (fmix (wov (ed n9) mf) t2 304))) 14 15) := by
  refine Ct.of (by decide) (Nat.le_of_ble_eq_true rfl) (fun x hg C F => ?_)
  subst hg
  obtain ⟨bf, hbf, hbr⟩ := id hB
  obtain ⟨hbn, h_0, h_1, h_2, h_3, h_4, hop⟩ := hbr n9 (by omega) (by omega)
  have hbi := brN_in (i := n9) (by omega)
  obtain ⟨hx9, ⟨qa, hx14⟩, sa, hx15⟩ := id hX
  obtain ⟨hHR, hH12, hHn⟩ := id hH
  have hH6 := hHR.1
  have hH11 := hHR.2.1
  have hge : 102 ≤ stN (nw + 1) := stN_ge (by omega)
  show T x 0 [(0, vR 0), (1, vI n9)] [] h 0 0
  refine st_aload_n C 0 dX10_merge_0 rfl rfl ?_
  refine st_iload_n C 1 dX10_merge_1 rfl rfl ?_
  refine st_callV (st := []) C dX10_merge_2 [vI n9] (k_openBranch_t (rc := rc) (dc := dc) (op := op) (bs := bs) (ed := ed) (co := co) (no := no) (n9 := n9) hs hB hO) hs w_X10_106 rfl (by decide) (by decide) (by omega) (by omega) (Nat.le_of_ble_eq_true rfl) (ko_rt ?_)
  show T x 5 [(0, vR 0), (1, vI n9)] [vR (brN n9)] _ _ _
  refine st_astore_n C 2 dX10_merge_5 rfl (by decide) rfl ?_
  show T x 6 [(0, vR 0), (1, vI n9), (2, vR (brN n9))] [] _ _ _
  refine st_aload_n C 2 dX10_merge_6 rfl rfl ?_
  refine st_aload_n C 0 dX10_merge_7 rfl rfl ?_
  refine st_getf C dX10_merge_8 fl_X10_9 hs rfl ?_
  refine st_aload_n C 0 dX10_merge_11 rfl rfl ?_
  refine st_getf C dX10_merge_12 fl_X10_13 hs rfl ?_
  refine st_callV (st := []) C dX10_merge_15 [vR 1, vR 2] (k_writeOver (b := (brN n9)) (op := (op n9)) (bs := (bs n9)) (ed := (ed n9)) (co := (co n9)) (no := (no n9)) (mf := mf) (tf := t2) h_0 h_1 h_2 h_3 h_4 hM hT (by omega) (by omega) (by omega)) h_0 w_X10_170 rfl (by decide) (by decide) (by omega) (by omega) (Nat.le_of_ble_eq_true rfl) (ko_rn ?_)
  show T x 18 [(0, vR 0), (1, vI n9), (2, vR (brN n9))] [] (hput h 2 (oI 304 (fmix (wov (ed n9) mf) t2 304))) _ _
  refine st_aload_n C 2 dX10_merge_18 rfl rfl ?_
  refine st_aload_n C 0 dX10_merge_19 rfl rfl ?_
  refine st_getf C dX10_merge_20 fl_X10_9 (hput_o (by omega) hs) rfl ?_
  refine st_callV (st := []) C dX10_merge_23 [vR 1] (k_conflictCount (b := (brN n9)) (op := (op n9)) (bs := (bs n9)) (ed := (ed n9)) (co := (co n9)) (no := (no n9)) (mf := mf) (hput_o (by omega) h_0) (hput_o (by omega) h_1) (hput_o (by omega) h_2) (hput_o (by omega) h_3) (hput_o (by omega) h_4) (hput_o (by omega) hM)) (hput_o (by omega) h_0) w_X10_146 rfl (by decide) (by decide) (by omega) (by omega) (Nat.le_of_ble_eq_true rfl) (ko_rt ?_)
  show T x 26 [(0, vR 0), (1, vI n9), (2, vR (brN n9))] [vI (cnt (fun j => Cf (ed n9) (bs n9) (co n9) j (mf j)) 304)] _ _ _
  refine st_if_gt (tgt := 41) C dX10_merge_26 (by decide) (fun c_26 => ?_) (fun c_26 => ?_)
  · exact st_throw C F dX10_merge_41 dX10_merge_44 dX10_merge_45 dX10_merge_48 xw_X10_92 (by decide) (by first | exact ⟨rfl, q2, s2, rfl⟩ | (exfalso; omega) | exact absurd (by assumption) hQ | exact absurd hQ (by assumption)) (by omega) (by omega)
  · refine st_aload_n C 0 dX10_merge_29 rfl rfl ?_
    refine st_aload_n C 0 dX10_merge_30 rfl rfl ?_
    refine st_getf C dX10_merge_31 fl_X10_13 (hput_o (by omega) hs) rfl ?_
    refine st_callV (st := []) C dX10_merge_34 [vR 2] (k_firstBroken (rk := rk) (ra := ra) (rb := rb) (rn := rn) (rf := (fmix (wov (ed n9) mf) t2 304)) (r9 := r9) (hput_o (by omega) hs) (cR.put hR (by omega) (by omega)) hrc hok ⟨(hput_o (by omega) hx9), ⟨_, (hput_o (by omega) hx14)⟩, _, (hput_o (by omega) hx15)⟩ hput_s (by omega) (by omega) hF) (hput_o (by omega) hs) w_X10_174 rfl (by decide) (by decide) (by omega) (by omega) (Nat.le_of_ble_eq_true rfl) (ko_rs (fun q2 s2 _ => ?_))
    show T x 37 [(0, vR 0), (1, vI n9), (2, vR (brN n9))] [vI r9] _ _ _
    refine st_iconst C dX10_merge_37 (by decide) ?_
    refine st_icmp_eq (tgt := 49) C dX10_merge_38 (by decide) (fun c_38 => ?_) (fun c_38 => by omega)
    refine st_aload_n C 0 dX10_merge_49 rfl rfl ?_
    refine st_getf C dX10_merge_50 fl_X10_9 (sc_o (by omega) (by omega) (hput_o (by omega) hs)) rfl ?_
    refine st_aload_n C 0 dX10_merge_53 rfl rfl ?_
    refine st_getf C dX10_merge_54 fl_X10_13 (sc_o (by omega) (by omega) (hput_o (by omega) hs)) rfl ?_
    refine st_callS (st := []) C dX10_merge_57 [vR 1, vR 2] (k_unlike (f := mf) (f2 := (fmix (wov (ed n9) mf) t2 304)) (sc_o (by omega) (by omega) (hput_o (by omega) hM)) (sc_o (by omega) (by omega) hput_s)) w_X10_177 rfl (by decide) (by decide) (by omega) (by omega) (Nat.le_of_ble_eq_true rfl) (ko_rt ?_)
    show T x 60 [(0, vR 0), (1, vI n9), (2, vR (brN n9))] [vI (cnt (fun j => mf j ≠ (fmix (wov (ed n9) mf) t2 304) j) 304)] _ _ _
    refine st_istore_n C 3 dX10_merge_60 rfl (by decide) rfl ?_
    show T x 61 [(0, vR 0), (1, vI n9), (2, vR (brN n9)), (3, vI (cnt (fun j => mf j ≠ (fmix (wov (ed n9) mf) t2 304) j) 304))] [] _ _ _
    refine st_iload_n C 3 dX10_merge_61 rfl rfl ?_
    refine st_if_le (tgt := 94) C dX10_merge_62 (by decide) (fun c_62 => ?_) (fun c_62 => ?_)
    · refine st_aload_n C 2 dX10_merge_94 rfl rfl ?_
      refine st_iconst C dX10_merge_95 (by decide) ?_
      refine st_putf C dX10_merge_96 fp_X10_98 (fun q => by cases q) (sc_o (by omega) (by omega) (hput_o (by omega) h_0)) (Nat.le_of_ble_eq_true rfl) (fit_bool (by omega)) ?_
      show T x 99 [(0, vR 0), (1, vI n9), (2, vR (brN n9)), (3, vI (cnt (fun j => mf j ≠ (fmix (wov (ed n9) mf) t2 304) j) 304))] [] (hput (sc (hput h 2 (oI 304 (fmix (wov (ed n9) mf) t2 304))) 14 15 q2 s2) (brN n9) (oO 0 [vI 0, vR (brN n9 + 1), vR (brN n9 + 2), vR (brN n9 + 3), vR (brN n9 + 4)])) _ _
      refine st_iload_n C 3 dX10_merge_99 rfl rfl ?_
      exact st_ireturn C F dX10_merge_100 rfl (by first | exact ⟨rfl, q2, s2, rfl⟩ | (exfalso; omega) | exact absurd (by assumption) hQ | exact absurd hQ (by assumption)) (by omega) (by omega)
    · refine st_aload_n C 0 dX10_merge_65 rfl rfl ?_
      refine st_getf C dX10_merge_66 fl_X10_44 (sc_o (by omega) (by omega) (hput_o (by omega) hs)) rfl ?_
      have b_69 : 40 ≤ nw := by omega
      refine st_callV (st := []) C dX10_merge_69 [] (k_hFull_t (sc_o (by omega) (by omega) (hput_o (by omega) hH6)) b_69) (sc_o (by omega) (by omega) (hput_o (by omega) hH6)) w_X10_181 rfl (by decide) (by decide) (by omega) (by omega) (Nat.le_of_ble_eq_true rfl) (ko_rt ?_)
      show T x 72 [(0, vR 0), (1, vI n9), (2, vR (brN n9)), (3, vI (cnt (fun j => mf j ≠ (fmix (wov (ed n9) mf) t2 304) j) 304))] [vI 1] _ _ _
      refine st_if_eq (tgt := 83) C dX10_merge_72 (by decide) (fun c_72 => by omega) (fun c_72 => ?_)
      exact st_throw C F dX10_merge_75 dX10_merge_78 dX10_merge_79 dX10_merge_82 xw_X10_95 (by decide) (by first | exact ⟨rfl, q2, s2, rfl⟩ | (exfalso; omega) | exact absurd (by assumption) hQ | exact absurd hQ (by assumption)) (by omega) (by omega)
set_option maxRecDepth 20000 in
set_option maxHeartbeats 4000000 in
theorem s_merge_1 {g : Gx} {h : HP} {rc dc : Int} {op : Int → Int} {bs ed co no : Int → Int → Int} {mf : Int → Int} {rk ra rb : Int → Int} {rn : Int → Nat} {t2 : Int → Int} {n9 r9 : Int} {mk : Int} {tl : Int → Int} {nw mcn : Int} {sv : Int → Int → Int} {gf : Int → Int} {stf : Int → Option Nat} (hs : cS h rc dc) (hB : cB h op bs ed co no) (hM : cM h mf) (hO : 0 ≤ n9 ∧ n9 ≤ 3 ∧ op n9 = 1) (hR : cR h rc rk ra rb rn) (hrc : 0 ≤ rc ∧ rc ≤ 6) (hok : ∀ i, 0 ≤ i → i < rc → RuleOk (rk i) (ra i) (rb i)) (hX : cX h) (hT : h 2 = some (oI 304 t2)) (hF : IsFirst (fun i => ¬ RuleHolds (rk i) (ra i) (rb i) (fmix (wov (ed n9) mf) t2 304)) rc r9) (hL : cL h mk tl) (hH : cHf h nw mcn sv gf stf) (hnw : 0 ≤ nw ∧ nw ≤ 40) (hq : ¬ 0 < cnt (fun j => Cf (ed n9) (bs n9) (co n9) j (mf j)) 304) (hr : r9 = -1) (hQ : 0 < cnt (fun j => mf j ≠ (fmix (wov (ed n9) mf) t2 304) j) 304) (hn9 : nw ≤ 39) (hmc : 0 ≤ mcn ∧ mcn ≤ 39) : Ct g yX10_merge (.code yX10_merge cX10_merge 4 (some .int)) 7 4 330 [vR 0, vI n9] h ((fun r h' => r = .inl (some (vI (cnt (fun j => mf j ≠ (fmix (wov (ed n9) mf) t2 304) j) 304))) ∧ ∃ q s : Int → Int, h' = hput (hput (hput (bringH (sc (hput h 2 (oI 304 (fmix (wov (ed n9) mf) t2 304))) 14 15 q s) nw mcn stf mf (fmix (wov (ed n9) mf) t2 304) tl) 12 (oI 40 (fput gf mcn (nw + 1)))) 6 (oO 2 [vI (nw + 1), vR 11, vR 12, vI (mcn + 1)])) (brN n9) (oO 0 [vI 0, vR (brN n9 + 1), vR (brN n9 + 2), vR (brN n9 + 3), vR (brN n9 + 4)]))) := by
  refine Ct.of (by decide) (Nat.le_of_ble_eq_true rfl) (fun x hg C F => ?_)
  subst hg
  obtain ⟨bf, hbf, hbr⟩ := id hB
  obtain ⟨hbn, h_0, h_1, h_2, h_3, h_4, hop⟩ := hbr n9 (by omega) (by omega)
  have hbi := brN_in (i := n9) (by omega)
  obtain ⟨hx9, ⟨qa, hx14⟩, sa, hx15⟩ := id hX
  obtain ⟨hHR, hH12, hHn⟩ := id hH
  have hH6 := hHR.1
  have hH11 := hHR.2.1
  have hge : 102 ≤ stN (nw + 1) := stN_ge (by omega)
  show T x 0 [(0, vR 0), (1, vI n9)] [] h 0 0
  refine st_aload_n C 0 dX10_merge_0 rfl rfl ?_
  refine st_iload_n C 1 dX10_merge_1 rfl rfl ?_
  refine st_callV (st := []) C dX10_merge_2 [vI n9] (k_openBranch_t (rc := rc) (dc := dc) (op := op) (bs := bs) (ed := ed) (co := co) (no := no) (n9 := n9) hs hB hO) hs w_X10_106 rfl (by decide) (by decide) (by omega) (by omega) (Nat.le_of_ble_eq_true rfl) (ko_rt ?_)
  show T x 5 [(0, vR 0), (1, vI n9)] [vR (brN n9)] _ _ _
  refine st_astore_n C 2 dX10_merge_5 rfl (by decide) rfl ?_
  show T x 6 [(0, vR 0), (1, vI n9), (2, vR (brN n9))] [] _ _ _
  refine st_aload_n C 2 dX10_merge_6 rfl rfl ?_
  refine st_aload_n C 0 dX10_merge_7 rfl rfl ?_
  refine st_getf C dX10_merge_8 fl_X10_9 hs rfl ?_
  refine st_aload_n C 0 dX10_merge_11 rfl rfl ?_
  refine st_getf C dX10_merge_12 fl_X10_13 hs rfl ?_
  refine st_callV (st := []) C dX10_merge_15 [vR 1, vR 2] (k_writeOver (b := (brN n9)) (op := (op n9)) (bs := (bs n9)) (ed := (ed n9)) (co := (co n9)) (no := (no n9)) (mf := mf) (tf := t2) h_0 h_1 h_2 h_3 h_4 hM hT (by omega) (by omega) (by omega)) h_0 w_X10_170 rfl (by decide) (by decide) (by omega) (by omega) (Nat.le_of_ble_eq_true rfl) (ko_rn ?_)
  show T x 18 [(0, vR 0), (1, vI n9), (2, vR (brN n9))] [] (hput h 2 (oI 304 (fmix (wov (ed n9) mf) t2 304))) _ _
  refine st_aload_n C 2 dX10_merge_18 rfl rfl ?_
  refine st_aload_n C 0 dX10_merge_19 rfl rfl ?_
  refine st_getf C dX10_merge_20 fl_X10_9 (hput_o (by omega) hs) rfl ?_
  refine st_callV (st := []) C dX10_merge_23 [vR 1] (k_conflictCount (b := (brN n9)) (op := (op n9)) (bs := (bs n9)) (ed := (ed n9)) (co := (co n9)) (no := (no n9)) (mf := mf) (hput_o (by omega) h_0) (hput_o (by omega) h_1) (hput_o (by omega) h_2) (hput_o (by omega) h_3) (hput_o (by omega) h_4) (hput_o (by omega) hM)) (hput_o (by omega) h_0) w_X10_146 rfl (by decide) (by decide) (by omega) (by omega) (Nat.le_of_ble_eq_true rfl) (ko_rt ?_)
  show T x 26 [(0, vR 0), (1, vI n9), (2, vR (brN n9))] [vI (cnt (fun j => Cf (ed n9) (bs n9) (co n9) j (mf j)) 304)] _ _ _
  refine st_if_gt (tgt := 41) C dX10_merge_26 (by decide) (fun c_26 => ?_) (fun c_26 => ?_)
  · exact st_throw C F dX10_merge_41 dX10_merge_44 dX10_merge_45 dX10_merge_48 xw_X10_92 (by decide) (by first | exact ⟨rfl, q2, s2, rfl⟩ | (exfalso; omega) | exact absurd (by assumption) hQ | exact absurd hQ (by assumption)) (by omega) (by omega)
  · refine st_aload_n C 0 dX10_merge_29 rfl rfl ?_
    refine st_aload_n C 0 dX10_merge_30 rfl rfl ?_
    refine st_getf C dX10_merge_31 fl_X10_13 (hput_o (by omega) hs) rfl ?_
    refine st_callV (st := []) C dX10_merge_34 [vR 2] (k_firstBroken (rk := rk) (ra := ra) (rb := rb) (rn := rn) (rf := (fmix (wov (ed n9) mf) t2 304)) (r9 := r9) (hput_o (by omega) hs) (cR.put hR (by omega) (by omega)) hrc hok ⟨(hput_o (by omega) hx9), ⟨_, (hput_o (by omega) hx14)⟩, _, (hput_o (by omega) hx15)⟩ hput_s (by omega) (by omega) hF) (hput_o (by omega) hs) w_X10_174 rfl (by decide) (by decide) (by omega) (by omega) (Nat.le_of_ble_eq_true rfl) (ko_rs (fun q2 s2 _ => ?_))
    show T x 37 [(0, vR 0), (1, vI n9), (2, vR (brN n9))] [vI r9] _ _ _
    refine st_iconst C dX10_merge_37 (by decide) ?_
    refine st_icmp_eq (tgt := 49) C dX10_merge_38 (by decide) (fun c_38 => ?_) (fun c_38 => by omega)
    refine st_aload_n C 0 dX10_merge_49 rfl rfl ?_
    refine st_getf C dX10_merge_50 fl_X10_9 (sc_o (by omega) (by omega) (hput_o (by omega) hs)) rfl ?_
    refine st_aload_n C 0 dX10_merge_53 rfl rfl ?_
    refine st_getf C dX10_merge_54 fl_X10_13 (sc_o (by omega) (by omega) (hput_o (by omega) hs)) rfl ?_
    refine st_callS (st := []) C dX10_merge_57 [vR 1, vR 2] (k_unlike (f := mf) (f2 := (fmix (wov (ed n9) mf) t2 304)) (sc_o (by omega) (by omega) (hput_o (by omega) hM)) (sc_o (by omega) (by omega) hput_s)) w_X10_177 rfl (by decide) (by decide) (by omega) (by omega) (Nat.le_of_ble_eq_true rfl) (ko_rt ?_)
    show T x 60 [(0, vR 0), (1, vI n9), (2, vR (brN n9))] [vI (cnt (fun j => mf j ≠ (fmix (wov (ed n9) mf) t2 304) j) 304)] _ _ _
    refine st_istore_n C 3 dX10_merge_60 rfl (by decide) rfl ?_
    show T x 61 [(0, vR 0), (1, vI n9), (2, vR (brN n9)), (3, vI (cnt (fun j => mf j ≠ (fmix (wov (ed n9) mf) t2 304) j) 304))] [] _ _ _
    refine st_iload_n C 3 dX10_merge_61 rfl rfl ?_
    refine st_if_le (tgt := 94) C dX10_merge_62 (by decide) (fun c_62 => ?_) (fun c_62 => ?_)
    · refine st_aload_n C 2 dX10_merge_94 rfl rfl ?_
      refine st_iconst C dX10_merge_95 (by decide) ?_
      refine st_putf C dX10_merge_96 fp_X10_98 (fun q => by cases q) (sc_o (by omega) (by omega) (hput_o (by omega) h_0)) (Nat.le_of_ble_eq_true rfl) (fit_bool (by omega)) ?_
      show T x 99 [(0, vR 0), (1, vI n9), (2, vR (brN n9)), (3, vI (cnt (fun j => mf j ≠ (fmix (wov (ed n9) mf) t2 304) j) 304))] [] (hput (sc (hput h 2 (oI 304 (fmix (wov (ed n9) mf) t2 304))) 14 15 q2 s2) (brN n9) (oO 0 [vI 0, vR (brN n9 + 1), vR (brN n9 + 2), vR (brN n9 + 3), vR (brN n9 + 4)])) _ _
      refine st_iload_n C 3 dX10_merge_99 rfl rfl ?_
      exact st_ireturn C F dX10_merge_100 rfl (by first | exact ⟨rfl, q2, s2, rfl⟩ | (exfalso; omega) | exact absurd (by assumption) hQ | exact absurd hQ (by assumption)) (by omega) (by omega)
    · refine st_aload_n C 0 dX10_merge_65 rfl rfl ?_
      refine st_getf C dX10_merge_66 fl_X10_44 (sc_o (by omega) (by omega) (hput_o (by omega) hs)) rfl ?_
      have b_69 : ¬ (40 ≤ nw) := by omega
      refine st_callV (st := []) C dX10_merge_69 [] (k_hFull_f (sc_o (by omega) (by omega) (hput_o (by omega) hH6)) (by omega)) (sc_o (by omega) (by omega) (hput_o (by omega) hH6)) w_X10_181 rfl (by decide) (by decide) (by omega) (by omega) (Nat.le_of_ble_eq_true rfl) (ko_rt ?_)
      show T x 72 [(0, vR 0), (1, vI n9), (2, vR (brN n9)), (3, vI (cnt (fun j => mf j ≠ (fmix (wov (ed n9) mf) t2 304) j) 304))] [vI 0] _ _ _
      refine st_if_eq (tgt := 83) C dX10_merge_72 (by decide) (fun c_72 => ?_) (fun c_72 => by omega)
      refine st_aload_n C 0 dX10_merge_83 rfl rfl ?_
      refine st_callV (st := []) C dX10_merge_84 [] (k_bring9 (rc := rc) (dc := dc) (mf := mf) (tl := tl) (t2 := (fmix (wov (ed n9) mf) t2 304)) (sc_o (by omega) (by omega) (hput_o (by omega) hs)) (sc_o (by omega) (by omega) (hput_o (by omega) hM)) ⟨(sc_o (by omega) (by omega) (hput_o (by omega) hL.1)), (sc_o (by omega) (by omega) (hput_o (by omega) hL.2))⟩ (cHf.put (cHf.put (cHf.put hH hnw (by omega) (by omega)) hnw (by omega) (by omega)) hnw (by omega) (by omega)) hnw (sc_o (by omega) (by omega) hput_s) (by omega)) (sc_o (by omega) (by omega) (hput_o (by omega) hs)) w_X10_185 rfl (by decide) (by decide) (by omega) (by omega) (Nat.le_of_ble_eq_true rfl) (ko_rn ?_)
      show T x 87 [(0, vR 0), (1, vI n9), (2, vR (brN n9)), (3, vI (cnt (fun j => mf j ≠ (fmix (wov (ed n9) mf) t2 304) j) 304))] [] _ _ _
      refine st_aload_n C 0 dX10_merge_87 rfl rfl ?_
      refine st_getf C dX10_merge_88 fl_X10_44 (bringH_o hnw.1 (by omega) (by omega) (sc_o (by omega) (by omega) (hput_o (by omega) hs))) rfl ?_
      refine st_callV (st := []) C dX10_merge_91 [] (k_remember (nw := (nw + 1)) (mcn := mcn) (gf := gf) (bringH_6 hnw.1) (bringH_o hnw.1 (by omega) (by omega) (sc_o (by omega) (by omega) (hput_o (by omega) hH12))) (by omega) (by omega)) (bringH_6 hnw.1) w_X10_188 rfl (by decide) (by decide) (by omega) (by omega) (Nat.le_of_ble_eq_true rfl) (ko_rn ?_)
      show T x 94 [(0, vR 0), (1, vI n9), (2, vR (brN n9)), (3, vI (cnt (fun j => mf j ≠ (fmix (wov (ed n9) mf) t2 304) j) 304))] [] (hput (hput (bringH (sc (hput h 2 (oI 304 (fmix (wov (ed n9) mf) t2 304))) 14 15 q2 s2) nw mcn stf mf (fmix (wov (ed n9) mf) t2 304) tl) 12 (oI 40 (fput gf mcn (nw + 1)))) 6 (oO 2 [vI (nw + 1), vR 11, vR 12, vI (mcn + 1)])) _ _
      refine st_aload_n C 2 dX10_merge_94 rfl rfl ?_
      refine st_iconst C dX10_merge_95 (by decide) ?_
      refine st_putf C dX10_merge_96 fp_X10_98 (fun q => by cases q) (hput_o (by omega) (hput_o (by omega) (bringH_o hnw.1 (by omega) (by omega) (sc_o (by omega) (by omega) (hput_o (by omega) h_0))))) (Nat.le_of_ble_eq_true rfl) (fit_bool (by omega)) ?_
      show T x 99 [(0, vR 0), (1, vI n9), (2, vR (brN n9)), (3, vI (cnt (fun j => mf j ≠ (fmix (wov (ed n9) mf) t2 304) j) 304))] [] (hput (hput (hput (bringH (sc (hput h 2 (oI 304 (fmix (wov (ed n9) mf) t2 304))) 14 15 q2 s2) nw mcn stf mf (fmix (wov (ed n9) mf) t2 304) tl) 12 (oI 40 (fput gf mcn (nw + 1)))) 6 (oO 2 [vI (nw + 1), vR 11, vR 12, vI (mcn + 1)])) (brN n9) (oO 0 [vI 0, vR (brN n9 + 1), vR (brN n9 + 2), vR (brN n9 + 3), vR (brN n9 + 4)])) _ _
      refine st_iload_n C 3 dX10_merge_99 rfl rfl ?_
      exact st_ireturn C F dX10_merge_100 rfl (by first | exact ⟨rfl, q2, s2, rfl⟩ | (exfalso; omega) | exact absurd (by assumption) hQ | exact absurd hQ (by assumption)) (by omega) (by omega)
set_option maxRecDepth 20000 in
set_option maxHeartbeats 4000000 in
theorem s_undo_x1 {g : Gx} {h : HP} {rc dc : Int} {mf : Int → Int} {rk ra rb : Int → Int} {rn : Int → Nat} {t2 : Int → Int} {mk : Int} {tl : Int → Int} {nw mcn : Int} {sv : Int → Int → Int} {gf : Int → Int} {stf : Int → Option Nat} {r9 : Int} (hs : cS h rc dc) (hM : cM h mf) (hR : cR h rc rk ra rb rn) (hrc : 0 ≤ rc ∧ rc ≤ 6) (hok : ∀ i, 0 ≤ i → i < rc → RuleOk (rk i) (ra i) (rb i)) (hX : cX h) (hT : h 2 = some (oI 304 t2)) (hL : cL h mk tl) (hH : cHf h nw mcn sv gf stf) (hnw : 0 ≤ nw ∧ nw ≤ 40) (hmc : 0 ≤ mcn ∧ mcn ≤ 40) (hQ : mcn = 0) : Ct g yX10_undo (.code yX10_undo cX10_undo 3 (some .int)) 7 4 330 [vR 0] h (Th "java/util/NoSuchElementException" h) := by
  refine Ct.of (by decide) (Nat.le_of_ble_eq_true rfl) (fun x hg C F => ?_)
  subst hg
  obtain ⟨hx9, ⟨qa, hx14⟩, sa, hx15⟩ := id hX
  obtain ⟨hHR, hH12, hHn⟩ := id hH
  have hH6 := hHR.1
  have hH11 := hHR.2.1
  have hge : 102 ≤ stN (nw + 1) := stN_ge (by omega)
  show T x 0 [(0, vR 0)] [] h 0 0
  refine st_aload_n C 0 dX10_undo_0 rfl rfl ?_
  refine st_getf C dX10_undo_1 fl_X10_44 hs rfl ?_
  have hlm : (if mcn = 0 then -1 else gf (mcn - 1)) = -1 := if_pos (by omega)
  refine st_callV (st := []) C dX10_undo_4 [] (k_lastMerge (nw := nw) (mcn := mcn) (gf := gf) hH6 hH12 (by omega)) hH6 w_X10_191 rfl (by decide) (by decide) (by omega) (by omega) (Nat.le_of_ble_eq_true rfl) (ko_rt ?_)
  rw [hlm]
  show T x 7 [(0, vR 0)] [vI (-1)] _ _ _
  refine st_istore_n C 1 dX10_undo_7 rfl (by decide) rfl ?_
  show T x 8 [(0, vR 0), (1, vI (-1))] [] _ _ _
  refine st_iload_n C 1 dX10_undo_8 rfl rfl ?_
  refine st_iconst C dX10_undo_9 (by decide) ?_
  refine st_icmp_ne (tgt := 21) C dX10_undo_10 (by decide) (fun c_10 => by omega) (fun c_10 => ?_)
  exact st_throw C F dX10_undo_13 dX10_undo_16 dX10_undo_17 dX10_undo_20 xw_X10_154 (by decide) (by first | exact ⟨rfl, rfl⟩ | (exfalso; omega) | exact absurd (by assumption) hQ | exact absurd hQ (by assumption)) (by omega) (by omega)
set_option maxRecDepth 20000 in
set_option maxHeartbeats 4000000 in
theorem s_undo_x2 {g : Gx} {h : HP} {rc dc : Int} {mf : Int → Int} {rk ra rb : Int → Int} {rn : Int → Nat} {t2 : Int → Int} {mk : Int} {tl : Int → Int} {nw mcn : Int} {sv : Int → Int → Int} {gf : Int → Int} {stf : Int → Option Nat} {r9 : Int} (hs : cS h rc dc) (hM : cM h mf) (hR : cR h rc rk ra rb rn) (hrc : 0 ≤ rc ∧ rc ≤ 6) (hok : ∀ i, 0 ≤ i → i < rc → RuleOk (rk i) (ra i) (rb i)) (hX : cX h) (hT : h 2 = some (oI 304 t2)) (hL : cL h mk tl) (hH : cHf h nw mcn sv gf stf) (hnw : 0 ≤ nw ∧ nw ≤ 40) (hmc : 0 ≤ mcn ∧ mcn ≤ 40) (hg : 1 ≤ gf (mcn - 1) ∧ gf (mcn - 1) ≤ nw) (hF : IsFirst (fun i => ¬ RuleHolds (rk i) (ra i) (rb i) (fmix (fun s => vA sv s (gf (mcn - 1) - 1)) t2 304)) rc r9) (hm1 : 1 ≤ mcn) (hQ : r9 ≠ -1) : Ct g yX10_undo (.code yX10_undo cX10_undo 3 (some .int)) 7 4 330 [vR 0] h (ThS "java/lang/UnsupportedOperationException" (hput h 2 (oI 304 (fmix (fun s => vA sv s (gf (mcn - 1) - 1)) t2 304))) 14 15) := by
  refine Ct.of (by decide) (Nat.le_of_ble_eq_true rfl) (fun x hg C F => ?_)
  subst hg
  obtain ⟨hx9, ⟨qa, hx14⟩, sa, hx15⟩ := id hX
  obtain ⟨hHR, hH12, hHn⟩ := id hH
  have hH6 := hHR.1
  have hH11 := hHR.2.1
  have hge : 102 ≤ stN (nw + 1) := stN_ge (by omega)
  show T x 0 [(0, vR 0)] [] h 0 0
  refine st_aload_n C 0 dX10_undo_0 rfl rfl ?_
  refine st_getf C dX10_undo_1 fl_X10_44 hs rfl ?_
  have hlm : (if mcn = 0 then -1 else gf (mcn - 1)) = gf (mcn - 1) := if_neg (by omega)
  refine st_callV (st := []) C dX10_undo_4 [] (k_lastMerge (nw := nw) (mcn := mcn) (gf := gf) hH6 hH12 (by omega)) hH6 w_X10_191 rfl (by decide) (by decide) (by omega) (by omega) (Nat.le_of_ble_eq_true rfl) (ko_rt ?_)
  rw [hlm]
  show T x 7 [(0, vR 0)] [vI (gf (mcn - 1))] _ _ _
  refine st_istore_n C 1 dX10_undo_7 rfl (by decide) rfl ?_
  show T x 8 [(0, vR 0), (1, vI (gf (mcn - 1)))] [] _ _ _
  refine st_iload_n C 1 dX10_undo_8 rfl rfl ?_
  refine st_iconst C dX10_undo_9 (by decide) ?_
  refine st_icmp_ne (tgt := 21) C dX10_undo_10 (by decide) (fun c_10 => ?_) (fun c_10 => by omega)
  refine st_aload_n C 0 dX10_undo_21 rfl rfl ?_
  refine st_getf C dX10_undo_22 fl_X10_44 hs rfl ?_
  refine st_iload_n C 1 dX10_undo_25 rfl rfl ?_
  refine st_iconst C dX10_undo_26 (by decide) ?_
  refine st_isub C dX10_undo_27 ⟨(by omega), (by omega)⟩ ?_
  refine st_aload_n C 0 dX10_undo_28 rfl rfl ?_
  refine st_getf C dX10_undo_29 fl_X10_13 hs rfl ?_
  refine st_callV (st := []) C dX10_undo_32 [vI (gf (mcn - 1) - 1), vR 2] (k_writeAt (nw := nw) (mcn := mcn) (sf := stf) (sv := sv) (v9 := (gf (mcn - 1) - 1)) (tf := t2) hH.1 hnw (by omega) hT (by omega) (by omega) (by omega)) hH6 w_X10_194 rfl (by decide) (by decide) (by omega) (by omega) (Nat.le_of_ble_eq_true rfl) (ko_rn ?_)
  show T x 35 [(0, vR 0), (1, vI (gf (mcn - 1)))] [] (hput h 2 (oI 304 (fmix (fun s => vA sv s (gf (mcn - 1) - 1)) t2 304))) _ _
  refine st_aload_n C 0 dX10_undo_35 rfl rfl ?_
  refine st_aload_n C 0 dX10_undo_36 rfl rfl ?_
  refine st_getf C dX10_undo_37 fl_X10_13 (hput_o (by omega) hs) rfl ?_
  refine st_callV (st := []) C dX10_undo_40 [vR 2] (k_firstBroken (rk := rk) (ra := ra) (rb := rb) (rn := rn) (rf := (fmix (fun s => vA sv s (gf (mcn - 1) - 1)) t2 304)) (r9 := r9) (hput_o (by omega) hs) (cR.put hR (by omega) (by omega)) hrc hok ⟨(hput_o (by omega) hx9), ⟨_, (hput_o (by omega) hx14)⟩, _, (hput_o (by omega) hx15)⟩ hput_s (by omega) (by omega) hF) (hput_o (by omega) hs) w_X10_174 rfl (by decide) (by decide) (by omega) (by omega) (Nat.le_of_ble_eq_true rfl) (ko_rs (fun q2 s2 _ => ?_))
  show T x 43 [(0, vR 0), (1, vI (gf (mcn - 1)))] [vI r9] _ _ _
  refine st_iconst C dX10_undo_43 (by decide) ?_
  refine st_icmp_eq (tgt := 55) C dX10_undo_44 (by decide) (fun c_44 => ?_) (fun c_44 => ?_)
  · refine st_aload_n C 0 dX10_undo_55 rfl rfl ?_
    refine st_getf C dX10_undo_56 fl_X10_44 (sc_o (by omega) (by omega) (hput_o (by omega) hs)) rfl ?_
    by_cases b_59 : 40 ≤ nw
    · refine st_callV (st := []) C dX10_undo_59 [] (k_hFull_t (sc_o (by omega) (by omega) (hput_o (by omega) hH6)) b_59) (sc_o (by omega) (by omega) (hput_o (by omega) hH6)) w_X10_181 rfl (by decide) (by decide) (by omega) (by omega) (Nat.le_of_ble_eq_true rfl) (ko_rt ?_)
      show T x 62 [(0, vR 0), (1, vI (gf (mcn - 1)))] [vI 1] _ _ _
      refine st_if_eq (tgt := 73) C dX10_undo_62 (by decide) (fun c_62 => by omega) (fun c_62 => ?_)
      exact st_throw C F dX10_undo_65 dX10_undo_68 dX10_undo_69 dX10_undo_72 xw_X10_95 (by decide) (by first | exact ⟨rfl, q2, s2, rfl⟩ | (exfalso; omega) | exact absurd (by assumption) hQ | exact absurd hQ (by assumption)) (by omega) (by omega)
    · refine st_callV (st := []) C dX10_undo_59 [] (k_hFull_f (sc_o (by omega) (by omega) (hput_o (by omega) hH6)) (by omega)) (sc_o (by omega) (by omega) (hput_o (by omega) hH6)) w_X10_181 rfl (by decide) (by decide) (by omega) (by omega) (Nat.le_of_ble_eq_true rfl) (ko_rt ?_)
      show T x 62 [(0, vR 0), (1, vI (gf (mcn - 1)))] [vI 0] _ _ _
      refine st_if_eq (tgt := 73) C dX10_undo_62 (by decide) (fun c_62 => ?_) (fun c_62 => by omega)
      refine st_aload_n C 0 dX10_undo_73 rfl rfl ?_
      refine st_getf C dX10_undo_74 fl_X10_9 (sc_o (by omega) (by omega) (hput_o (by omega) hs)) rfl ?_
      refine st_aload_n C 0 dX10_undo_77 rfl rfl ?_
      refine st_getf C dX10_undo_78 fl_X10_13 (sc_o (by omega) (by omega) (hput_o (by omega) hs)) rfl ?_
      refine st_callS (st := []) C dX10_undo_81 [vR 1, vR 2] (k_unlike (f := mf) (f2 := (fmix (fun s => vA sv s (gf (mcn - 1) - 1)) t2 304)) (sc_o (by omega) (by omega) (hput_o (by omega) hM)) (sc_o (by omega) (by omega) hput_s)) w_X10_177 rfl (by decide) (by decide) (by omega) (by omega) (Nat.le_of_ble_eq_true rfl) (ko_rt ?_)
      show T x 84 [(0, vR 0), (1, vI (gf (mcn - 1)))] [vI (cnt (fun j => mf j ≠ (fmix (fun s => vA sv s (gf (mcn - 1) - 1)) t2 304) j) 304)] _ _ _
      refine st_istore_n C 2 dX10_undo_84 rfl (by decide) rfl ?_
      show T x 85 [(0, vR 0), (1, vI (gf (mcn - 1))), (2, vI (cnt (fun j => mf j ≠ (fmix (fun s => vA sv s (gf (mcn - 1) - 1)) t2 304) j) 304))] [] _ _ _
      refine st_aload_n C 0 dX10_undo_85 rfl rfl ?_
      refine st_callV (st := []) C dX10_undo_86 [] (k_bring9 (rc := rc) (dc := dc) (mf := mf) (tl := tl) (t2 := (fmix (fun s => vA sv s (gf (mcn - 1) - 1)) t2 304)) (sc_o (by omega) (by omega) (hput_o (by omega) hs)) (sc_o (by omega) (by omega) (hput_o (by omega) hM)) ⟨(sc_o (by omega) (by omega) (hput_o (by omega) hL.1)), (sc_o (by omega) (by omega) (hput_o (by omega) hL.2))⟩ (cHf.put (cHf.put (cHf.put hH hnw (by omega) (by omega)) hnw (by omega) (by omega)) hnw (by omega) (by omega)) hnw (sc_o (by omega) (by omega) hput_s) (by omega)) (sc_o (by omega) (by omega) (hput_o (by omega) hs)) w_X10_185 rfl (by decide) (by decide) (by omega) (by omega) (Nat.le_of_ble_eq_true rfl) (ko_rn ?_)
      show T x 89 [(0, vR 0), (1, vI (gf (mcn - 1))), (2, vI (cnt (fun j => mf j ≠ (fmix (fun s => vA sv s (gf (mcn - 1) - 1)) t2 304) j) 304))] [] _ _ _
      refine st_aload_n C 0 dX10_undo_89 rfl rfl ?_
      refine st_getf C dX10_undo_90 fl_X10_44 (bringH_o hnw.1 (by omega) (by omega) (sc_o (by omega) (by omega) (hput_o (by omega) hs))) rfl ?_
      refine st_callV (st := []) C dX10_undo_93 [] (k_forget (nw := (nw + 1)) (mcn := mcn) (bringH_6 hnw.1) (by omega)) (bringH_6 hnw.1) w_X10_198 rfl (by decide) (by decide) (by omega) (by omega) (Nat.le_of_ble_eq_true rfl) (ko_rn ?_)
      show T x 96 [(0, vR 0), (1, vI (gf (mcn - 1))), (2, vI (cnt (fun j => mf j ≠ (fmix (fun s => vA sv s (gf (mcn - 1) - 1)) t2 304) j) 304))] [] (hput (bringH (sc (hput h 2 (oI 304 (fmix (fun s => vA sv s (gf (mcn - 1) - 1)) t2 304))) 14 15 q2 s2) nw mcn stf mf (fmix (fun s => vA sv s (gf (mcn - 1) - 1)) t2 304) tl) 6 (oO 2 [vI (nw + 1), vR 11, vR 12, vI (mcn - 1)])) _ _
      refine st_iload_n C 2 dX10_undo_96 rfl rfl ?_
      exact st_ireturn C F dX10_undo_97 rfl (by first | exact ⟨rfl, q2, s2, rfl⟩ | (exfalso; omega) | exact absurd (by assumption) hQ | exact absurd hQ (by assumption)) (by omega) (by omega)
  · exact st_throw C F dX10_undo_47 dX10_undo_50 dX10_undo_51 dX10_undo_54 xw_X10_92 (by decide) (by first | exact ⟨rfl, q2, s2, rfl⟩ | (exfalso; omega) | exact absurd (by assumption) hQ | exact absurd hQ (by assumption)) (by omega) (by omega)
set_option maxRecDepth 20000 in
set_option maxHeartbeats 4000000 in
theorem s_undo_x3 {g : Gx} {h : HP} {rc dc : Int} {mf : Int → Int} {rk ra rb : Int → Int} {rn : Int → Nat} {t2 : Int → Int} {mk : Int} {tl : Int → Int} {nw mcn : Int} {sv : Int → Int → Int} {gf : Int → Int} {stf : Int → Option Nat} {r9 : Int} (hs : cS h rc dc) (hM : cM h mf) (hR : cR h rc rk ra rb rn) (hrc : 0 ≤ rc ∧ rc ≤ 6) (hok : ∀ i, 0 ≤ i → i < rc → RuleOk (rk i) (ra i) (rb i)) (hX : cX h) (hT : h 2 = some (oI 304 t2)) (hL : cL h mk tl) (hH : cHf h nw mcn sv gf stf) (hnw : 0 ≤ nw ∧ nw ≤ 40) (hmc : 0 ≤ mcn ∧ mcn ≤ 40) (hg : 1 ≤ gf (mcn - 1) ∧ gf (mcn - 1) ≤ nw) (hF : IsFirst (fun i => ¬ RuleHolds (rk i) (ra i) (rb i) (fmix (fun s => vA sv s (gf (mcn - 1) - 1)) t2 304)) rc r9) (hm1 : 1 ≤ mcn) (hQ : r9 = -1) (hfull : 40 ≤ nw) : Ct g yX10_undo (.code yX10_undo cX10_undo 3 (some .int)) 7 4 330 [vR 0] h (ThS "java/lang/IllegalStateException" (hput h 2 (oI 304 (fmix (fun s => vA sv s (gf (mcn - 1) - 1)) t2 304))) 14 15) := by
  refine Ct.of (by decide) (Nat.le_of_ble_eq_true rfl) (fun x hg C F => ?_)
  subst hg
  obtain ⟨hx9, ⟨qa, hx14⟩, sa, hx15⟩ := id hX
  obtain ⟨hHR, hH12, hHn⟩ := id hH
  have hH6 := hHR.1
  have hH11 := hHR.2.1
  have hge : 102 ≤ stN (nw + 1) := stN_ge (by omega)
  show T x 0 [(0, vR 0)] [] h 0 0
  refine st_aload_n C 0 dX10_undo_0 rfl rfl ?_
  refine st_getf C dX10_undo_1 fl_X10_44 hs rfl ?_
  have hlm : (if mcn = 0 then -1 else gf (mcn - 1)) = gf (mcn - 1) := if_neg (by omega)
  refine st_callV (st := []) C dX10_undo_4 [] (k_lastMerge (nw := nw) (mcn := mcn) (gf := gf) hH6 hH12 (by omega)) hH6 w_X10_191 rfl (by decide) (by decide) (by omega) (by omega) (Nat.le_of_ble_eq_true rfl) (ko_rt ?_)
  rw [hlm]
  show T x 7 [(0, vR 0)] [vI (gf (mcn - 1))] _ _ _
  refine st_istore_n C 1 dX10_undo_7 rfl (by decide) rfl ?_
  show T x 8 [(0, vR 0), (1, vI (gf (mcn - 1)))] [] _ _ _
  refine st_iload_n C 1 dX10_undo_8 rfl rfl ?_
  refine st_iconst C dX10_undo_9 (by decide) ?_
  refine st_icmp_ne (tgt := 21) C dX10_undo_10 (by decide) (fun c_10 => ?_) (fun c_10 => by omega)
  refine st_aload_n C 0 dX10_undo_21 rfl rfl ?_
  refine st_getf C dX10_undo_22 fl_X10_44 hs rfl ?_
  refine st_iload_n C 1 dX10_undo_25 rfl rfl ?_
  refine st_iconst C dX10_undo_26 (by decide) ?_
  refine st_isub C dX10_undo_27 ⟨(by omega), (by omega)⟩ ?_
  refine st_aload_n C 0 dX10_undo_28 rfl rfl ?_
  refine st_getf C dX10_undo_29 fl_X10_13 hs rfl ?_
  refine st_callV (st := []) C dX10_undo_32 [vI (gf (mcn - 1) - 1), vR 2] (k_writeAt (nw := nw) (mcn := mcn) (sf := stf) (sv := sv) (v9 := (gf (mcn - 1) - 1)) (tf := t2) hH.1 hnw (by omega) hT (by omega) (by omega) (by omega)) hH6 w_X10_194 rfl (by decide) (by decide) (by omega) (by omega) (Nat.le_of_ble_eq_true rfl) (ko_rn ?_)
  show T x 35 [(0, vR 0), (1, vI (gf (mcn - 1)))] [] (hput h 2 (oI 304 (fmix (fun s => vA sv s (gf (mcn - 1) - 1)) t2 304))) _ _
  refine st_aload_n C 0 dX10_undo_35 rfl rfl ?_
  refine st_aload_n C 0 dX10_undo_36 rfl rfl ?_
  refine st_getf C dX10_undo_37 fl_X10_13 (hput_o (by omega) hs) rfl ?_
  refine st_callV (st := []) C dX10_undo_40 [vR 2] (k_firstBroken (rk := rk) (ra := ra) (rb := rb) (rn := rn) (rf := (fmix (fun s => vA sv s (gf (mcn - 1) - 1)) t2 304)) (r9 := r9) (hput_o (by omega) hs) (cR.put hR (by omega) (by omega)) hrc hok ⟨(hput_o (by omega) hx9), ⟨_, (hput_o (by omega) hx14)⟩, _, (hput_o (by omega) hx15)⟩ hput_s (by omega) (by omega) hF) (hput_o (by omega) hs) w_X10_174 rfl (by decide) (by decide) (by omega) (by omega) (Nat.le_of_ble_eq_true rfl) (ko_rs (fun q2 s2 _ => ?_))
  show T x 43 [(0, vR 0), (1, vI (gf (mcn - 1)))] [vI r9] _ _ _
  refine st_iconst C dX10_undo_43 (by decide) ?_
  refine st_icmp_eq (tgt := 55) C dX10_undo_44 (by decide) (fun c_44 => ?_) (fun c_44 => by omega)
  refine st_aload_n C 0 dX10_undo_55 rfl rfl ?_
  refine st_getf C dX10_undo_56 fl_X10_44 (sc_o (by omega) (by omega) (hput_o (by omega) hs)) rfl ?_
  have b_59 : 40 ≤ nw := by omega
  refine st_callV (st := []) C dX10_undo_59 [] (k_hFull_t (sc_o (by omega) (by omega) (hput_o (by omega) hH6)) b_59) (sc_o (by omega) (by omega) (hput_o (by omega) hH6)) w_X10_181 rfl (by decide) (by decide) (by omega) (by omega) (Nat.le_of_ble_eq_true rfl) (ko_rt ?_)
  show T x 62 [(0, vR 0), (1, vI (gf (mcn - 1)))] [vI 1] _ _ _
  refine st_if_eq (tgt := 73) C dX10_undo_62 (by decide) (fun c_62 => by omega) (fun c_62 => ?_)
  exact st_throw C F dX10_undo_65 dX10_undo_68 dX10_undo_69 dX10_undo_72 xw_X10_95 (by decide) (by first | exact ⟨rfl, q2, s2, rfl⟩ | (exfalso; omega) | exact absurd (by assumption) hQ | exact absurd hQ (by assumption)) (by omega) (by omega)
set_option maxRecDepth 20000 in
set_option maxHeartbeats 4000000 in
theorem s_undo {g : Gx} {h : HP} {rc dc : Int} {mf : Int → Int} {rk ra rb : Int → Int} {rn : Int → Nat} {t2 : Int → Int} {mk : Int} {tl : Int → Int} {nw mcn : Int} {sv : Int → Int → Int} {gf : Int → Int} {stf : Int → Option Nat} {r9 : Int} (hs : cS h rc dc) (hM : cM h mf) (hR : cR h rc rk ra rb rn) (hrc : 0 ≤ rc ∧ rc ≤ 6) (hok : ∀ i, 0 ≤ i → i < rc → RuleOk (rk i) (ra i) (rb i)) (hX : cX h) (hT : h 2 = some (oI 304 t2)) (hL : cL h mk tl) (hH : cHf h nw mcn sv gf stf) (hnw : 0 ≤ nw ∧ nw ≤ 40) (hmc : 0 ≤ mcn ∧ mcn ≤ 40) (hg : 1 ≤ gf (mcn - 1) ∧ gf (mcn - 1) ≤ nw) (hF : IsFirst (fun i => ¬ RuleHolds (rk i) (ra i) (rb i) (fmix (fun s => vA sv s (gf (mcn - 1) - 1)) t2 304)) rc r9) (hm1 : 1 ≤ mcn) (hQ : r9 = -1) (hn9 : nw ≤ 39) : Ct g yX10_undo (.code yX10_undo cX10_undo 3 (some .int)) 7 4 330 [vR 0] h ((fun r h' => r = .inl (some (vI (cnt (fun j => mf j ≠ (fmix (fun s => vA sv s (gf (mcn - 1) - 1)) t2 304) j) 304))) ∧ ∃ q s : Int → Int, h' = hput (bringH (sc (hput h 2 (oI 304 (fmix (fun s => vA sv s (gf (mcn - 1) - 1)) t2 304))) 14 15 q s) nw mcn stf mf (fmix (fun s => vA sv s (gf (mcn - 1) - 1)) t2 304) tl) 6 (oO 2 [vI (nw + 1), vR 11, vR 12, vI (mcn - 1)]))) := by
  refine Ct.of (by decide) (Nat.le_of_ble_eq_true rfl) (fun x hg C F => ?_)
  subst hg
  obtain ⟨hx9, ⟨qa, hx14⟩, sa, hx15⟩ := id hX
  obtain ⟨hHR, hH12, hHn⟩ := id hH
  have hH6 := hHR.1
  have hH11 := hHR.2.1
  have hge : 102 ≤ stN (nw + 1) := stN_ge (by omega)
  show T x 0 [(0, vR 0)] [] h 0 0
  refine st_aload_n C 0 dX10_undo_0 rfl rfl ?_
  refine st_getf C dX10_undo_1 fl_X10_44 hs rfl ?_
  have hlm : (if mcn = 0 then -1 else gf (mcn - 1)) = gf (mcn - 1) := if_neg (by omega)
  refine st_callV (st := []) C dX10_undo_4 [] (k_lastMerge (nw := nw) (mcn := mcn) (gf := gf) hH6 hH12 (by omega)) hH6 w_X10_191 rfl (by decide) (by decide) (by omega) (by omega) (Nat.le_of_ble_eq_true rfl) (ko_rt ?_)
  rw [hlm]
  show T x 7 [(0, vR 0)] [vI (gf (mcn - 1))] _ _ _
  refine st_istore_n C 1 dX10_undo_7 rfl (by decide) rfl ?_
  show T x 8 [(0, vR 0), (1, vI (gf (mcn - 1)))] [] _ _ _
  refine st_iload_n C 1 dX10_undo_8 rfl rfl ?_
  refine st_iconst C dX10_undo_9 (by decide) ?_
  refine st_icmp_ne (tgt := 21) C dX10_undo_10 (by decide) (fun c_10 => ?_) (fun c_10 => by omega)
  refine st_aload_n C 0 dX10_undo_21 rfl rfl ?_
  refine st_getf C dX10_undo_22 fl_X10_44 hs rfl ?_
  refine st_iload_n C 1 dX10_undo_25 rfl rfl ?_
  refine st_iconst C dX10_undo_26 (by decide) ?_
  refine st_isub C dX10_undo_27 ⟨(by omega), (by omega)⟩ ?_
  refine st_aload_n C 0 dX10_undo_28 rfl rfl ?_
  refine st_getf C dX10_undo_29 fl_X10_13 hs rfl ?_
  refine st_callV (st := []) C dX10_undo_32 [vI (gf (mcn - 1) - 1), vR 2] (k_writeAt (nw := nw) (mcn := mcn) (sf := stf) (sv := sv) (v9 := (gf (mcn - 1) - 1)) (tf := t2) hH.1 hnw (by omega) hT (by omega) (by omega) (by omega)) hH6 w_X10_194 rfl (by decide) (by decide) (by omega) (by omega) (Nat.le_of_ble_eq_true rfl) (ko_rn ?_)
  show T x 35 [(0, vR 0), (1, vI (gf (mcn - 1)))] [] (hput h 2 (oI 304 (fmix (fun s => vA sv s (gf (mcn - 1) - 1)) t2 304))) _ _
  refine st_aload_n C 0 dX10_undo_35 rfl rfl ?_
  refine st_aload_n C 0 dX10_undo_36 rfl rfl ?_
  refine st_getf C dX10_undo_37 fl_X10_13 (hput_o (by omega) hs) rfl ?_
  refine st_callV (st := []) C dX10_undo_40 [vR 2] (k_firstBroken (rk := rk) (ra := ra) (rb := rb) (rn := rn) (rf := (fmix (fun s => vA sv s (gf (mcn - 1) - 1)) t2 304)) (r9 := r9) (hput_o (by omega) hs) (cR.put hR (by omega) (by omega)) hrc hok ⟨(hput_o (by omega) hx9), ⟨_, (hput_o (by omega) hx14)⟩, _, (hput_o (by omega) hx15)⟩ hput_s (by omega) (by omega) hF) (hput_o (by omega) hs) w_X10_174 rfl (by decide) (by decide) (by omega) (by omega) (Nat.le_of_ble_eq_true rfl) (ko_rs (fun q2 s2 _ => ?_))
  show T x 43 [(0, vR 0), (1, vI (gf (mcn - 1)))] [vI r9] _ _ _
  refine st_iconst C dX10_undo_43 (by decide) ?_
  refine st_icmp_eq (tgt := 55) C dX10_undo_44 (by decide) (fun c_44 => ?_) (fun c_44 => by omega)
  refine st_aload_n C 0 dX10_undo_55 rfl rfl ?_
  refine st_getf C dX10_undo_56 fl_X10_44 (sc_o (by omega) (by omega) (hput_o (by omega) hs)) rfl ?_
  have b_59 : ¬ (40 ≤ nw) := by omega
  refine st_callV (st := []) C dX10_undo_59 [] (k_hFull_f (sc_o (by omega) (by omega) (hput_o (by omega) hH6)) (by omega)) (sc_o (by omega) (by omega) (hput_o (by omega) hH6)) w_X10_181 rfl (by decide) (by decide) (by omega) (by omega) (Nat.le_of_ble_eq_true rfl) (ko_rt ?_)
  show T x 62 [(0, vR 0), (1, vI (gf (mcn - 1)))] [vI 0] _ _ _
  refine st_if_eq (tgt := 73) C dX10_undo_62 (by decide) (fun c_62 => ?_) (fun c_62 => by omega)
  refine st_aload_n C 0 dX10_undo_73 rfl rfl ?_
  refine st_getf C dX10_undo_74 fl_X10_9 (sc_o (by omega) (by omega) (hput_o (by omega) hs)) rfl ?_
  refine st_aload_n C 0 dX10_undo_77 rfl rfl ?_
  refine st_getf C dX10_undo_78 fl_X10_13 (sc_o (by omega) (by omega) (hput_o (by omega) hs)) rfl ?_
  refine st_callS (st := []) C dX10_undo_81 [vR 1, vR 2] (k_unlike (f := mf) (f2 := (fmix (fun s => vA sv s (gf (mcn - 1) - 1)) t2 304)) (sc_o (by omega) (by omega) (hput_o (by omega) hM)) (sc_o (by omega) (by omega) hput_s)) w_X10_177 rfl (by decide) (by decide) (by omega) (by omega) (Nat.le_of_ble_eq_true rfl) (ko_rt ?_)
  show T x 84 [(0, vR 0), (1, vI (gf (mcn - 1)))] [vI (cnt (fun j => mf j ≠ (fmix (fun s => vA sv s (gf (mcn - 1) - 1)) t2 304) j) 304)] _ _ _
  refine st_istore_n C 2 dX10_undo_84 rfl (by decide) rfl ?_
  show T x 85 [(0, vR 0), (1, vI (gf (mcn - 1))), (2, vI (cnt (fun j => mf j ≠ (fmix (fun s => vA sv s (gf (mcn - 1) - 1)) t2 304) j) 304))] [] _ _ _
  refine st_aload_n C 0 dX10_undo_85 rfl rfl ?_
  refine st_callV (st := []) C dX10_undo_86 [] (k_bring9 (rc := rc) (dc := dc) (mf := mf) (tl := tl) (t2 := (fmix (fun s => vA sv s (gf (mcn - 1) - 1)) t2 304)) (sc_o (by omega) (by omega) (hput_o (by omega) hs)) (sc_o (by omega) (by omega) (hput_o (by omega) hM)) ⟨(sc_o (by omega) (by omega) (hput_o (by omega) hL.1)), (sc_o (by omega) (by omega) (hput_o (by omega) hL.2))⟩ (cHf.put (cHf.put (cHf.put hH hnw (by omega) (by omega)) hnw (by omega) (by omega)) hnw (by omega) (by omega)) hnw (sc_o (by omega) (by omega) hput_s) (by omega)) (sc_o (by omega) (by omega) (hput_o (by omega) hs)) w_X10_185 rfl (by decide) (by decide) (by omega) (by omega) (Nat.le_of_ble_eq_true rfl) (ko_rn ?_)
  show T x 89 [(0, vR 0), (1, vI (gf (mcn - 1))), (2, vI (cnt (fun j => mf j ≠ (fmix (fun s => vA sv s (gf (mcn - 1) - 1)) t2 304) j) 304))] [] _ _ _
  refine st_aload_n C 0 dX10_undo_89 rfl rfl ?_
  refine st_getf C dX10_undo_90 fl_X10_44 (bringH_o hnw.1 (by omega) (by omega) (sc_o (by omega) (by omega) (hput_o (by omega) hs))) rfl ?_
  refine st_callV (st := []) C dX10_undo_93 [] (k_forget (nw := (nw + 1)) (mcn := mcn) (bringH_6 hnw.1) (by omega)) (bringH_6 hnw.1) w_X10_198 rfl (by decide) (by decide) (by omega) (by omega) (Nat.le_of_ble_eq_true rfl) (ko_rn ?_)
  show T x 96 [(0, vR 0), (1, vI (gf (mcn - 1))), (2, vI (cnt (fun j => mf j ≠ (fmix (fun s => vA sv s (gf (mcn - 1) - 1)) t2 304) j) 304))] [] (hput (bringH (sc (hput h 2 (oI 304 (fmix (fun s => vA sv s (gf (mcn - 1) - 1)) t2 304))) 14 15 q2 s2) nw mcn stf mf (fmix (fun s => vA sv s (gf (mcn - 1) - 1)) t2 304) tl) 6 (oO 2 [vI (nw + 1), vR 11, vR 12, vI (mcn - 1)])) _ _
  refine st_iload_n C 2 dX10_undo_96 rfl rfl ?_
  exact st_ireturn C F dX10_undo_97 rfl (by first | exact ⟨rfl, q2, s2, rfl⟩ | (exfalso; omega) | exact absurd (by assumption) hQ | exact absurd hQ (by assumption)) (by omega) (by omega)
