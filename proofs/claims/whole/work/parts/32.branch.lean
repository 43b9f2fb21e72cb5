set_option maxRecDepth 20000 in
set_option maxHeartbeats 4000000 in
theorem k_fill {g : Gx} {h : HP} {a n : Nat} {f : Int → Int} {v : Int} (ha : h a = some (oI n f)) (hn : (n : Int) < 2147483648) : Ct g yJ7_fill_53178 (.code yJ7_fill_53178 cJ7_fill_53178 4 none) 1 0 0 [vR a, vI v] h (Rt none (hput h a (oI n (fmix (fun _ => v) f n)))) := by
  refine Ct.of (by decide) (Nat.le_of_ble_eq_true rfl) (fun x hg C F => ?_)
  subst hg
  show T x 0 [(0, vR a), (1, vI v)] [] h 0 0
  refine st_iconst C dJ7_fill_53178_0 (by decide) ?_
  refine st_istore_n C 2 dJ7_fill_53178_1 rfl (by decide) rfl ?_
  show T x 2 [(0, vR a), (1, vI v), (2, vI 0)] [] _ _ _
  refine st_aload_n C 0 dJ7_fill_53178_2 rfl rfl ?_
  refine st_alenI C dJ7_fill_53178_3 ha hn ?_
  refine st_istore_n C 3 dJ7_fill_53178_4 rfl (by decide) rfl ?_
  show T x 5 [(0, vR a), (1, vI v), (2, vI 0), (3, vI n)] [] _ _ _
  have loop_5 : ∀ (n_5 : Nat) (i : Int) (h1 : HP), (0 ≤ i) → (i ≤ n) → (h1 = hput h a (oI n (fmix (fun _ => v) f i))) → ((n : Int) - i).toNat < n_5 → T x 5 [(0, vR a), (1, vI v), (2, vI i), (3, vI n)] [] h1 0 0 := by
    intro n_5
    induction n_5 with
    | zero => intro i h1 g1 g2 hh hm_5; exact absurd hm_5 (Nat.not_lt_zero _)
    | succ n_5 ih_5 =>
      intro i h1 g1 g2 hh hm_5
      refine st_iload_n C 2 dJ7_fill_53178_5 rfl rfl ?_
      refine st_iload_n C 3 dJ7_fill_53178_6 rfl rfl ?_
      refine st_icmp_ge (tgt := 20) C dJ7_fill_53178_7 (by decide) (fun c_7 => ?_) (fun c_7 => ?_)
      · exact st_return C F dJ7_fill_53178_20 rfl (rt_n (by rw [hh, show i = (n : Int) by omega])) (by omega) (by omega)
      · refine st_aload_n C 0 dJ7_fill_53178_10 rfl rfl ?_
        refine st_iload_n C 2 dJ7_fill_53178_11 rfl rfl ?_
        refine st_iload_n C 1 dJ7_fill_53178_12 rfl rfl ?_
        refine st_iast C dJ7_fill_53178_13 (by rw [hh]; exact hput_s) (by omega) (by omega) ?_
        refine st_iinc C dJ7_fill_53178_14 rfl (by decide) rfl ⟨(by omega), (by omega)⟩ ?_
        show T x 17 [(0, vR a), (1, vI v), (2, vI (i + 1)), (3, vI n)] [] _ _ _
        refine st_goto (tgt := 5) C dJ7_fill_53178_17 (by decide) ?_
        exact ih_5 (i + 1) (hput h1 a (oI n (fput (fmix (fun _ => v) f i) i v))) (by omega) (by omega) (by rw [hh, hput_hput, fmix_s g1 rfl]) (by omega)
  exact loop_5 _ 0 h (by omega) (by omega) (by rw [fmix_0]; exact (hput_self ha).symm) (Nat.lt_succ_self _)
set_option maxRecDepth 20000 in
set_option maxHeartbeats 4000000 in
theorem k_sight {g : Gx} {h : HP} {b : Nat} {op : Int} {bs ed co no : Int → Int} {s9 : Int} (hb : h b = some (oO 0 [vI op, vR (b + 1), vR (b + 2), vR (b + 3), vR (b + 4)])) (h_1 : h (b + 1) = some (oI 304 bs)) (h_2 : h (b + 2) = some (oI 304 ed)) (h_3 : h (b + 3) = some (oI 304 co)) (h_4 : h (b + 4) = some (oI 304 no)) (hs : 0 ≤ s9 ∧ s9 ≤ 303) : Ct g yX0_sight (.code yX0_sight cX0_sight 2 (some .int)) 1 0 0 [vR b, vI s9] h (Rt (some (vI (if ed s9 = -1 then bs s9 else ed s9))) h) := by
  refine Ct.of (by decide) (Nat.le_of_ble_eq_true rfl) (fun x hg C F => ?_)
  subst hg
  show T x 0 [(0, vR b), (1, vI s9)] [] h 0 0
  refine st_aload_n C 0 dX0_sight_0 rfl rfl ?_
  refine st_getf C dX0_sight_1 fl_X0_19 hb rfl ?_
  refine st_iload_n C 1 dX0_sight_4 rfl rfl ?_
  refine st_iald C dX0_sight_5 h_2 (by omega) (by omega) ?_
  refine st_iconst C dX0_sight_6 (by decide) ?_
  refine st_icmp_ne (tgt := 19) C dX0_sight_7 (by decide) (fun c_7 => ?_) (fun c_7 => ?_)
  · refine st_aload_n C 0 dX0_sight_19 rfl rfl ?_
    refine st_getf C dX0_sight_20 fl_X0_19 hb rfl ?_
    refine st_iload_n C 1 dX0_sight_23 rfl rfl ?_
    refine st_iald C dX0_sight_24 h_2 (by omega) (by omega) ?_
    exact st_ireturn C F dX0_sight_25 rfl (rt_i (by first | rw [if_pos (by assumption)] | rw [if_neg (by assumption)]) rfl) (by omega) (by omega)
  · refine st_aload_n C 0 dX0_sight_10 rfl rfl ?_
    refine st_getf C dX0_sight_11 fl_X0_15 hb rfl ?_
    refine st_iload_n C 1 dX0_sight_14 rfl rfl ?_
    refine st_iald C dX0_sight_15 h_1 (by omega) (by omega) ?_
    refine st_goto (tgt := 25) C dX0_sight_16 (by decide) ?_
    exact st_ireturn C F dX0_sight_25 rfl (rt_i (by first | rw [if_pos (by assumption)] | rw [if_neg (by assumption)]) rfl) (by omega) (by omega)
set_option maxRecDepth 20000 in
set_option maxHeartbeats 4000000 in
theorem k_takeAway {g : Gx} {h : HP} {b : Nat} {op : Int} {bs ed co no : Int → Int} {s9 : Int} (hb : h b = some (oO 0 [vI op, vR (b + 1), vR (b + 2), vR (b + 3), vR (b + 4)])) (h_1 : h (b + 1) = some (oI 304 bs)) (h_2 : h (b + 2) = some (oI 304 ed)) (h_3 : h (b + 3) = some (oI 304 co)) (h_4 : h (b + 4) = some (oI 304 no)) (hs : 0 ≤ s9 ∧ s9 ≤ 303) : Ct g yX0_takeAway (.code yX0_takeAway cX0_takeAway 2 none) 1 0 0 [vR b, vI s9] h (Rt none (hput (hput h (b + 2) (oI 304 (fput ed s9 (-1)))) (b + 3) (oI 304 (fput co s9 (-1))))) := by
  refine Ct.of (by decide) (Nat.le_of_ble_eq_true rfl) (fun x hg C F => ?_)
  subst hg
  show T x 0 [(0, vR b), (1, vI s9)] [] h 0 0
  refine st_aload_n C 0 dX0_takeAway_0 rfl rfl ?_
  refine st_getf C dX0_takeAway_1 fl_X0_19 hb rfl ?_
  refine st_iload_n C 1 dX0_takeAway_4 rfl rfl ?_
  refine st_iconst C dX0_takeAway_5 (by decide) ?_
  refine st_iast C dX0_takeAway_6 h_2 (by omega) (by omega) ?_
  refine st_aload_n C 0 dX0_takeAway_7 rfl rfl ?_
  refine st_getf C dX0_takeAway_8 fl_X0_22 (hput_o (by omega) hb) rfl ?_
  refine st_iload_n C 1 dX0_takeAway_11 rfl rfl ?_
  refine st_iconst C dX0_takeAway_12 (by decide) ?_
  refine st_iast C dX0_takeAway_13 (hput_o (by omega) h_3) (by omega) (by omega) ?_
  exact st_return C F dX0_takeAway_14 rfl ⟨rfl, rfl⟩ (by omega) (by omega)
set_option maxRecDepth 20000 in
set_option maxHeartbeats 4000000 in
theorem k_ownCountsOver {g : Gx} {h : HP} {b : Nat} {op : Int} {bs ed co no : Int → Int} {s9 v9 : Int} (hb : h b = some (oO 0 [vI op, vR (b + 1), vR (b + 2), vR (b + 3), vR (b + 4)])) (h_1 : h (b + 1) = some (oI 304 bs)) (h_2 : h (b + 2) = some (oI 304 ed)) (h_3 : h (b + 3) = some (oI 304 co)) (h_4 : h (b + 4) = some (oI 304 no)) (hs : 0 ≤ s9 ∧ s9 ≤ 303) : Ct g yX0_ownCountsOver (.code yX0_ownCountsOver cX0_ownCountsOver 3 none) 1 0 0 [vR b, vI s9, vI v9] h (Rt none (hput h (b + 3) (oI 304 (fput co s9 v9)))) := by
  refine Ct.of (by decide) (Nat.le_of_ble_eq_true rfl) (fun x hg C F => ?_)
  subst hg
  show T x 0 [(0, vR b), (1, vI s9), (2, vI v9)] [] h 0 0
  refine st_aload_n C 0 dX0_ownCountsOver_0 rfl rfl ?_
  refine st_getf C dX0_ownCountsOver_1 fl_X0_22 hb rfl ?_
  refine st_iload_n C 1 dX0_ownCountsOver_4 rfl rfl ?_
  refine st_iload_n C 2 dX0_ownCountsOver_5 rfl rfl ?_
  refine st_iast C dX0_ownCountsOver_6 h_3 (by omega) (by omega) ?_
  exact st_return C F dX0_ownCountsOver_7 rfl ⟨rfl, rfl⟩ (by omega) (by omega)
def edF (ed bs : Int → Int) (s v : Int) : Int → Int := fput ed s (if v = bs s then -1 else v)
def coF (co bs : Int → Int) (s v : Int) : Int → Int := if v = bs s then fput co s (-1) else co
def put2 (h : HP) (b : Nat) (ed co : Int → Int) : HP := hput (hput h (b + 2) (oI 304 ed)) (b + 3) (oI 304 co)
theorem put2_t {h : HP} {b : Nat} {ed co bs : Int → Int} {s v : Int} (c : v = bs s) : hput (hput h (b + 2) (oI 304 (fput ed s (-1)))) (b + 3) (oI 304 (fput co s (-1))) = put2 h b (edF ed bs s v) (coF co bs s v) := by
  unfold put2 edF coF
  rw [if_pos c, if_pos c]
theorem put2_f {h : HP} {b : Nat} {ed co bs : Int → Int} {s v : Int} (hc : h (b + 3) = some (oI 304 co)) (c : ¬ v = bs s) : hput h (b + 2) (oI 304 (fput ed s v)) = put2 h b (edF ed bs s v) (coF co bs s v) := by
  unfold put2 edF coF
  rw [if_neg c, if_neg c, hput_self (hput_o (by omega) hc)]
set_option maxRecDepth 20000 in
set_option maxHeartbeats 4000000 in
theorem k_put {g : Gx} {h : HP} {b : Nat} {op : Int} {bs ed co no : Int → Int} {s9 v9 : Int} (hb : h b = some (oO 0 [vI op, vR (b + 1), vR (b + 2), vR (b + 3), vR (b + 4)])) (h_1 : h (b + 1) = some (oI 304 bs)) (h_2 : h (b + 2) = some (oI 304 ed)) (h_3 : h (b + 3) = some (oI 304 co)) (h_4 : h (b + 4) = some (oI 304 no)) (hs : 0 ≤ s9 ∧ s9 ≤ 303) : Ct g yX0_put (.code yX0_put cX0_put 3 none) 2 0 0 [vR b, vI s9, vI v9] h (Rt none (put2 h b (edF ed bs s9 v9) (coF co bs s9 v9))) := by
  refine Ct.of (by decide) (Nat.le_of_ble_eq_true rfl) (fun x hg C F => ?_)
  subst hg
  show T x 0 [(0, vR b), (1, vI s9), (2, vI v9)] [] h 0 0
  refine st_iload_n C 2 dX0_put_0 rfl rfl ?_
  refine st_aload_n C 0 dX0_put_1 rfl rfl ?_
  refine st_getf C dX0_put_2 fl_X0_15 hb rfl ?_
  refine st_iload_n C 1 dX0_put_5 rfl rfl ?_
  refine st_iald C dX0_put_6 h_1 (by omega) (by omega) ?_
  refine st_icmp_ne (tgt := 18) C dX0_put_7 (by decide) (fun c_7 => ?_) (fun c_7 => ?_)
  · refine st_aload_n C 0 dX0_put_18 rfl rfl ?_
    refine st_getf C dX0_put_19 fl_X0_19 hb rfl ?_
    refine st_iload_n C 1 dX0_put_22 rfl rfl ?_
    refine st_iload_n C 2 dX0_put_23 rfl rfl ?_
    refine st_iast C dX0_put_24 h_2 (by omega) (by omega) ?_
    exact st_return C F dX0_put_25 rfl (rt_n (by first | exact put2_t (by assumption) | exact put2_f h_3 (by assumption))) (by omega) (by omega)
  · refine st_aload_n C 0 dX0_put_10 rfl rfl ?_
    refine st_iload_n C 1 dX0_put_11 rfl rfl ?_
    refine st_callV (st := []) C dX0_put_12 [vI s9] (k_takeAway (b := b) (op := op) (bs := bs) (ed := ed) (co := co) (no := no) (s9 := s9) hb h_1 h_2 h_3 h_4 (by omega)) hb w_X0_41 rfl (by decide) (by decide) (by omega) (by omega) (Nat.le_of_ble_eq_true rfl) (ko_rn ?_)
    show T x 15 [(0, vR b), (1, vI s9), (2, vI v9)] [] (hput (hput h (b + 2) (oI 304 (fput ed s9 (-1)))) (b + 3) (oI 304 (fput co s9 (-1)))) _ _
    refine st_goto (tgt := 25) C dX0_put_15 (by decide) ?_
    exact st_return C F dX0_put_25 rfl (rt_n (by first | exact put2_t (by assumption) | exact put2_f h_3 (by assumption))) (by omega) (by omega)
set_option maxRecDepth 20000 in
set_option maxHeartbeats 4000000 in
theorem k_bring_f {g : Gx} {h : HP} {b : Nat} {op : Int} {bs ed co no : Int → Int} {s9 a9 t9 : Int} (hb : h b = some (oO 0 [vI op, vR (b + 1), vR (b + 2), vR (b + 3), vR (b + 4)])) (h_1 : h (b + 1) = some (oI 304 bs)) (h_2 : h (b + 2) = some (oI 304 ed)) (h_3 : h (b + 3) = some (oI 304 co)) (h_4 : h (b + 4) = some (oI 304 no)) (hs : 0 ≤ s9 ∧ s9 ≤ 303) (hP : ¬ no s9 ≤ t9) : Ct g yX0_bring (.code yX0_bring cX0_bring 4 (some .boolean)) 3 0 0 [vR b, vI s9, vI a9, vI t9] h (Rt (some (vI 0)) h) := by
  refine Ct.of (by decide) (Nat.le_of_ble_eq_true rfl) (fun x hg C F => ?_)
  subst hg
  show T x 0 [(0, vR b), (1, vI s9), (2, vI a9), (3, vI t9)] [] h 0 0
  refine st_aload_n C 0 dX0_bring_0 rfl rfl ?_
  refine st_getf C dX0_bring_1 fl_X0_25 hb rfl ?_
  refine st_iload_n C 1 dX0_bring_4 rfl rfl ?_
  refine st_iald C dX0_bring_5 h_4 (by omega) (by omega) ?_
  refine st_iload_n C 3 dX0_bring_6 rfl rfl ?_
  refine st_icmp_le (tgt := 12) C dX0_bring_7 (by decide) (fun c_7 => by omega) (fun c_7 => ?_)
  refine st_iconst C dX0_bring_10 (by decide) ?_
  exact st_zreturn C F dX0_bring_11 rfl (by omega) (rt_i rfl rfl) (by omega) (by omega)
set_option maxRecDepth 20000 in
set_option maxHeartbeats 4000000 in
theorem k_bring_t {g : Gx} {h : HP} {b : Nat} {op : Int} {bs ed co no : Int → Int} {s9 a9 t9 : Int} (hb : h b = some (oO 0 [vI op, vR (b + 1), vR (b + 2), vR (b + 3), vR (b + 4)])) (h_1 : h (b + 1) = some (oI 304 bs)) (h_2 : h (b + 2) = some (oI 304 ed)) (h_3 : h (b + 3) = some (oI 304 co)) (h_4 : h (b + 4) = some (oI 304 no)) (hs : 0 ≤ s9 ∧ s9 ≤ 303) (hP : no s9 ≤ t9) : Ct g yX0_bring (.code yX0_bring cX0_bring 4 (some .boolean)) 3 0 0 [vR b, vI s9, vI a9, vI t9] h (Rt (some (vI 1)) (put2 (hput h (b + 4) (oI 304 (fput no s9 t9))) b (edF ed bs s9 a9) (coF co bs s9 a9))) := by
  refine Ct.of (by decide) (Nat.le_of_ble_eq_true rfl) (fun x hg C F => ?_)
  subst hg
  show T x 0 [(0, vR b), (1, vI s9), (2, vI a9), (3, vI t9)] [] h 0 0
  refine st_aload_n C 0 dX0_bring_0 rfl rfl ?_
  refine st_getf C dX0_bring_1 fl_X0_25 hb rfl ?_
  refine st_iload_n C 1 dX0_bring_4 rfl rfl ?_
  refine st_iald C dX0_bring_5 h_4 (by omega) (by omega) ?_
  refine st_iload_n C 3 dX0_bring_6 rfl rfl ?_
  refine st_icmp_le (tgt := 12) C dX0_bring_7 (by decide) (fun c_7 => ?_) (fun c_7 => by omega)
  refine st_aload_n C 0 dX0_bring_12 rfl rfl ?_
  refine st_getf C dX0_bring_13 fl_X0_25 hb rfl ?_
  refine st_iload_n C 1 dX0_bring_16 rfl rfl ?_
  refine st_iload_n C 3 dX0_bring_17 rfl rfl ?_
  refine st_iast C dX0_bring_18 h_4 (by omega) (by omega) ?_
  refine st_aload_n C 0 dX0_bring_19 rfl rfl ?_
  refine st_iload_n C 1 dX0_bring_20 rfl rfl ?_
  refine st_iload_n C 2 dX0_bring_21 rfl rfl ?_
  refine st_callV (st := []) C dX0_bring_22 [vI s9, vI a9] (k_put (b := b) (op := op) (bs := bs) (ed := ed) (co := co) (no := (fput no s9 t9)) (s9 := s9) (v9 := a9) (hput_o (by omega) hb) (hput_o (by omega) h_1) (hput_o (by omega) h_2) (hput_o (by omega) h_3) hput_s (by omega)) (hput_o (by omega) hb) w_X0_45 rfl (by decide) (by decide) (by omega) (by omega) (Nat.le_of_ble_eq_true rfl) (ko_rn ?_)
  show T x 25 [(0, vR b), (1, vI s9), (2, vI a9), (3, vI t9)] [] (hput (hput (hput h (b + 4) (oI 304 (fput no s9 t9))) (b + 2) (oI 304 (edF ed bs s9 a9))) (b + 3) (oI 304 (coF co bs s9 a9))) _ _
  refine st_iconst C dX0_bring_25 (by decide) ?_
  exact st_zreturn C F dX0_bring_26 rfl (by omega) (rt_i rfl rfl) (by omega) (by omega)
set_option maxRecDepth 20000 in
set_option maxHeartbeats 4000000 in
theorem k_editCount {g : Gx} {h : HP} {b : Nat} {op : Int} {bs ed co no : Int → Int} (hb : h b = some (oO 0 [vI op, vR (b + 1), vR (b + 2), vR (b + 3), vR (b + 4)])) (h_1 : h (b + 1) = some (oI 304 bs)) (h_2 : h (b + 2) = some (oI 304 ed)) (h_3 : h (b + 3) = some (oI 304 co)) (h_4 : h (b + 4) = some (oI 304 no)) : Ct g yX0_editCount (.code yX0_editCount cX0_editCount 3 (some .int)) 1 0 0 [vR b] h (Rt (some (vI (cnt (fun j => ed j ≠ -1) 304))) h) := by
  refine Ct.of (by decide) (Nat.le_of_ble_eq_true rfl) (fun x hg C F => ?_)
  subst hg
  show T x 0 [(0, vR b)] [] h 0 0
  refine st_iconst C dX0_editCount_0 (by decide) ?_
  refine st_istore_n C 1 dX0_editCount_1 rfl (by decide) rfl ?_
  show T x 2 [(0, vR b), (1, vI 0)] [] _ _ _
  refine st_iconst C dX0_editCount_2 (by decide) ?_
  refine st_istore_n C 2 dX0_editCount_3 rfl (by decide) rfl ?_
  show T x 4 [(0, vR b), (1, vI 0), (2, vI 0)] [] _ _ _
  have loop_4 : ∀ (n_4 : Nat) (c1 : Int) (i : Int), (0 ≤ i) → (i ≤ 304) → (0 ≤ c1 ∧ c1 ≤ i) → (c1 = cnt (fun j => ed j ≠ -1) i) → (304 - i).toNat < n_4 → T x 4 [(0, vR b), (1, vI c1), (2, vI i)] [] h 0 0 := by
    intro n_4
    induction n_4 with
    | zero => intro c1 i g1 g2 g3 g4 hm_4; exact absurd hm_4 (Nat.not_lt_zero _)
    | succ n_4 ih_4 =>
      intro c1 i g1 g2 g3 g4 hm_4
      refine st_iload_n C 2 dX0_editCount_4 rfl rfl ?_
      refine st_sipush C dX0_editCount_5 (by decide) (by decide) ?_
      refine st_icmp_ge (tgt := 30) C dX0_editCount_8 (by decide) (fun c_8 => ?_) (fun c_8 => ?_)
      · refine st_iload_n C 1 dX0_editCount_30 rfl rfl ?_
        exact st_ireturn C F dX0_editCount_31 rfl (rt_i (cntE g4 (by omega)) rfl) (by omega) (by omega)
      · refine st_aload_n C 0 dX0_editCount_11 rfl rfl ?_
        refine st_getf C dX0_editCount_12 fl_X0_19 hb rfl ?_
        refine st_iload_n C 2 dX0_editCount_15 rfl rfl ?_
        refine st_iald C dX0_editCount_16 h_2 (by omega) (by omega) ?_
        refine st_iconst C dX0_editCount_17 (by decide) ?_
        refine st_icmp_eq (tgt := 24) C dX0_editCount_18 (by decide) (fun c_18 => ?_) (fun c_18 => ?_)
        · refine st_iinc C dX0_editCount_24 rfl (by decide) rfl ⟨(by omega), (by omega)⟩ ?_
          show T x 27 [(0, vR b), (1, vI c1), (2, vI (i + 1))] [] _ _ _
          refine st_goto (tgt := 4) C dX0_editCount_27 (by decide) ?_
          exact ih_4 c1 (i + 1) (by omega) (by omega) (by omega) (by first | exact cnt_t g1 (by assumption) g4 | exact cnt_f g1 (fun z => z (by assumption)) g4) (by omega)
        · refine st_iinc C dX0_editCount_21 rfl (by decide) rfl ⟨(by omega), (by omega)⟩ ?_
          show T x 24 [(0, vR b), (1, vI (c1 + 1)), (2, vI i)] [] _ _ _
          refine st_iinc C dX0_editCount_24 rfl (by decide) rfl ⟨(by omega), (by omega)⟩ ?_
          show T x 27 [(0, vR b), (1, vI (c1 + 1)), (2, vI (i + 1))] [] _ _ _
          refine st_goto (tgt := 4) C dX0_editCount_27 (by decide) ?_
          exact ih_4 (c1 + 1) (i + 1) (by omega) (by omega) (by omega) (by first | exact cnt_t g1 (by assumption) g4 | exact cnt_f g1 (fun z => z (by assumption)) g4) (by omega)
  exact loop_4 _ 0 0 (by omega) (by omega) (by omega) (cnt_0) (Nat.lt_succ_self _)
/-- a conflict: the edit, the base, the map, what was told -/
def Cf (ed bs co : Int → Int) (s v : Int) : Prop := ed s ≠ -1 ∧ v ≠ bs s ∧ v ≠ ed s ∧ v ≠ co s
set_option maxRecDepth 20000 in
set_option maxHeartbeats 4000000 in
theorem k_isConflict_t {g : Gx} {h : HP} {b : Nat} {op : Int} {bs ed co no : Int → Int} {s9 v9 : Int} (hb : h b = some (oO 0 [vI op, vR (b + 1), vR (b + 2), vR (b + 3), vR (b + 4)])) (h_1 : h (b + 1) = some (oI 304 bs)) (h_2 : h (b + 2) = some (oI 304 ed)) (h_3 : h (b + 3) = some (oI 304 co)) (h_4 : h (b + 4) = some (oI 304 no)) (hs : 0 ≤ s9 ∧ s9 ≤ 303) (hP : Cf ed bs co s9 v9) : Ct g yX0_isConflict (.code yX0_isConflict cX0_isConflict 3 (some .boolean)) 1 0 0 [vR b, vI s9, vI v9] h (Rt (some (vI 1)) h) := by
  refine Ct.of (by decide) (Nat.le_of_ble_eq_true rfl) (fun x hg C F => ?_)
  subst hg
  show T x 0 [(0, vR b), (1, vI s9), (2, vI v9)] [] h 0 0
  refine st_aload_n C 0 dX0_isConflict_0 rfl rfl ?_
  refine st_getf C dX0_isConflict_1 fl_X0_19 hb rfl ?_
  refine st_iload_n C 1 dX0_isConflict_4 rfl rfl ?_
  refine st_iald C dX0_isConflict_5 h_2 (by omega) (by omega) ?_
  refine st_iconst C dX0_isConflict_6 (by decide) ?_
  refine st_icmp_eq (tgt := 44) C dX0_isConflict_7 (by decide) (fun c_7 => ?_) (fun c_7 => ?_)
  · refine st_iconst C dX0_isConflict_44 (by decide) ?_
    exact st_zreturn C F dX0_isConflict_45 rfl (by omega) (rt_i (by unfold Cf at hP; omega) rfl) (by omega) (by omega)
  · refine st_iload_n C 2 dX0_isConflict_10 rfl rfl ?_
    refine st_aload_n C 0 dX0_isConflict_11 rfl rfl ?_
    refine st_getf C dX0_isConflict_12 fl_X0_15 hb rfl ?_
    refine st_iload_n C 1 dX0_isConflict_15 rfl rfl ?_
    refine st_iald C dX0_isConflict_16 h_1 (by omega) (by omega) ?_
    refine st_icmp_eq (tgt := 44) C dX0_isConflict_17 (by decide) (fun c_17 => ?_) (fun c_17 => ?_)
    · refine st_iconst C dX0_isConflict_44 (by decide) ?_
      exact st_zreturn C F dX0_isConflict_45 rfl (by omega) (rt_i (by unfold Cf at hP; omega) rfl) (by omega) (by omega)
    · refine st_iload_n C 2 dX0_isConflict_20 rfl rfl ?_
      refine st_aload_n C 0 dX0_isConflict_21 rfl rfl ?_
      refine st_getf C dX0_isConflict_22 fl_X0_19 hb rfl ?_
      refine st_iload_n C 1 dX0_isConflict_25 rfl rfl ?_
      refine st_iald C dX0_isConflict_26 h_2 (by omega) (by omega) ?_
      refine st_icmp_eq (tgt := 44) C dX0_isConflict_27 (by decide) (fun c_27 => ?_) (fun c_27 => ?_)
      · refine st_iconst C dX0_isConflict_44 (by decide) ?_
        exact st_zreturn C F dX0_isConflict_45 rfl (by omega) (rt_i (by unfold Cf at hP; omega) rfl) (by omega) (by omega)
      · refine st_iload_n C 2 dX0_isConflict_30 rfl rfl ?_
        refine st_aload_n C 0 dX0_isConflict_31 rfl rfl ?_
        refine st_getf C dX0_isConflict_32 fl_X0_22 hb rfl ?_
        refine st_iload_n C 1 dX0_isConflict_35 rfl rfl ?_
        refine st_iald C dX0_isConflict_36 h_3 (by omega) (by omega) ?_
        refine st_icmp_eq (tgt := 44) C dX0_isConflict_37 (by decide) (fun c_37 => ?_) (fun c_37 => ?_)
        · refine st_iconst C dX0_isConflict_44 (by decide) ?_
          exact st_zreturn C F dX0_isConflict_45 rfl (by omega) (rt_i (by unfold Cf at hP; omega) rfl) (by omega) (by omega)
        · refine st_iconst C dX0_isConflict_40 (by decide) ?_
          refine st_goto (tgt := 45) C dX0_isConflict_41 (by decide) ?_
          exact st_zreturn C F dX0_isConflict_45 rfl (by omega) (rt_i (by unfold Cf at hP; omega) rfl) (by omega) (by omega)
set_option maxRecDepth 20000 in
set_option maxHeartbeats 4000000 in
theorem k_isConflict_f {g : Gx} {h : HP} {b : Nat} {op : Int} {bs ed co no : Int → Int} {s9 v9 : Int} (hb : h b = some (oO 0 [vI op, vR (b + 1), vR (b + 2), vR (b + 3), vR (b + 4)])) (h_1 : h (b + 1) = some (oI 304 bs)) (h_2 : h (b + 2) = some (oI 304 ed)) (h_3 : h (b + 3) = some (oI 304 co)) (h_4 : h (b + 4) = some (oI 304 no)) (hs : 0 ≤ s9 ∧ s9 ≤ 303) (hP : ¬ Cf ed bs co s9 v9) : Ct g yX0_isConflict (.code yX0_isConflict cX0_isConflict 3 (some .boolean)) 1 0 0 [vR b, vI s9, vI v9] h (Rt (some (vI 0)) h) := by
  refine Ct.of (by decide) (Nat.le_of_ble_eq_true rfl) (fun x hg C F => ?_)
  subst hg
  show T x 0 [(0, vR b), (1, vI s9), (2, vI v9)] [] h 0 0
  refine st_aload_n C 0 dX0_isConflict_0 rfl rfl ?_
  refine st_getf C dX0_isConflict_1 fl_X0_19 hb rfl ?_
  refine st_iload_n C 1 dX0_isConflict_4 rfl rfl ?_
  refine st_iald C dX0_isConflict_5 h_2 (by omega) (by omega) ?_
  refine st_iconst C dX0_isConflict_6 (by decide) ?_
  refine st_icmp_eq (tgt := 44) C dX0_isConflict_7 (by decide) (fun c_7 => ?_) (fun c_7 => ?_)
  · refine st_iconst C dX0_isConflict_44 (by decide) ?_
    exact st_zreturn C F dX0_isConflict_45 rfl (by omega) (rt_i (by unfold Cf at hP; omega) rfl) (by omega) (by omega)
  · refine st_iload_n C 2 dX0_isConflict_10 rfl rfl ?_
    refine st_aload_n C 0 dX0_isConflict_11 rfl rfl ?_
    refine st_getf C dX0_isConflict_12 fl_X0_15 hb rfl ?_
    refine st_iload_n C 1 dX0_isConflict_15 rfl rfl ?_
    refine st_iald C dX0_isConflict_16 h_1 (by omega) (by omega) ?_
    refine st_icmp_eq (tgt := 44) C dX0_isConflict_17 (by decide) (fun c_17 => ?_) (fun c_17 => ?_)
    · refine st_iconst C dX0_isConflict_44 (by decide) ?_
      exact st_zreturn C F dX0_isConflict_45 rfl (by omega) (rt_i (by unfold Cf at hP; omega) rfl) (by omega) (by omega)
    · refine st_iload_n C 2 dX0_isConflict_20 rfl rfl ?_
      refine st_aload_n C 0 dX0_isConflict_21 rfl rfl ?_
      refine st_getf C dX0_isConflict_22 fl_X0_19 hb rfl ?_
      refine st_iload_n C 1 dX0_isConflict_25 rfl rfl ?_
      refine st_iald C dX0_isConflict_26 h_2 (by omega) (by omega) ?_
      refine st_icmp_eq (tgt := 44) C dX0_isConflict_27 (by decide) (fun c_27 => ?_) (fun c_27 => ?_)
      · refine st_iconst C dX0_isConflict_44 (by decide) ?_
        exact st_zreturn C F dX0_isConflict_45 rfl (by omega) (rt_i (by unfold Cf at hP; omega) rfl) (by omega) (by omega)
      · refine st_iload_n C 2 dX0_isConflict_30 rfl rfl ?_
        refine st_aload_n C 0 dX0_isConflict_31 rfl rfl ?_
        refine st_getf C dX0_isConflict_32 fl_X0_22 hb rfl ?_
        refine st_iload_n C 1 dX0_isConflict_35 rfl rfl ?_
        refine st_iald C dX0_isConflict_36 h_3 (by omega) (by omega) ?_
        refine st_icmp_eq (tgt := 44) C dX0_isConflict_37 (by decide) (fun c_37 => ?_) (fun c_37 => ?_)
        · refine st_iconst C dX0_isConflict_44 (by decide) ?_
          exact st_zreturn C F dX0_isConflict_45 rfl (by omega) (rt_i (by unfold Cf at hP; omega) rfl) (by omega) (by omega)
        · refine st_iconst C dX0_isConflict_40 (by decide) ?_
          refine st_goto (tgt := 45) C dX0_isConflict_41 (by decide) ?_
          exact st_zreturn C F dX0_isConflict_45 rfl (by omega) (rt_i (by unfold Cf at hP; omega) rfl) (by omega) (by omega)
set_option maxRecDepth 20000 in
set_option maxHeartbeats 4000000 in
theorem k_conflictCount {g : Gx} {h : HP} {b : Nat} {op : Int} {bs ed co no : Int → Int} {mp : Nat} {mf : Int → Int} (hb : h b = some (oO 0 [vI op, vR (b + 1), vR (b + 2), vR (b + 3), vR (b + 4)])) (h_1 : h (b + 1) = some (oI 304 bs)) (h_2 : h (b + 2) = some (oI 304 ed)) (h_3 : h (b + 3) = some (oI 304 co)) (h_4 : h (b + 4) = some (oI 304 no)) (hm : h mp = some (oI 304 mf)) : Ct g yX0_conflictCount (.code yX0_conflictCount cX0_conflictCount 4 (some .int)) 2 0 0 [vR b, vR mp] h (Rt (some (vI (cnt (fun j => Cf ed bs co j (mf j)) 304))) h) := by
  refine Ct.of (by decide) (Nat.le_of_ble_eq_true rfl) (fun x hg C F => ?_)
  subst hg
  show T x 0 [(0, vR b), (1, vR mp)] [] h 0 0
  refine st_iconst C dX0_conflictCount_0 (by decide) ?_
  refine st_istore_n C 2 dX0_conflictCount_1 rfl (by decide) rfl ?_
  show T x 2 [(0, vR b), (1, vR mp), (2, vI 0)] [] _ _ _
  refine st_iconst C dX0_conflictCount_2 (by decide) ?_
  refine st_istore_n C 3 dX0_conflictCount_3 rfl (by decide) rfl ?_
  show T x 4 [(0, vR b), (1, vR mp), (2, vI 0), (3, vI 0)] [] _ _ _
  have loop_4 : ∀ (n_4 : Nat) (c1 : Int) (i : Int), (0 ≤ i) → (i ≤ 304) → (0 ≤ c1 ∧ c1 ≤ i) → (c1 = cnt (fun j => Cf ed bs co j (mf j)) i) → (304 - i).toNat < n_4 → T x 4 [(0, vR b), (1, vR mp), (2, vI c1), (3, vI i)] [] h 0 0 := by
    intro n_4
    induction n_4 with
    | zero => intro c1 i g1 g2 g3 g4 hm_4; exact absurd hm_4 (Nat.not_lt_zero _)
    | succ n_4 ih_4 =>
      intro c1 i g1 g2 g3 g4 hm_4
      refine st_iload_n C 3 dX0_conflictCount_4 rfl rfl ?_
      refine st_sipush C dX0_conflictCount_5 (by decide) (by decide) ?_
      refine st_icmp_ge (tgt := 31) C dX0_conflictCount_8 (by decide) (fun c_8 => ?_) (fun c_8 => ?_)
      · refine st_iload_n C 2 dX0_conflictCount_31 rfl rfl ?_
        exact st_ireturn C F dX0_conflictCount_32 rfl (rt_i (cntE g4 (by omega)) rfl) (by omega) (by omega)
      · refine st_aload_n C 0 dX0_conflictCount_11 rfl rfl ?_
        refine st_iload_n C 3 dX0_conflictCount_12 rfl rfl ?_
        refine st_aload_n C 1 dX0_conflictCount_13 rfl rfl ?_
        refine st_iload_n C 3 dX0_conflictCount_14 rfl rfl ?_
        refine st_iald C dX0_conflictCount_15 hm (by omega) (by omega) ?_
        by_cases b_16 : Cf ed bs co i (mf i)
        · refine st_callV (st := []) C dX0_conflictCount_16 [vI i, vI (mf i)] (k_isConflict_t (b := b) (op := op) (bs := bs) (ed := ed) (co := co) (no := no) (s9 := i) (v9 := (mf i)) hb h_1 h_2 h_3 h_4 (by omega) b_16) hb w_X0_49 rfl (by decide) (by decide) (by omega) (by omega) (Nat.le_of_ble_eq_true rfl) (ko_rt ?_)
          show T x 19 [(0, vR b), (1, vR mp), (2, vI c1), (3, vI i)] [vI 1] _ _ _
          refine st_if_eq (tgt := 25) C dX0_conflictCount_19 (by decide) (fun c_19 => by omega) (fun c_19 => ?_)
          refine st_iinc C dX0_conflictCount_22 rfl (by decide) rfl ⟨(by omega), (by omega)⟩ ?_
          show T x 25 [(0, vR b), (1, vR mp), (2, vI (c1 + 1)), (3, vI i)] [] _ _ _
          refine st_iinc C dX0_conflictCount_25 rfl (by decide) rfl ⟨(by omega), (by omega)⟩ ?_
          show T x 28 [(0, vR b), (1, vR mp), (2, vI (c1 + 1)), (3, vI (i + 1))] [] _ _ _
          refine st_goto (tgt := 4) C dX0_conflictCount_28 (by decide) ?_
          exact ih_4 (c1 + 1) (i + 1) (by omega) (by omega) (by omega) (by first | exact cnt_t g1 (by assumption) g4 | exact cnt_f g1 (by assumption) g4) (by omega)
        · refine st_callV (st := []) C dX0_conflictCount_16 [vI i, vI (mf i)] (k_isConflict_f (b := b) (op := op) (bs := bs) (ed := ed) (co := co) (no := no) (s9 := i) (v9 := (mf i)) hb h_1 h_2 h_3 h_4 (by omega) b_16) hb w_X0_49 rfl (by decide) (by decide) (by omega) (by omega) (Nat.le_of_ble_eq_true rfl) (ko_rt ?_)
          show T x 19 [(0, vR b), (1, vR mp), (2, vI c1), (3, vI i)] [vI 0] _ _ _
          refine st_if_eq (tgt := 25) C dX0_conflictCount_19 (by decide) (fun c_19 => ?_) (fun c_19 => by omega)
          refine st_iinc C dX0_conflictCount_25 rfl (by decide) rfl ⟨(by omega), (by omega)⟩ ?_
          show T x 28 [(0, vR b), (1, vR mp), (2, vI c1), (3, vI (i + 1))] [] _ _ _
          refine st_goto (tgt := 4) C dX0_conflictCount_28 (by decide) ?_
          exact ih_4 c1 (i + 1) (by omega) (by omega) (by omega) (by first | exact cnt_t g1 (by assumption) g4 | exact cnt_f g1 (by assumption) g4) (by omega)
  exact loop_4 _ 0 0 (by omega) (by omega) (by omega) (cnt_0) (Nat.lt_succ_self _)
/-- the number with P that has k others with P below it; -1 if there is none below n -/
def IsNth (P : Int → Prop) (n k r : Int) : Prop := (0 ≤ r ∧ r < n ∧ P r ∧ cnt P r = k) ∨ (r = -1 ∧ ∀ j, 0 ≤ j → j < n → P j → cnt P j ≠ k)
theorem nth_at {P : Int → Prop} {n k r i c : Int} (h0 : 0 ≤ i) (h1 : i < n) (hp : P i) (hc : c = cnt P i) (hk : c = k) (h3 : ∀ j, 0 ≤ j → j < i → P j → cnt P j ≠ k) (hr : IsNth P n k r) : i = r := by
  rcases hr with ⟨g1, g2, g3, g4⟩ | ⟨g1, g2⟩
  · rcases Int.lt_trichotomy i r with q | q | q
    · have h5 : cnt P (i + 1) ≤ cnt P r := cnt_mono (by omega) (by omega)
      rw [cnt_s h0, if_pos hp] at h5
      omega
    · exact q
    · exact absurd g4 (h3 r g1 q g3)
  · exact absurd (hc.symm.trans hk) (g2 i h0 h1 hp)
theorem nth_no {P : Int → Prop} {n k r i : Int} (h1 : n ≤ i) (h3 : ∀ j, 0 ≤ j → j < i → P j → cnt P j ≠ k) (hr : IsNth P n k r) : -1 = r := by
  rcases hr with ⟨g1, g2, g3, g4⟩ | ⟨g1, g2⟩
  · exact absurd g4 (h3 r g1 (by omega) g3)
  · exact g1.symm
theorem nth_0 {P : Int → Prop} {k : Int} : ∀ j : Int, 0 ≤ j → j < 0 → P j → cnt P j ≠ k := fun j h8 h9 => absurd h9 (by omega)
theorem nth_f {P : Int → Prop} {i k : Int} (h3 : ∀ j, 0 ≤ j → j < i → P j → cnt P j ≠ k) (hp : ¬ P i) : ∀ j, 0 ≤ j → j < i + 1 → P j → cnt P j ≠ k := fun j h8 h9 hj => by
  by_cases e9 : j = i
  · subst e9; exact absurd hj hp
  · exact h3 j h8 (by omega) hj
theorem nth_t {P : Int → Prop} {i k c : Int} (h3 : ∀ j, 0 ≤ j → j < i → P j → cnt P j ≠ k) (hc : c = cnt P i) (hk : c ≠ k) : ∀ j, 0 ≤ j → j < i + 1 → P j → cnt P j ≠ k := fun j h8 h9 hj => by
  by_cases e9 : j = i
  · subst e9; rw [← hc]; exact hk
  · exact h3 j h8 (by omega) hj
theorem nth_ex (P : Int → Prop) (n k : Int) : ∃ r, IsNth P n k r := by
  by_cases h : ∃ r, 0 ≤ r ∧ r < n ∧ P r ∧ cnt P r = k
  · obtain ⟨r, hr⟩ := h; exact ⟨r, Or.inl hr⟩
  · exact ⟨-1, Or.inr ⟨rfl, fun j h1 h2 h3 h4 => h ⟨j, h1, h2, h3, h4⟩⟩⟩
set_option maxRecDepth 20000 in
set_option maxHeartbeats 4000000 in
theorem k_conflictAt {g : Gx} {h : HP} {b : Nat} {op : Int} {bs ed co no : Int → Int} {mp : Nat} {mf : Int → Int} {k9 r9 : Int} (hb : h b = some (oO 0 [vI op, vR (b + 1), vR (b + 2), vR (b + 3), vR (b + 4)])) (h_1 : h (b + 1) = some (oI 304 bs)) (h_2 : h (b + 2) = some (oI 304 ed)) (h_3 : h (b + 3) = some (oI 304 co)) (h_4 : h (b + 4) = some (oI 304 no)) (hm : h mp = some (oI 304 mf)) (hr : IsNth (fun j => Cf ed bs co j (mf j)) 304 k9 r9) : Ct g yX0_conflictAt (.code yX0_conflictAt cX0_conflictAt 5 (some .int)) 2 0 0 [vR b, vI k9, vR mp] h (Rt (some (vI r9)) h) := by
  refine Ct.of (by decide) (Nat.le_of_ble_eq_true rfl) (fun x hg C F => ?_)
  subst hg
  show T x 0 [(0, vR b), (1, vI k9), (2, vR mp)] [] h 0 0
  refine st_iconst C dX0_conflictAt_0 (by decide) ?_
  refine st_istore_n C 3 dX0_conflictAt_1 rfl (by decide) rfl ?_
  show T x 2 [(0, vR b), (1, vI k9), (2, vR mp), (3, vI 0)] [] _ _ _
  refine st_iconst C dX0_conflictAt_2 (by decide) ?_
  refine st_istore C dX0_conflictAt_3 (by decide) rfl ?_
  show T x 5 [(0, vR b), (1, vI k9), (2, vR mp), (3, vI 0), (4, vI 0)] [] _ _ _
  have loop_5 : ∀ (n_5 : Nat) (c1 : Int) (i : Int), (0 ≤ i) → (i ≤ 304) → (0 ≤ c1 ∧ c1 ≤ i) → (c1 = cnt (fun j => Cf ed bs co j (mf j)) i) → (∀ j, 0 ≤ j → j < i → (fun j => Cf ed bs co j (mf j)) j → cnt (fun j => Cf ed bs co j (mf j)) j ≠ k9) → (304 - i).toNat < n_5 → T x 5 [(0, vR b), (1, vI k9), (2, vR mp), (3, vI c1), (4, vI i)] [] h 0 0 := by
    intro n_5
    induction n_5 with
    | zero => intro c1 i g1 g2 g3 g4 g5 hm_5; exact absurd hm_5 (Nat.not_lt_zero _)
    | succ n_5 ih_5 =>
      intro c1 i g1 g2 g3 g4 g5 hm_5
      refine st_iload C dX0_conflictAt_5 rfl ?_
      refine st_sipush C dX0_conflictAt_7 (by decide) (by decide) ?_
      refine st_icmp_ge (tgt := 43) C dX0_conflictAt_10 (by decide) (fun c_10 => ?_) (fun c_10 => ?_)
      · refine st_iconst C dX0_conflictAt_43 (by decide) ?_
        exact st_ireturn C F dX0_conflictAt_44 rfl (rt_i (nth_no (by omega) g5 hr) rfl) (by omega) (by omega)
      · refine st_aload_n C 0 dX0_conflictAt_13 rfl rfl ?_
        refine st_iload C dX0_conflictAt_14 rfl ?_
        refine st_aload_n C 2 dX0_conflictAt_16 rfl rfl ?_
        refine st_iload C dX0_conflictAt_17 rfl ?_
        refine st_iald C dX0_conflictAt_19 hm (by omega) (by omega) ?_
        by_cases b_20 : Cf ed bs co i (mf i)
        · refine st_callV (st := []) C dX0_conflictAt_20 [vI i, vI (mf i)] (k_isConflict_t (b := b) (op := op) (bs := bs) (ed := ed) (co := co) (no := no) (s9 := i) (v9 := (mf i)) hb h_1 h_2 h_3 h_4 (by omega) b_20) hb w_X0_49 rfl (by decide) (by decide) (by omega) (by omega) (Nat.le_of_ble_eq_true rfl) (ko_rt ?_)
          show T x 23 [(0, vR b), (1, vI k9), (2, vR mp), (3, vI c1), (4, vI i)] [vI 1] _ _ _
          refine st_if_eq (tgt := 37) C dX0_conflictAt_23 (by decide) (fun c_23 => by omega) (fun c_23 => ?_)
          refine st_iload_n C 3 dX0_conflictAt_26 rfl rfl ?_
          refine st_iload_n C 1 dX0_conflictAt_27 rfl rfl ?_
          refine st_icmp_ne (tgt := 34) C dX0_conflictAt_28 (by decide) (fun c_28 => ?_) (fun c_28 => ?_)
          · refine st_iinc C dX0_conflictAt_34 rfl (by decide) rfl ⟨(by omega), (by omega)⟩ ?_
            show T x 37 [(0, vR b), (1, vI k9), (2, vR mp), (3, vI (c1 + 1)), (4, vI i)] [] _ _ _
            refine st_iinc C dX0_conflictAt_37 rfl (by decide) rfl ⟨(by omega), (by omega)⟩ ?_
            show T x 40 [(0, vR b), (1, vI k9), (2, vR mp), (3, vI (c1 + 1)), (4, vI (i + 1))] [] _ _ _
            refine st_goto (tgt := 5) C dX0_conflictAt_40 (by decide) ?_
            exact ih_5 (c1 + 1) (i + 1) (by omega) (by omega) (by omega) (by first | exact cnt_t g1 (by assumption) g4 | exact cnt_f g1 (by assumption) g4) (by first | exact nth_t g5 g4 (by assumption) | exact nth_f g5 (by assumption)) (by omega)
          · refine st_iload C dX0_conflictAt_31 rfl ?_
            exact st_ireturn C F dX0_conflictAt_33 rfl (rt_i (nth_at g1 (by omega) (by assumption) g4 (by omega) g5 hr) rfl) (by omega) (by omega)
        · refine st_callV (st := []) C dX0_conflictAt_20 [vI i, vI (mf i)] (k_isConflict_f (b := b) (op := op) (bs := bs) (ed := ed) (co := co) (no := no) (s9 := i) (v9 := (mf i)) hb h_1 h_2 h_3 h_4 (by omega) b_20) hb w_X0_49 rfl (by decide) (by decide) (by omega) (by omega) (Nat.le_of_ble_eq_true rfl) (ko_rt ?_)
          show T x 23 [(0, vR b), (1, vI k9), (2, vR mp), (3, vI c1), (4, vI i)] [vI 0] _ _ _
          refine st_if_eq (tgt := 37) C dX0_conflictAt_23 (by decide) (fun c_23 => ?_) (fun c_23 => by omega)
          refine st_iinc C dX0_conflictAt_37 rfl (by decide) rfl ⟨(by omega), (by omega)⟩ ?_
          show T x 40 [(0, vR b), (1, vI k9), (2, vR mp), (3, vI c1), (4, vI (i + 1))] [] _ _ _
          refine st_goto (tgt := 5) C dX0_conflictAt_40 (by decide) ?_
          exact ih_5 c1 (i + 1) (by omega) (by omega) (by omega) (by first | exact cnt_t g1 (by assumption) g4 | exact cnt_f g1 (by assumption) g4) (by first | exact nth_t g5 g4 (by assumption) | exact nth_f g5 (by assumption)) (by omega)
  exact loop_5 _ 0 0 (by omega) (by omega) (by omega) (cnt_0) (nth_0) (Nat.lt_succ_self _)
def wov (ed mf : Int → Int) : Int → Int := fun j => if ed j = -1 then mf j else ed j
set_option maxRecDepth 20000 in
set_option maxHeartbeats 4000000 in
theorem k_writeOver {g : Gx} {h : HP} {b : Nat} {op : Int} {bs ed co no : Int → Int} {mp : Nat} {mf : Int → Int} {tr : Nat} {tf : Int → Int} (hb : h b = some (oO 0 [vI op, vR (b + 1), vR (b + 2), vR (b + 3), vR (b + 4)])) (h_1 : h (b + 1) = some (oI 304 bs)) (h_2 : h (b + 2) = some (oI 304 ed)) (h_3 : h (b + 3) = some (oI 304 co)) (h_4 : h (b + 4) = some (oI 304 no)) (hm : h mp = some (oI 304 mf)) (ht : h tr = some (oI 304 tf)) (n1 : b ≠ tr) (n2 : b + 2 ≠ tr) (n3 : mp ≠ tr) : Ct g yX0_writeOver (.code yX0_writeOver cX0_writeOver 4 none) 1 0 0 [vR b, vR mp, vR tr] h (Rt none (hput h tr (oI 304 (fmix (wov ed mf) tf 304)))) := by
  refine Ct.of (by decide) (Nat.le_of_ble_eq_true rfl) (fun x hg C F => ?_)
  subst hg
  show T x 0 [(0, vR b), (1, vR mp), (2, vR tr)] [] h 0 0
  refine st_iconst C dX0_writeOver_0 (by decide) ?_
  refine st_istore_n C 3 dX0_writeOver_1 rfl (by decide) rfl ?_
  show T x 2 [(0, vR b), (1, vR mp), (2, vR tr), (3, vI 0)] [] _ _ _
  have loop_2 : ∀ (n_2 : Nat) (i : Int) (h1 : HP), (0 ≤ i) → (i ≤ 304) → (h1 = hput h tr (oI 304 (fmix (wov ed mf) tf i))) → (304 - i).toNat < n_2 → T x 2 [(0, vR b), (1, vR mp), (2, vR tr), (3, vI i)] [] h1 0 0 := by
    intro n_2
    induction n_2 with
    | zero => intro i h1 g1 g2 hh hm_2; exact absurd hm_2 (Nat.not_lt_zero _)
    | succ n_2 ih_2 =>
      intro i h1 g1 g2 hh hm_2
      refine st_iload_n C 3 dX0_writeOver_2 rfl rfl ?_
      refine st_sipush C dX0_writeOver_3 (by decide) (by decide) ?_
      refine st_icmp_ge (tgt := 40) C dX0_writeOver_6 (by decide) (fun c_6 => ?_) (fun c_6 => ?_)
      · exact st_return C F dX0_writeOver_40 rfl (rt_n (by rw [hh, show i = 304 by omega])) (by omega) (by omega)
      · refine st_aload_n C 2 dX0_writeOver_9 rfl rfl ?_
        refine st_iload_n C 3 dX0_writeOver_10 rfl rfl ?_
        refine st_aload_n C 0 dX0_writeOver_11 rfl rfl ?_
        refine st_getf C dX0_writeOver_12 fl_X0_19 (by rw [hh]; exact hput_o (by omega) hb) rfl ?_
        refine st_iload_n C 3 dX0_writeOver_15 rfl rfl ?_
        refine st_iald C dX0_writeOver_16 (by rw [hh]; exact hput_o (by omega) h_2) (by omega) (by omega) ?_
        refine st_iconst C dX0_writeOver_17 (by decide) ?_
        refine st_icmp_ne (tgt := 27) C dX0_writeOver_18 (by decide) (fun c_18 => ?_) (fun c_18 => ?_)
        · refine st_aload_n C 0 dX0_writeOver_27 rfl rfl ?_
          refine st_getf C dX0_writeOver_28 fl_X0_19 (by rw [hh]; exact hput_o (by omega) hb) rfl ?_
          refine st_iload_n C 3 dX0_writeOver_31 rfl rfl ?_
          refine st_iald C dX0_writeOver_32 (by rw [hh]; exact hput_o (by omega) h_2) (by omega) (by omega) ?_
          refine st_iast C dX0_writeOver_33 (by rw [hh]; exact hput_s) (by omega) (by omega) ?_
          refine st_iinc C dX0_writeOver_34 rfl (by decide) rfl ⟨(by omega), (by omega)⟩ ?_
          show T x 37 [(0, vR b), (1, vR mp), (2, vR tr), (3, vI (i + 1))] [] _ _ _
          refine st_goto (tgt := 2) C dX0_writeOver_37 (by decide) ?_
          exact ih_2 (i + 1) (hput h1 tr (oI 304 (fput (fmix (wov ed mf) tf i) i (ed i)))) (by omega) (by omega) (by rw [hh, hput_hput, fmix_s g1 (by unfold wov; first | rw [if_pos (by assumption)] | rw [if_neg (by assumption)])]) (by omega)
        · refine st_aload_n C 1 dX0_writeOver_21 rfl rfl ?_
          refine st_iload_n C 3 dX0_writeOver_22 rfl rfl ?_
          refine st_iald C dX0_writeOver_23 (by rw [hh]; exact hput_o (by omega) hm) (by omega) (by omega) ?_
          refine st_goto (tgt := 33) C dX0_writeOver_24 (by decide) ?_
          refine st_iast C dX0_writeOver_33 (by rw [hh]; exact hput_s) (by omega) (by omega) ?_
          refine st_iinc C dX0_writeOver_34 rfl (by decide) rfl ⟨(by omega), (by omega)⟩ ?_
          show T x 37 [(0, vR b), (1, vR mp), (2, vR tr), (3, vI (i + 1))] [] _ _ _
          refine st_goto (tgt := 2) C dX0_writeOver_37 (by decide) ?_
          exact ih_2 (i + 1) (hput h1 tr (oI 304 (fput (fmix (wov ed mf) tf i) i (mf i)))) (by omega) (by omega) (by rw [hh, hput_hput, fmix_s g1 (by unfold wov; first | rw [if_pos (by assumption)] | rw [if_neg (by assumption)])]) (by omega)
  exact loop_2 _ 0 h (by omega) (by omega) (by rw [fmix_0]; exact (hput_self ht).symm) (Nat.lt_succ_self _)
set_option maxRecDepth 20000 in
set_option maxHeartbeats 4000000 in
theorem k_hasIdleEdit_f {g : Gx} {h : HP} {b : Nat} {op : Int} {bs ed co no : Int → Int} (hb : h b = some (oO 0 [vI op, vR (b + 1), vR (b + 2), vR (b + 3), vR (b + 4)])) (h_1 : h (b + 1) = some (oI 304 bs)) (h_2 : h (b + 2) = some (oI 304 ed)) (h_3 : h (b + 3) = some (oI 304 co)) (h_4 : h (b + 4) = some (oI 304 no)) (hP : ∀ j, 0 ≤ j → j < 304 → ed j ≠ -1 → ed j ≠ bs j) : Ct g yX0_hasIdleEdit (.code yX0_hasIdleEdit cX0_hasIdleEdit 2 (some .boolean)) 1 0 0 [vR b] h (Rt (some (vI 0)) h) := by
  refine Ct.of (by decide) (Nat.le_of_ble_eq_true rfl) (fun x hg C F => ?_)
  subst hg
  show T x 0 [(0, vR b)] [] h 0 0
  refine st_iconst C dX0_hasIdleEdit_0 (by decide) ?_
  refine st_istore_n C 1 dX0_hasIdleEdit_1 rfl (by decide) rfl ?_
  show T x 2 [(0, vR b), (1, vI 0)] [] _ _ _
  have loop_2 : ∀ (n_2 : Nat) (i : Int), (0 ≤ i) → (i ≤ 304) → (304 - i).toNat < n_2 → T x 2 [(0, vR b), (1, vI i)] [] h 0 0 := by
    intro n_2
    induction n_2 with
    | zero => intro i g1 g2 hm_2; exact absurd hm_2 (Nat.not_lt_zero _)
    | succ n_2 ih_2 =>
      intro i g1 g2 hm_2
      refine st_iload_n C 1 dX0_hasIdleEdit_2 rfl rfl ?_
      refine st_sipush C dX0_hasIdleEdit_3 (by decide) (by decide) ?_
      refine st_icmp_ge (tgt := 42) C dX0_hasIdleEdit_6 (by decide) (fun c_6 => ?_) (fun c_6 => ?_)
      · refine st_iconst C dX0_hasIdleEdit_42 (by decide) ?_
        exact st_zreturn C F dX0_hasIdleEdit_43 rfl (by omega) (rt_i (by first | rfl | exact absurd (by assumption) (hP i g1 (by omega) (by assumption))) rfl) (by omega) (by omega)
      · refine st_aload_n C 0 dX0_hasIdleEdit_9 rfl rfl ?_
        refine st_getf C dX0_hasIdleEdit_10 fl_X0_19 hb rfl ?_
        refine st_iload_n C 1 dX0_hasIdleEdit_13 rfl rfl ?_
        refine st_iald C dX0_hasIdleEdit_14 h_2 (by omega) (by omega) ?_
        refine st_iconst C dX0_hasIdleEdit_15 (by decide) ?_
        refine st_icmp_eq (tgt := 36) C dX0_hasIdleEdit_16 (by decide) (fun c_16 => ?_) (fun c_16 => ?_)
        · refine st_iinc C dX0_hasIdleEdit_36 rfl (by decide) rfl ⟨(by omega), (by omega)⟩ ?_
          show T x 39 [(0, vR b), (1, vI (i + 1))] [] _ _ _
          refine st_goto (tgt := 2) C dX0_hasIdleEdit_39 (by decide) ?_
          exact ih_2 (i + 1) (by omega) (by omega) (by omega)
        · refine st_aload_n C 0 dX0_hasIdleEdit_19 rfl rfl ?_
          refine st_getf C dX0_hasIdleEdit_20 fl_X0_19 hb rfl ?_
          refine st_iload_n C 1 dX0_hasIdleEdit_23 rfl rfl ?_
          refine st_iald C dX0_hasIdleEdit_24 h_2 (by omega) (by omega) ?_
          refine st_aload_n C 0 dX0_hasIdleEdit_25 rfl rfl ?_
          refine st_getf C dX0_hasIdleEdit_26 fl_X0_15 hb rfl ?_
          refine st_iload_n C 1 dX0_hasIdleEdit_29 rfl rfl ?_
          refine st_iald C dX0_hasIdleEdit_30 h_1 (by omega) (by omega) ?_
          refine st_icmp_ne (tgt := 36) C dX0_hasIdleEdit_31 (by decide) (fun c_31 => ?_) (fun c_31 => ?_)
          · refine st_iinc C dX0_hasIdleEdit_36 rfl (by decide) rfl ⟨(by omega), (by omega)⟩ ?_
            show T x 39 [(0, vR b), (1, vI (i + 1))] [] _ _ _
            refine st_goto (tgt := 2) C dX0_hasIdleEdit_39 (by decide) ?_
            exact ih_2 (i + 1) (by omega) (by omega) (by omega)
          · refine st_iconst C dX0_hasIdleEdit_34 (by decide) ?_
            exact st_zreturn C F dX0_hasIdleEdit_35 rfl (by omega) (rt_i (by first | rfl | exact absurd (by assumption) (hP i g1 (by omega) (by assumption))) rfl) (by omega) (by omega)
  exact loop_2 _ 0 (by omega) (by omega) (Nat.lt_succ_self _)
set_option maxRecDepth 20000 in
set_option maxHeartbeats 4000000 in
theorem k_begin {g : Gx} {h : HP} {b : Nat} {op : Int} {bs ed co no : Int → Int} {mp : Nat} {mf : Int → Int} (hb : h b = some (oO 0 [vI op, vR (b + 1), vR (b + 2), vR (b + 3), vR (b + 4)])) (h_1 : h (b + 1) = some (oI 304 bs)) (h_2 : h (b + 2) = some (oI 304 ed)) (h_3 : h (b + 3) = some (oI 304 co)) (h_4 : h (b + 4) = some (oI 304 no)) (hm : h mp = some (oI 304 mf)) (n1 : mp ≠ b) (n2 : mp ≠ b + 1) (n3 : mp ≠ b + 2) (n4 : mp ≠ b + 3) : Ct g yX0_begin (.code yX0_begin cX0_begin 2 none) 2 0 0 [vR b, vR mp] h (Rt none (hput (hput (hput (hput (hput h b (oO 0 [vI 1, vR (b + 1), vR (b + 2), vR (b + 3), vR (b + 4)])) (b + 1) (oI 304 (fcpy mf bs 0 0 304))) (b + 2) (oI 304 (fmix (fun _ => -1) ed 304))) (b + 3) (oI 304 (fmix (fun _ => -1) co 304))) (b + 4) (oI 304 (fmix (fun _ => -100000) no 304)))) := by
  refine Ct.of (by decide) (Nat.le_of_ble_eq_true rfl) (fun x hg C F => ?_)
  subst hg
  show T x 0 [(0, vR b), (1, vR mp)] [] h 0 0
  refine st_aload_n C 0 dX0_begin_0 rfl rfl ?_
  refine st_iconst C dX0_begin_1 (by decide) ?_
  refine st_putf C dX0_begin_2 fp_X0_9 (fun q => by cases q) hb (Nat.le_of_ble_eq_true rfl) (fit_bool (by omega)) ?_
  show T x 5 [(0, vR b), (1, vR mp)] [] (hput h b (oO 0 [vI 1, vR (b + 1), vR (b + 2), vR (b + 3), vR (b + 4)])) _ _
  refine st_aload_n C 1 dX0_begin_5 rfl rfl ?_
  refine st_iconst C dX0_begin_6 (by decide) ?_
  refine st_aload_n C 0 dX0_begin_7 rfl rfl ?_
  refine st_getf C dX0_begin_8 fl_X0_15 hput_s rfl ?_
  refine st_iconst C dX0_begin_11 (by decide) ?_
  refine st_sipush C dX0_begin_12 (by decide) (by decide) ?_
  refine st_copy C dX0_begin_15 cp_X0_28 cp_2 cp_3 cp_4 (hput_o (by omega) hm) (hput_o (by omega) h_1) (by omega) (by omega) (by omega) (by omega) (by omega) (by decide) (Nat.le_of_ble_eq_true rfl) ?_
  refine st_aload_n C 0 dX0_begin_18 rfl rfl ?_
  refine st_getf C dX0_begin_19 fl_X0_19 (hput_o (by omega) hput_s) rfl ?_
  refine st_iconst C dX0_begin_22 (by decide) ?_
  refine st_callS (st := []) C dX0_begin_23 [vR (b + 2), vI (-1)] (k_fill (n := 304) (f := ed) (v := (-1)) (hput_o (by omega) (hput_o (by omega) h_2)) (by decide)) w_X0_34 rfl (by decide) (by decide) (by omega) (by omega) (Nat.le_of_ble_eq_true rfl) (ko_rn ?_)
  show T x 26 [(0, vR b), (1, vR mp)] [] (hput (hput (hput h b (oO 0 [vI 1, vR (b + 1), vR (b + 2), vR (b + 3), vR (b + 4)])) (b + 1) (oI 304 (fcpy mf bs 0 0 304))) (b + 2) (oI 304 (fmix (fun _ => (-1)) ed 304))) _ _
  refine st_aload_n C 0 dX0_begin_26 rfl rfl ?_
  refine st_getf C dX0_begin_27 fl_X0_22 (hput_o (by omega) (hput_o (by omega) hput_s)) rfl ?_
  refine st_iconst C dX0_begin_30 (by decide) ?_
  refine st_callS (st := []) C dX0_begin_31 [vR (b + 3), vI (-1)] (k_fill (n := 304) (f := co) (v := (-1)) (hput_o (by omega) (hput_o (by omega) (hput_o (by omega) h_3))) (by decide)) w_X0_34 rfl (by decide) (by decide) (by omega) (by omega) (Nat.le_of_ble_eq_true rfl) (ko_rn ?_)
  show T x 34 [(0, vR b), (1, vR mp)] [] (hput (hput (hput (hput h b (oO 0 [vI 1, vR (b + 1), vR (b + 2), vR (b + 3), vR (b + 4)])) (b + 1) (oI 304 (fcpy mf bs 0 0 304))) (b + 2) (oI 304 (fmix (fun _ => (-1)) ed 304))) (b + 3) (oI 304 (fmix (fun _ => (-1)) co 304))) _ _
  refine st_aload_n C 0 dX0_begin_34 rfl rfl ?_
  refine st_getf C dX0_begin_35 fl_X0_25 (hput_o (by omega) (hput_o (by omega) (hput_o (by omega) hput_s))) rfl ?_
  refine st_ldc (a := (-100000)) C dX0_begin_38 (by decide) (by decide) cn_X0_40 ?_
  refine st_callS (st := []) C dX0_begin_40 [vR (b + 4), vI (-100000)] (k_fill (n := 304) (f := no) (v := (-100000)) (hput_o (by omega) (hput_o (by omega) (hput_o (by omega) (hput_o (by omega) h_4)))) (by decide)) w_X0_34 rfl (by decide) (by decide) (by omega) (by omega) (Nat.le_of_ble_eq_true rfl) (ko_rn ?_)
  show T x 43 [(0, vR b), (1, vR mp)] [] (hput (hput (hput (hput (hput h b (oO 0 [vI 1, vR (b + 1), vR (b + 2), vR (b + 3), vR (b + 4)])) (b + 1) (oI 304 (fcpy mf bs 0 0 304))) (b + 2) (oI 304 (fmix (fun _ => (-1)) ed 304))) (b + 3) (oI 304 (fmix (fun _ => (-1)) co 304))) (b + 4) (oI 304 (fmix (fun _ => (-100000)) no 304))) _ _
  exact st_return C F dX0_begin_43 rfl ⟨rfl, rfl⟩ (by omega) (by omega)
def stpF (bf af : Int → Int) : Int → Int := fun j => if bf j = af j then -1 else af j
set_option maxRecDepth 20000 in
set_option maxHeartbeats 4000000 in
theorem k_Step {g : Gx} {h : HP} {k p q : Nat} {bf af : Int → Int} (hk : h k = some (oO 6 [vN])) (hk1 : h (k + 1) = none) (hp : h p = some (oI 304 bf)) (hq : h q = some (oI 304 af)) (n1 : p ≠ k) (n2 : p ≠ k + 1) (n3 : q ≠ k) (n4 : q ≠ k + 1) : Ct g yX7_init (.code yX7_init cX7_init 4 none) 1 1 304 [vR k, vR p, vR q] h (Rt none (hput (hput h (k + 1) (oI 304 (fmix (stpF bf af) (fun _ => 0) 304))) k (oO 6 [vR (k + 1)]))) := by
  refine Ct.of (by decide) (Nat.le_of_ble_eq_true rfl) (fun x hg C F => ?_)
  subst hg
  show T x 0 [(0, vR k), (1, vR p), (2, vR q)] [] h 0 0
  refine st_aload_n C 0 dX7_init_0 rfl rfl ?_
  refine st_objInit C dX7_init_1 oi_X7_3 oi_2 oi_3 (by decide) (Nat.le_of_ble_eq_true rfl) ?_
  refine st_aload_n C 0 dX7_init_4 rfl rfl ?_
  refine st_sipush C dX7_init_5 (by decide) (by decide) ?_
  refine st_newI C 304 dX7_init_8 (k + 1) rfl (by decide) ac_I hk1 (by omega) (by omega) ?_
  show T x 10 [(0, vR k), (1, vR p), (2, vR q)] [vR (k + 1), vR k] (hput h (k + 1) (oI 304 (fun _ => 0))) (0 + 1) (0 + 304)
  refine st_putf C dX7_init_10 fp_X7_9 (fun _ => rfl) (hput_o (by omega) hk) (Nat.le_of_ble_eq_true rfl) fit_arrR ?_
  show T x 13 [(0, vR k), (1, vR p), (2, vR q)] [] (hput (hput h (k + 1) (oI 304 (fun _ => 0))) k (oO 6 [vR (k + 1)])) _ _
  refine st_iconst C dX7_init_13 (by decide) ?_
  refine st_istore_n C 3 dX7_init_14 rfl (by decide) rfl ?_
  show T x 15 [(0, vR k), (1, vR p), (2, vR q), (3, vI 0)] [] _ _ _
  have loop_15 : ∀ (n_15 : Nat) (i : Int) (h1 : HP), (0 ≤ i) → (i ≤ 304) → (h1 = hput (hput h (k + 1) (oI 304 (fmix (stpF bf af) (fun _ => 0) i))) k (oO 6 [vR (k + 1)])) → (304 - i).toNat < n_15 → T x 15 [(0, vR k), (1, vR p), (2, vR q), (3, vI i)] [] h1 (0 + 1) (0 + 304) := by
    intro n_15
    induction n_15 with
    | zero => intro i h1 g1 g2 hh hm_15; exact absurd hm_15 (Nat.not_lt_zero _)
    | succ n_15 ih_15 =>
      intro i h1 g1 g2 hh hm_15
      refine st_iload_n C 3 dX7_init_15 rfl rfl ?_
      refine st_sipush C dX7_init_16 (by decide) (by decide) ?_
      refine st_icmp_ge (tgt := 50) C dX7_init_19 (by decide) (fun c_19 => ?_) (fun c_19 => ?_)
      · exact st_return C F dX7_init_50 rfl (rt_n (by rw [hh, show i = 304 by omega])) (by omega) (by omega)
      · refine st_aload_n C 0 dX7_init_22 rfl rfl ?_
        refine st_getf C dX7_init_23 fl_X7_9 (by rw [hh]; exact hput_s) rfl ?_
        refine st_iload_n C 3 dX7_init_26 rfl rfl ?_
        refine st_aload_n C 1 dX7_init_27 rfl rfl ?_
        refine st_iload_n C 3 dX7_init_28 rfl rfl ?_
        refine st_iald C dX7_init_29 (by rw [hh]; exact hput_o (by omega) (hput_o (by omega) hp)) (by omega) (by omega) ?_
        refine st_aload_n C 2 dX7_init_30 rfl rfl ?_
        refine st_iload_n C 3 dX7_init_31 rfl rfl ?_
        refine st_iald C dX7_init_32 (by rw [hh]; exact hput_o (by omega) (hput_o (by omega) hq)) (by omega) (by omega) ?_
        refine st_icmp_ne (tgt := 40) C dX7_init_33 (by decide) (fun c_33 => ?_) (fun c_33 => ?_)
        · refine st_aload_n C 2 dX7_init_40 rfl rfl ?_
          refine st_iload_n C 3 dX7_init_41 rfl rfl ?_
          refine st_iald C dX7_init_42 (by rw [hh]; exact hput_o (by omega) (hput_o (by omega) hq)) (by omega) (by omega) ?_
          refine st_iast C dX7_init_43 (by rw [hh]; exact hput_o (by omega) hput_s) (by omega) (by omega) ?_
          refine st_iinc C dX7_init_44 rfl (by decide) rfl ⟨(by omega), (by omega)⟩ ?_
          show T x 47 [(0, vR k), (1, vR p), (2, vR q), (3, vI (i + 1))] [] _ _ _
          refine st_goto (tgt := 15) C dX7_init_47 (by decide) ?_
          exact ih_15 (i + 1) (hput h1 (k + 1) (oI 304 (fput (fmix (stpF bf af) (fun _ => 0) i) i (af i)))) (by omega) (by omega) (by rw [hh, hput_comm (by omega), hput_hput, fmix_s g1 (by unfold stpF; first | rw [if_pos (by assumption)] | rw [if_neg (by assumption)])]) (by omega)
        · refine st_iconst C dX7_init_36 (by decide) ?_
          refine st_goto (tgt := 43) C dX7_init_37 (by decide) ?_
          refine st_iast C dX7_init_43 (by rw [hh]; exact hput_o (by omega) hput_s) (by omega) (by omega) ?_
          refine st_iinc C dX7_init_44 rfl (by decide) rfl ⟨(by omega), (by omega)⟩ ?_
          show T x 47 [(0, vR k), (1, vR p), (2, vR q), (3, vI (i + 1))] [] _ _ _
          refine st_goto (tgt := 15) C dX7_init_47 (by decide) ?_
          exact ih_15 (i + 1) (hput h1 (k + 1) (oI 304 (fput (fmix (stpF bf af) (fun _ => 0) i) i (-1)))) (by omega) (by omega) (by rw [hh, hput_comm (by omega), hput_hput, fmix_s g1 (by unfold stpF; first | rw [if_pos (by assumption)] | rw [if_neg (by assumption)])]) (by omega)
  exact loop_15 _ 0 (hput (hput h (k + 1) (oI 304 (fun _ => 0))) k (oO 6 [vR (k + 1)])) (by omega) (by omega) (by rw [fmix_0]) (Nat.lt_succ_self _)
