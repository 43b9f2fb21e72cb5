set_option maxRecDepth 20000 in
set_option maxHeartbeats 4000000 in
theorem k_Device {g : Gx} {h : HP} {d9 : Nat} (hd9 : h d9 = some (oO 1 [vI 0, vI 0, vN, vN, vN])) (hf1 : h (d9 + 1) = none) (hf2 : h (d9 + 2) = none) (hf3 : h (d9 + 3) = none) : Ct g yX1_init (.code yX1_init cX1_init 1 none) 1 3 60 [vR d9] h (Rt none ((hput (hput (hput (hput (hput (hput (hput (hput h d9 (oO 1 [vI 0, vI 0, vN, vN, vN])) d9 (oO 1 [vI 0, vI 0, vN, vN, vN])) (d9 + 1) (oI 20 (fun _ => 0))) d9 (oO 1 [vI 0, vI 0, vR (d9 + 1), vN, vN])) (d9 + 2) (oI 20 (fun _ => 0))) d9 (oO 1 [vI 0, vI 0, vR (d9 + 1), vR (d9 + 2), vN])) (d9 + 3) (oI 20 (fun _ => 0))) d9 (oO 1 [vI 0, vI 0, vR (d9 + 1), vR (d9 + 2), vR (d9 + 3)])))) := by
  refine Ct.of (by decide) (Nat.le_of_ble_eq_true rfl) (fun x hg C F => ?_)
  subst hg
  show T x 0 [(0, vR d9)] [] h 0 0
  refine st_aload_n C 0 dX1_init_0 rfl rfl ?_
  refine st_objInit C dX1_init_1 oi_X1_3 oi_2 oi_3 (by decide) (Nat.le_of_ble_eq_true rfl) ?_
  refine st_aload_n C 0 dX1_init_4 rfl rfl ?_
  refine st_iconst C dX1_init_5 (by decide) ?_
  refine st_putf C dX1_init_6 fp_X1_9 (fun q => by cases q) hd9 (Nat.le_of_ble_eq_true rfl) fit_int ?_
  show T x 9 [(0, vR d9)] [] (hput h d9 (oO 1 [vI 0, vI 0, vN, vN, vN])) _ _
  refine st_aload_n C 0 dX1_init_9 rfl rfl ?_
  refine st_iconst C dX1_init_10 (by decide) ?_
  refine st_putf C dX1_init_11 fp_X1_15 (fun q => by cases q) hput_s (Nat.le_of_ble_eq_true rfl) fit_int ?_
  show T x 14 [(0, vR d9)] [] (hput (hput h d9 (oO 1 [vI 0, vI 0, vN, vN, vN])) d9 (oO 1 [vI 0, vI 0, vN, vN, vN])) _ _
  refine st_aload_n C 0 dX1_init_14 rfl rfl ?_
  refine st_bipush C dX1_init_15 (by decide) (by decide) ?_
  refine st_newI C 20 dX1_init_17 (d9 + 1) rfl (by decide) ac_I (hput_o (by omega) (hput_o (by omega) hf1)) (by omega) (by omega) ?_
  show T x 19 [(0, vR d9)] [vR (d9 + 1), vR d9] (hput (hput (hput h d9 (oO 1 [vI 0, vI 0, vN, vN, vN])) d9 (oO 1 [vI 0, vI 0, vN, vN, vN])) (d9 + 1) (oI 20 (fun _ => 0))) (0 + 1) (0 + 20)
  refine st_putf C dX1_init_19 fp_X1_18 (fun _ => rfl) (hput_o (by omega) hput_s) (Nat.le_of_ble_eq_true rfl) fit_arrR ?_
  show T x 22 [(0, vR d9)] [] (hput (hput (hput (hput h d9 (oO 1 [vI 0, vI 0, vN, vN, vN])) d9 (oO 1 [vI 0, vI 0, vN, vN, vN])) (d9 + 1) (oI 20 (fun _ => 0))) d9 (oO 1 [vI 0, vI 0, vR (d9 + 1), vN, vN])) _ _
  refine st_aload_n C 0 dX1_init_22 rfl rfl ?_
  refine st_bipush C dX1_init_23 (by decide) (by decide) ?_
  refine st_newI C 20 dX1_init_25 (d9 + 2) rfl (by decide) ac_I (hput_o (by omega) (hput_o (by omega) (hput_o (by omega) (hput_o (by omega) hf2)))) (by omega) (by omega) ?_
  show T x 27 [(0, vR d9)] [vR (d9 + 2), vR d9] (hput (hput (hput (hput (hput h d9 (oO 1 [vI 0, vI 0, vN, vN, vN])) d9 (oO 1 [vI 0, vI 0, vN, vN, vN])) (d9 + 1) (oI 20 (fun _ => 0))) d9 (oO 1 [vI 0, vI 0, vR (d9 + 1), vN, vN])) (d9 + 2) (oI 20 (fun _ => 0))) (0 + 1 + 1) (0 + 20 + 20)
  refine st_putf C dX1_init_27 fp_X1_22 (fun _ => rfl) (hput_o (by omega) hput_s) (Nat.le_of_ble_eq_true rfl) fit_arrR ?_
  show T x 30 [(0, vR d9)] [] (hput (hput (hput (hput (hput (hput h d9 (oO 1 [vI 0, vI 0, vN, vN, vN])) d9 (oO 1 [vI 0, vI 0, vN, vN, vN])) (d9 + 1) (oI 20 (fun _ => 0))) d9 (oO 1 [vI 0, vI 0, vR (d9 + 1), vN, vN])) (d9 + 2) (oI 20 (fun _ => 0))) d9 (oO 1 [vI 0, vI 0, vR (d9 + 1), vR (d9 + 2), vN])) _ _
  refine st_aload_n C 0 dX1_init_30 rfl rfl ?_
  refine st_bipush C dX1_init_31 (by decide) (by decide) ?_
  refine st_newI C 20 dX1_init_33 (d9 + 3) rfl (by decide) ac_I (hput_o (by omega) (hput_o (by omega) (hput_o (by omega) (hput_o (by omega) (hput_o (by omega) (hput_o (by omega) hf3)))))) (by omega) (by omega) ?_
  show T x 35 [(0, vR d9)] [vR (d9 + 3), vR d9] (hput (hput (hput (hput (hput (hput (hput h d9 (oO 1 [vI 0, vI 0, vN, vN, vN])) d9 (oO 1 [vI 0, vI 0, vN, vN, vN])) (d9 + 1) (oI 20 (fun _ => 0))) d9 (oO 1 [vI 0, vI 0, vR (d9 + 1), vN, vN])) (d9 + 2) (oI 20 (fun _ => 0))) d9 (oO 1 [vI 0, vI 0, vR (d9 + 1), vR (d9 + 2), vN])) (d9 + 3) (oI 20 (fun _ => 0))) (0 + 1 + 1 + 1) (0 + 20 + 20 + 20)
  refine st_putf C dX1_init_35 fp_X1_25 (fun _ => rfl) (hput_o (by omega) hput_s) (Nat.le_of_ble_eq_true rfl) fit_arrR ?_
  show T x 38 [(0, vR d9)] [] (hput (hput (hput (hput (hput (hput (hput (hput h d9 (oO 1 [vI 0, vI 0, vN, vN, vN])) d9 (oO 1 [vI 0, vI 0, vN, vN, vN])) (d9 + 1) (oI 20 (fun _ => 0))) d9 (oO 1 [vI 0, vI 0, vR (d9 + 1), vN, vN])) (d9 + 2) (oI 20 (fun _ => 0))) d9 (oO 1 [vI 0, vI 0, vR (d9 + 1), vR (d9 + 2), vN])) (d9 + 3) (oI 20 (fun _ => 0))) d9 (oO 1 [vI 0, vI 0, vR (d9 + 1), vR (d9 + 2), vR (d9 + 3)])) _ _
  exact st_return C F dX1_init_38 rfl ⟨rfl, rfl⟩ (by omega) (by omega)
set_option maxRecDepth 20000 in
set_option maxHeartbeats 4000000 in
theorem k_dFull_t {g : Gx} {h : HP} {d9 : Nat} {ct ld : Int} (hd9 : h d9 = some (oO 1 [vI ct, vI ld, vR (d9 + 1), vR (d9 + 2), vR (d9 + 3)])) (hP : 20 ≤ ct) : Ct g yX1_isFull (.code yX1_isFull cX1_isFull 1 (some .boolean)) 1 0 0 [vR d9] h (Rt (some (vI 1)) h) := by
  refine Ct.of (by decide) (Nat.le_of_ble_eq_true rfl) (fun x hg C F => ?_)
  subst hg
  show T x 0 [(0, vR d9)] [] h 0 0
  refine st_aload_n C 0 dX1_isFull_0 rfl rfl ?_
  refine st_getf C dX1_isFull_1 fl_X1_9 hd9 rfl ?_
  refine st_bipush C dX1_isFull_4 (by decide) (by decide) ?_
  refine st_icmp_lt (tgt := 13) C dX1_isFull_6 (by decide) (fun c_6 => by omega) (fun c_6 => ?_)
  refine st_iconst C dX1_isFull_9 (by decide) ?_
  refine st_goto (tgt := 14) C dX1_isFull_10 (by decide) ?_
  exact st_zreturn C F dX1_isFull_14 rfl (by omega) ⟨rfl, rfl⟩ (by omega) (by omega)
set_option maxRecDepth 20000 in
set_option maxHeartbeats 4000000 in
theorem k_dFull_f {g : Gx} {h : HP} {d9 : Nat} {ct ld : Int} (hd9 : h d9 = some (oO 1 [vI ct, vI ld, vR (d9 + 1), vR (d9 + 2), vR (d9 + 3)])) (hP : ct ≤ 19) : Ct g yX1_isFull (.code yX1_isFull cX1_isFull 1 (some .boolean)) 1 0 0 [vR d9] h (Rt (some (vI 0)) h) := by
  refine Ct.of (by decide) (Nat.le_of_ble_eq_true rfl) (fun x hg C F => ?_)
  subst hg
  show T x 0 [(0, vR d9)] [] h 0 0
  refine st_aload_n C 0 dX1_isFull_0 rfl rfl ?_
  refine st_getf C dX1_isFull_1 fl_X1_9 hd9 rfl ?_
  refine st_bipush C dX1_isFull_4 (by decide) (by decide) ?_
  refine st_icmp_lt (tgt := 13) C dX1_isFull_6 (by decide) (fun c_6 => ?_) (fun c_6 => by omega)
  refine st_iconst C dX1_isFull_13 (by decide) ?_
  exact st_zreturn C F dX1_isFull_14 rfl (by omega) ⟨rfl, rfl⟩ (by omega) (by omega)
/-- where a note of time t goes, the first n notes being behind it or not -/
def insP (tf : Int → Int) (t : Int) : Nat → Int
  | 0 => 0
  | n + 1 => if t < tf (n : Int) then insP tf t n else (n : Int) + 1
theorem insP_t {tf : Int → Int} {t i c : Int} (h : 0 < i) (hc : insP tf t c.toNat = insP tf t i.toNat) (q : t < tf (i - 1)) : insP tf t c.toNat = insP tf t (i - 1).toNat := by
  rw [hc, show i.toNat = (i - 1).toNat + 1 by omega]
  show (if t < tf (((i - 1).toNat : Nat) : Int) then _ else _) = _
  rw [if_pos (by rw [show (((i - 1).toNat : Nat) : Int) = i - 1 by omega]; exact q)]
theorem insP_f {tf : Int → Int} {t i c : Int} (h : 0 < i) (hc : insP tf t c.toNat = insP tf t i.toNat) (q : tf (i - 1) ≤ t) : i = insP tf t c.toNat := by
  rw [hc, show i.toNat = (i - 1).toNat + 1 by omega]
  show i = (if t < tf (((i - 1).toNat : Nat) : Int) then _ else _)
  rw [if_neg (by rw [show (((i - 1).toNat : Nat) : Int) = i - 1 by omega]; omega)]
  omega
theorem insP_z {tf : Int → Int} {t i c : Int} (h : i = 0) (hc : insP tf t c.toNat = insP tf t i.toNat) : i = insP tf t c.toNat := by
  rw [hc, h]; rfl
/-- the first i as they were, from i on all moved by one, up to c -/
def shf (f : Int → Int) (i c : Int) : Int → Int := fun k => if i < k ∧ k ≤ c then f (k - 1) else f k
theorem shf_0 {f : Int → Int} {c : Int} : f = shf f c c := by
  funext k; unfold shf; rw [if_neg (by omega)]
theorem shf_s {f : Int → Int} {i c : Int} (h : 0 < i) (hc : i ≤ c) : fput (shf f i c) i (shf f i c (i - 1)) = shf f (i - 1) c := by
  funext k
  unfold fput shf
  by_cases q : k = i
  · subst q
    rw [if_pos rfl, if_neg (by omega), if_pos (by omega)]
  · rw [if_neg q]
    by_cases q2 : i < k ∧ k ≤ c
    · rw [if_pos q2, if_pos (by omega)]
    · rw [if_neg q2, if_neg (by omega)]
/-- a row with a note's part put in -/
def insF (f : Int → Int) (j c v : Int) : Int → Int := fput (shf f j c) j v
def dv3 (h : HP) (d9 : Nat) (t s a : Int → Int) : HP := hput (hput (hput h (d9 + 1) (oI 20 t)) (d9 + 2) (oI 20 s)) (d9 + 3) (oI 20 a)
theorem dv3_c {h : HP} {d9 : Nat} {t s a t' s' a' : Int → Int} : hput (hput (hput (dv3 h d9 t s a) (d9 + 1) (oI 20 t')) (d9 + 2) (oI 20 s')) (d9 + 3) (oI 20 a') = dv3 h d9 t' s' a' := by
  unfold dv3
  funext j
  unfold hput
  by_cases q3 : j = d9 + 3
  · simp only [if_pos q3]
  by_cases q2 : j = d9 + 2
  · simp only [if_neg q3, if_pos q2]
  by_cases q1 : j = d9 + 1
  · simp only [if_neg q3, if_neg q2, if_pos q1]
  simp only [if_neg q3, if_neg q2, if_neg q1]
theorem dv3_0 {h : HP} {d9 : Nat} {t s a : Int → Int} (h_1 : h (d9 + 1) = some (oI 20 t)) (h_2 : h (d9 + 2) = some (oI 20 s)) (h_3 : h (d9 + 3) = some (oI 20 a)) : h = dv3 h d9 t s a := by
  unfold dv3
  rw [hput_self h_1, hput_self h_2, hput_self h_3]
theorem dv3_1 {h : HP} {d9 : Nat} {t s a : Int → Int} : dv3 h d9 t s a (d9 + 1) = some (oI 20 t) := hput_o (by omega) (hput_o (by omega) hput_s)
theorem dv3_2 {h : HP} {d9 : Nat} {t s a : Int → Int} : dv3 h d9 t s a (d9 + 2) = some (oI 20 s) := hput_o (by omega) hput_s
theorem dv3_3 {h : HP} {d9 : Nat} {t s a : Int → Int} : dv3 h d9 t s a (d9 + 3) = some (oI 20 a) := hput_s
theorem dv3_d {h : HP} {d9 j : Nat} {t s a : Int → Int} {e : Option PE} (n1 : j ≠ d9 + 1) (n2 : j ≠ d9 + 2) (n3 : j ≠ d9 + 3) (he : h j = e) : dv3 h d9 t s a j = e := hput_o n3 (hput_o n2 (hput_o n1 he))
theorem shf_at {f : Int → Int} {i c : Int} {k : Int} (h : k < i) : shf f i c k = f k := by
  unfold shf; rw [if_neg (by omega)]
set_option maxRecDepth 20000 in
set_option maxHeartbeats 4000000 in
theorem k_dAdd {g : Gx} {h : HP} {d9 : Nat} {ct ld : Int} {tf sf af : Int → Int} {t9 s9 a9 : Int} (hd9 : h d9 = some (oO 1 [vI ct, vI ld, vR (d9 + 1), vR (d9 + 2), vR (d9 + 3)])) (h_1 : h (d9 + 1) = some (oI 20 tf)) (h_2 : h (d9 + 2) = some (oI 20 sf)) (h_3 : h (d9 + 3) = some (oI 20 af)) (hc : 0 ≤ ct ∧ ct ≤ 19) : Ct g yX1_add (.code yX1_add cX1_add 5 none) 2 0 0 [vR d9, vI t9, vI s9, vI a9] h (Rt none (hput (dv3 h d9 (insF tf (insP tf t9 ct.toNat) ct t9) (insF sf (insP tf t9 ct.toNat) ct s9) (insF af (insP tf t9 ct.toNat) ct a9)) d9 (oO 1 [vI (ct + 1), vI ld, vR (d9 + 1), vR (d9 + 2), vR (d9 + 3)]))) := by
  refine Ct.of (by decide) (Nat.le_of_ble_eq_true rfl) (fun x hg C F => ?_)
  subst hg
  show T x 0 [(0, vR d9), (1, vI t9), (2, vI s9), (3, vI a9)] [] h 0 0
  refine st_aload_n C 0 dX1_add_0 rfl rfl ?_
  refine st_getf C dX1_add_1 fl_X1_9 hd9 rfl ?_
  refine st_if_lt (tgt := 14) C dX1_add_4 (by decide) (fun c_4 => by omega) (fun c_4 => ?_)
  refine st_aload_n C 0 dX1_add_7 rfl rfl ?_
  have b_8 : ¬ (20 ≤ ct) := by omega
  refine st_callV (st := []) C dX1_add_8 [] (k_dFull_f (ct := ct) hd9 (by omega)) hd9 w_X1_28 rfl (by decide) (by decide) (by omega) (by omega) (Nat.le_of_ble_eq_true rfl) (ko_rt ?_)
  show T x 11 [(0, vR d9), (1, vI t9), (2, vI s9), (3, vI a9)] [vI 0] _ _ _
  refine st_if_eq (tgt := 15) C dX1_add_11 (by decide) (fun c_11 => ?_) (fun c_11 => by omega)
  refine st_aload_n C 0 dX1_add_15 rfl rfl ?_
  refine st_getf C dX1_add_16 fl_X1_9 hd9 rfl ?_
  refine st_istore C dX1_add_19 (by decide) rfl ?_
  show T x 21 [(0, vR d9), (1, vI t9), (2, vI s9), (3, vI a9), (4, vI ct)] [] _ _ _
  have loop_21 : ∀ (n_21 : Nat) (i : Int) (h1 : HP), (0 ≤ i) → (i ≤ ct) → (insP tf t9 ct.toNat = insP tf t9 i.toNat) → (h1 = dv3 h d9 (shf tf i ct) (shf sf i ct) (shf af i ct)) → i.toNat < n_21 → T x 21 [(0, vR d9), (1, vI t9), (2, vI s9), (3, vI a9), (4, vI i)] [] h1 0 0 := by
    intro n_21
    induction n_21 with
    | zero => intro i h1 g1 g2 g3 hh hm_21; exact absurd hm_21 (Nat.not_lt_zero _)
    | succ n_21 ih_21 =>
      intro i h1 g1 g2 g3 hh hm_21
      refine st_iload C dX1_add_21 rfl ?_
      refine st_if_le (tgt := 93) C dX1_add_23 (by decide) (fun c_23 => ?_) (fun c_23 => ?_)
      · refine st_aload_n C 0 dX1_add_93 rfl rfl ?_
        refine st_getf C dX1_add_94 fl_X1_18 (by rw [hh]; exact dv3_d (by omega) (by omega) (by omega) hd9) rfl ?_
        refine st_iload C dX1_add_97 rfl ?_
        refine st_iload_n C 1 dX1_add_99 rfl rfl ?_
        refine st_iast C dX1_add_100 (by rw [hh]; exact dv3_1) (by omega) (by omega) ?_
        refine st_aload_n C 0 dX1_add_101 rfl rfl ?_
        refine st_getf C dX1_add_102 fl_X1_22 (hput_o (by omega) (by rw [hh]; exact dv3_d (by omega) (by omega) (by omega) hd9)) rfl ?_
        refine st_iload C dX1_add_105 rfl ?_
        refine st_iload_n C 2 dX1_add_107 rfl rfl ?_
        refine st_iast C dX1_add_108 (hput_o (by omega) (by rw [hh]; exact dv3_2)) (by omega) (by omega) ?_
        refine st_aload_n C 0 dX1_add_109 rfl rfl ?_
        refine st_getf C dX1_add_110 fl_X1_25 (hput_o (by omega) (hput_o (by omega) (by rw [hh]; exact dv3_d (by omega) (by omega) (by omega) hd9))) rfl ?_
        refine st_iload C dX1_add_113 rfl ?_
        refine st_iload_n C 3 dX1_add_115 rfl rfl ?_
        refine st_iast C dX1_add_116 (hput_o (by omega) (hput_o (by omega) (by rw [hh]; exact dv3_3))) (by omega) (by omega) ?_
        refine st_aload_n C 0 dX1_add_117 rfl rfl ?_
        refine st_dup C dX1_add_118 rfl ?_
        refine st_getf C dX1_add_119 fl_X1_9 (hput_o (by omega) (hput_o (by omega) (hput_o (by omega) (by rw [hh]; exact dv3_d (by omega) (by omega) (by omega) hd9)))) rfl ?_
        refine st_iconst C dX1_add_122 (by decide) ?_
        refine st_iadd C dX1_add_123 ⟨(by omega), (by omega)⟩ ?_
        refine st_putf C dX1_add_124 fp_X1_9 (fun q => by cases q) (hput_o (by omega) (hput_o (by omega) (hput_o (by omega) (by rw [hh]; exact dv3_d (by omega) (by omega) (by omega) hd9)))) (Nat.le_of_ble_eq_true rfl) fit_int ?_
        show T x 127 [(0, vR d9), (1, vI t9), (2, vI s9), (3, vI a9), (4, vI i)] [] (hput (hput (hput (hput h1 (d9 + 1) (oI 20 (fput (shf tf i ct) i t9))) (d9 + 2) (oI 20 (fput (shf sf i ct) i s9))) (d9 + 3) (oI 20 (fput (shf af i ct) i a9))) d9 (oO 1 [vI (ct + 1), vI ld, vR (d9 + 1), vR (d9 + 2), vR (d9 + 3)])) _ _
        exact st_return C F dX1_add_127 rfl (rt_n (by have e9 : i = insP tf t9 ct.toNat := (by first | exact insP_z (by omega) g3 | exact insP_f (by omega) g3 (by rw [shf_at (by omega)] at *; omega)); rw [hh, dv3_c, ← e9]; rfl)) (by omega) (by omega)
      · refine st_aload_n C 0 dX1_add_26 rfl rfl ?_
        refine st_getf C dX1_add_27 fl_X1_18 (by rw [hh]; exact dv3_d (by omega) (by omega) (by omega) hd9) rfl ?_
        refine st_iload C dX1_add_30 rfl ?_
        refine st_iconst C dX1_add_32 (by decide) ?_
        refine st_isub C dX1_add_33 ⟨(by omega), (by omega)⟩ ?_
        refine st_iald C dX1_add_34 (by rw [hh]; exact dv3_1) (by omega) (by omega) ?_
        refine st_iload_n C 1 dX1_add_35 rfl rfl ?_
        refine st_icmp_le (tgt := 93) C dX1_add_36 (by decide) (fun c_36 => ?_) (fun c_36 => ?_)
        · refine st_aload_n C 0 dX1_add_93 rfl rfl ?_
          refine st_getf C dX1_add_94 fl_X1_18 (by rw [hh]; exact dv3_d (by omega) (by omega) (by omega) hd9) rfl ?_
          refine st_iload C dX1_add_97 rfl ?_
          refine st_iload_n C 1 dX1_add_99 rfl rfl ?_
          refine st_iast C dX1_add_100 (by rw [hh]; exact dv3_1) (by omega) (by omega) ?_
          refine st_aload_n C 0 dX1_add_101 rfl rfl ?_
          refine st_getf C dX1_add_102 fl_X1_22 (hput_o (by omega) (by rw [hh]; exact dv3_d (by omega) (by omega) (by omega) hd9)) rfl ?_
          refine st_iload C dX1_add_105 rfl ?_
          refine st_iload_n C 2 dX1_add_107 rfl rfl ?_
          refine st_iast C dX1_add_108 (hput_o (by omega) (by rw [hh]; exact dv3_2)) (by omega) (by omega) ?_
          refine st_aload_n C 0 dX1_add_109 rfl rfl ?_
          refine st_getf C dX1_add_110 fl_X1_25 (hput_o (by omega) (hput_o (by omega) (by rw [hh]; exact dv3_d (by omega) (by omega) (by omega) hd9))) rfl ?_
          refine st_iload C dX1_add_113 rfl ?_
          refine st_iload_n C 3 dX1_add_115 rfl rfl ?_
          refine st_iast C dX1_add_116 (hput_o (by omega) (hput_o (by omega) (by rw [hh]; exact dv3_3))) (by omega) (by omega) ?_
          refine st_aload_n C 0 dX1_add_117 rfl rfl ?_
          refine st_dup C dX1_add_118 rfl ?_
          refine st_getf C dX1_add_119 fl_X1_9 (hput_o (by omega) (hput_o (by omega) (hput_o (by omega) (by rw [hh]; exact dv3_d (by omega) (by omega) (by omega) hd9)))) rfl ?_
          refine st_iconst C dX1_add_122 (by decide) ?_
          refine st_iadd C dX1_add_123 ⟨(by omega), (by omega)⟩ ?_
          refine st_putf C dX1_add_124 fp_X1_9 (fun q => by cases q) (hput_o (by omega) (hput_o (by omega) (hput_o (by omega) (by rw [hh]; exact dv3_d (by omega) (by omega) (by omega) hd9)))) (Nat.le_of_ble_eq_true rfl) fit_int ?_
          show T x 127 [(0, vR d9), (1, vI t9), (2, vI s9), (3, vI a9), (4, vI i)] [] (hput (hput (hput (hput h1 (d9 + 1) (oI 20 (fput (shf tf i ct) i t9))) (d9 + 2) (oI 20 (fput (shf sf i ct) i s9))) (d9 + 3) (oI 20 (fput (shf af i ct) i a9))) d9 (oO 1 [vI (ct + 1), vI ld, vR (d9 + 1), vR (d9 + 2), vR (d9 + 3)])) _ _
          exact st_return C F dX1_add_127 rfl (rt_n (by have e9 : i = insP tf t9 ct.toNat := (by first | exact insP_z (by omega) g3 | exact insP_f (by omega) g3 (by rw [shf_at (by omega)] at *; omega)); rw [hh, dv3_c, ← e9]; rfl)) (by omega) (by omega)
        · refine st_aload_n C 0 dX1_add_39 rfl rfl ?_
          refine st_getf C dX1_add_40 fl_X1_18 (by rw [hh]; exact dv3_d (by omega) (by omega) (by omega) hd9) rfl ?_
          refine st_iload C dX1_add_43 rfl ?_
          refine st_aload_n C 0 dX1_add_45 rfl rfl ?_
          refine st_getf C dX1_add_46 fl_X1_18 (by rw [hh]; exact dv3_d (by omega) (by omega) (by omega) hd9) rfl ?_
          refine st_iload C dX1_add_49 rfl ?_
          refine st_iconst C dX1_add_51 (by decide) ?_
          refine st_isub C dX1_add_52 ⟨(by omega), (by omega)⟩ ?_
          refine st_iald C dX1_add_53 (by rw [hh]; exact dv3_1) (by omega) (by omega) ?_
          refine st_iast C dX1_add_54 (by rw [hh]; exact dv3_1) (by omega) (by omega) ?_
          refine st_aload_n C 0 dX1_add_55 rfl rfl ?_
          refine st_getf C dX1_add_56 fl_X1_22 (hput_o (by omega) (by rw [hh]; exact dv3_d (by omega) (by omega) (by omega) hd9)) rfl ?_
          refine st_iload C dX1_add_59 rfl ?_
          refine st_aload_n C 0 dX1_add_61 rfl rfl ?_
          refine st_getf C dX1_add_62 fl_X1_22 (hput_o (by omega) (by rw [hh]; exact dv3_d (by omega) (by omega) (by omega) hd9)) rfl ?_
          refine st_iload C dX1_add_65 rfl ?_
          refine st_iconst C dX1_add_67 (by decide) ?_
          refine st_isub C dX1_add_68 ⟨(by omega), (by omega)⟩ ?_
          refine st_iald C dX1_add_69 (hput_o (by omega) (by rw [hh]; exact dv3_2)) (by omega) (by omega) ?_
          refine st_iast C dX1_add_70 (hput_o (by omega) (by rw [hh]; exact dv3_2)) (by omega) (by omega) ?_
          refine st_aload_n C 0 dX1_add_71 rfl rfl ?_
          refine st_getf C dX1_add_72 fl_X1_25 (hput_o (by omega) (hput_o (by omega) (by rw [hh]; exact dv3_d (by omega) (by omega) (by omega) hd9))) rfl ?_
          refine st_iload C dX1_add_75 rfl ?_
          refine st_aload_n C 0 dX1_add_77 rfl rfl ?_
          refine st_getf C dX1_add_78 fl_X1_25 (hput_o (by omega) (hput_o (by omega) (by rw [hh]; exact dv3_d (by omega) (by omega) (by omega) hd9))) rfl ?_
          refine st_iload C dX1_add_81 rfl ?_
          refine st_iconst C dX1_add_83 (by decide) ?_
          refine st_isub C dX1_add_84 ⟨(by omega), (by omega)⟩ ?_
          refine st_iald C dX1_add_85 (hput_o (by omega) (hput_o (by omega) (by rw [hh]; exact dv3_3))) (by omega) (by omega) ?_
          refine st_iast C dX1_add_86 (hput_o (by omega) (hput_o (by omega) (by rw [hh]; exact dv3_3))) (by omega) (by omega) ?_
          refine st_iinc C dX1_add_87 rfl (by decide) rfl ⟨(by omega), (by omega)⟩ ?_
          show T x 90 [(0, vR d9), (1, vI t9), (2, vI s9), (3, vI a9), (4, vI (i + (-1)))] [] _ _ _
          refine st_goto (tgt := 21) C dX1_add_90 (by decide) ?_
          exact ih_21 (i + (-1)) (hput (hput (hput h1 (d9 + 1) (oI 20 (fput (shf tf i ct) i ((shf tf i ct) (i - 1))))) (d9 + 2) (oI 20 (fput (shf sf i ct) i ((shf sf i ct) (i - 1))))) (d9 + 3) (oI 20 (fput (shf af i ct) i ((shf af i ct) (i - 1))))) (by omega) (by omega) (insP_t (by omega) g3 (by rw [shf_at (by omega)] at *; omega)) (by rw [hh, dv3_c, shf_s (by omega) g2, shf_s (by omega) g2, shf_s (by omega) g2]; rfl) (by omega)
  exact loop_21 _ ct h (by omega) (by omega) (rfl) (by rw [← shf_0, ← shf_0, ← shf_0]; exact dv3_0 h_1 h_2 h_3) (Nat.lt_succ_self _)
def brS (tf sf af bs ed co no : Int → Int) (ld : Int) : Nat → (Int → Int) × (Int → Int) × (Int → Int) × Int
  | 0 => (ed, co, no, 0)
  | n + 1 =>
    let q := brS tf sf af bs ed co no ld n
    if q.2.2.1 (sf (n : Int)) ≤ tf (n : Int) - ld then (edF q.1 bs (sf (n : Int)) (af (n : Int)), coF q.2.1 bs (sf (n : Int)) (af (n : Int)), fput q.2.2.1 (sf (n : Int)) (tf (n : Int) - ld), q.2.2.2 + 1) else q
theorem brS_s {tf sf af bs ed co no : Int → Int} {ld i : Int} (h : 0 ≤ i) : brS tf sf af bs ed co no ld (i + 1).toNat = if (brS tf sf af bs ed co no ld i.toNat).2.2.1 (sf i) ≤ tf i - ld then (edF (brS tf sf af bs ed co no ld i.toNat).1 bs (sf i) (af i), coF (brS tf sf af bs ed co no ld i.toNat).2.1 bs (sf i) (af i), fput (brS tf sf af bs ed co no ld i.toNat).2.2.1 (sf i) (tf i - ld), (brS tf sf af bs ed co no ld i.toNat).2.2.2 + 1) else brS tf sf af bs ed co no ld i.toNat := by
  rw [toNat_s h]
  show (if (brS tf sf af bs ed co no ld i.toNat).2.2.1 (sf (i.toNat : Int)) ≤ tf (i.toNat : Int) - ld then (edF (brS tf sf af bs ed co no ld i.toNat).1 bs (sf (i.toNat : Int)) (af (i.toNat : Int)), coF (brS tf sf af bs ed co no ld i.toNat).2.1 bs (sf (i.toNat : Int)) (af (i.toNat : Int)), fput (brS tf sf af bs ed co no ld i.toNat).2.2.1 (sf (i.toNat : Int)) (tf (i.toNat : Int) - ld), (brS tf sf af bs ed co no ld i.toNat).2.2.2 + 1) else brS tf sf af bs ed co no ld i.toNat) = _
  rw [Int.toNat_of_nonneg h]
def br3 (h : HP) (b : Nat) (q : (Int → Int) × (Int → Int) × (Int → Int) × Int) : HP := hput (hput (hput h (b + 4) (oI 304 q.2.2.1)) (b + 2) (oI 304 q.1)) (b + 3) (oI 304 q.2.1)
theorem br3_c {h : HP} {b : Nat} {q : (Int → Int) × (Int → Int) × (Int → Int) × Int} {e c n : Int → Int} {m : Int} : put2 (hput (br3 h b q) (b + 4) (oI 304 n)) b e c = br3 h b (e, c, n, m) := by
  unfold br3 put2
  funext j
  unfold hput
  by_cases q3 : j = b + 3
  · simp only [if_pos q3]
  by_cases q2 : j = b + 2
  · simp only [if_neg q3, if_pos q2]
  by_cases q1 : j = b + 4
  · simp only [if_neg q3, if_neg q2, if_pos q1]
  simp only [if_neg q3, if_neg q2, if_neg q1]
theorem br3_0 {h : HP} {b : Nat} {ed co no : Int → Int} {m : Int} (h_2 : h (b + 2) = some (oI 304 ed)) (h_3 : h (b + 3) = some (oI 304 co)) (h_4 : h (b + 4) = some (oI 304 no)) : h = br3 h b (ed, co, no, m) := by
  unfold br3
  rw [hput_self h_4, hput_self h_2, hput_self h_3]
theorem br3_2 {h : HP} {b : Nat} {q : (Int → Int) × (Int → Int) × (Int → Int) × Int} : br3 h b q (b + 2) = some (oI 304 q.1) := hput_o (by omega) hput_s
theorem br3_3 {h : HP} {b : Nat} {q : (Int → Int) × (Int → Int) × (Int → Int) × Int} : br3 h b q (b + 3) = some (oI 304 q.2.1) := hput_s
theorem br3_4 {h : HP} {b : Nat} {q : (Int → Int) × (Int → Int) × (Int → Int) × Int} : br3 h b q (b + 4) = some (oI 304 q.2.2.1) := hput_o (by omega) (hput_o (by omega) hput_s)
theorem br3_d {h : HP} {b j : Nat} {q : (Int → Int) × (Int → Int) × (Int → Int) × Int} {e : Option PE} (n1 : j ≠ b + 2) (n2 : j ≠ b + 3) (n3 : j ≠ b + 4) (he : h j = e) : br3 h b q j = e := hput_o n2 (hput_o n1 (hput_o n3 he))
set_option maxRecDepth 20000 in
set_option maxHeartbeats 4000000 in
theorem k_bringTo {g : Gx} {h : HP} {d9 : Nat} {ct ld : Int} {tf sf af : Int → Int} {b : Nat} {op : Int} {bs ed co no : Int → Int} {l9 : Int} (hd9 : h d9 = some (oO 1 [vI ct, vI ld, vR (d9 + 1), vR (d9 + 2), vR (d9 + 3)])) (h_1 : h (d9 + 1) = some (oI 20 tf)) (h_2 : h (d9 + 2) = some (oI 20 sf)) (h_3 : h (d9 + 3) = some (oI 20 af)) (hb : h b = some (oO 0 [vI op, vR (b + 1), vR (b + 2), vR (b + 3), vR (b + 4)])) (hb1 : h (b + 1) = some (oI 304 bs)) (hb2 : h (b + 2) = some (oI 304 ed)) (hb3 : h (b + 3) = some (oI 304 co)) (hb4 : h (b + 4) = some (oI 304 no)) (hc : 0 ≤ ct ∧ ct ≤ 20) (hl9 : -10000 ≤ l9 ∧ l9 ≤ 10000) (htt : ∀ j, 0 ≤ j → j < ct → -10000 ≤ tf j ∧ tf j ≤ 10000) (hs : ∀ j, 0 ≤ j → j < ct → 0 ≤ sf j ∧ sf j ≤ 303) (nb : b + 4 < d9 ∨ d9 + 3 < b) : Ct g yX1_bringTo (.code yX1_bringTo cX1_bringTo 5 (some .int)) 4 0 0 [vR d9, vR b, vI l9] h (Rt (some (vI (brS tf sf af bs ed co no l9 ct.toNat).2.2.2)) (hput (br3 (hput h d9 (oO 1 [vI ct, vI l9, vR (d9 + 1), vR (d9 + 2), vR (d9 + 3)])) b (brS tf sf af bs ed co no l9 ct.toNat)) d9 (oO 1 [vI 0, vI l9, vR (d9 + 1), vR (d9 + 2), vR (d9 + 3)]))) := by
  refine Ct.of (by decide) (Nat.le_of_ble_eq_true rfl) (fun x hg C F => ?_)
  subst hg
  show T x 0 [(0, vR d9), (1, vR b), (2, vI l9)] [] h 0 0
  refine st_aload_n C 0 dX1_bringTo_0 rfl rfl ?_
  refine st_iload_n C 2 dX1_bringTo_1 rfl rfl ?_
  refine st_putf C dX1_bringTo_2 fp_X1_15 (fun q => by cases q) hd9 (Nat.le_of_ble_eq_true rfl) fit_int ?_
  show T x 5 [(0, vR d9), (1, vR b), (2, vI l9)] [] (hput h d9 (oO 1 [vI ct, vI l9, vR (d9 + 1), vR (d9 + 2), vR (d9 + 3)])) _ _
  refine st_iconst C dX1_bringTo_5 (by decide) ?_
  refine st_istore_n C 3 dX1_bringTo_6 rfl (by decide) rfl ?_
  show T x 7 [(0, vR d9), (1, vR b), (2, vI l9), (3, vI 0)] [] _ _ _
  refine st_iconst C dX1_bringTo_7 (by decide) ?_
  refine st_istore C dX1_bringTo_8 (by decide) rfl ?_
  show T x 10 [(0, vR d9), (1, vR b), (2, vI l9), (3, vI 0), (4, vI 0)] [] _ _ _
  have loop_10 : ∀ (n_10 : Nat) (c1 : Int) (i : Int) (h1 : HP), (0 ≤ i) → (i ≤ ct) → (0 ≤ c1 ∧ c1 ≤ i) → (c1 = (brS tf sf af bs ed co no l9 i.toNat).2.2.2) → (h1 = br3 (hput h d9 (oO 1 [vI ct, vI l9, vR (d9 + 1), vR (d9 + 2), vR (d9 + 3)])) b (brS tf sf af bs ed co no l9 i.toNat)) → (ct - i).toNat < n_10 → T x 10 [(0, vR d9), (1, vR b), (2, vI l9), (3, vI c1), (4, vI i)] [] h1 0 0 := by
    intro n_10
    induction n_10 with
    | zero => intro c1 i h1 g1 g2 g3 g4 hh hm_10; exact absurd hm_10 (Nat.not_lt_zero _)
    | succ n_10 ih_10 =>
      intro c1 i h1 g1 g2 g3 g4 hh hm_10
      have ht1 := htt i g1
      have hz : (brS tf sf af bs ed co no l9 (i + 1).toNat) = _ := brS_s g1
      refine st_iload C dX1_bringTo_10 rfl ?_
      refine st_aload_n C 0 dX1_bringTo_12 rfl rfl ?_
      refine st_getf C dX1_bringTo_13 fl_X1_9 (by rw [hh]; exact br3_d (by omega) (by omega) (by omega) hput_s) rfl ?_
      refine st_icmp_ge (tgt := 68) C dX1_bringTo_16 (by decide) (fun c_16 => ?_) (fun c_16 => ?_)
      · refine st_aload_n C 0 dX1_bringTo_68 rfl rfl ?_
        refine st_iconst C dX1_bringTo_69 (by decide) ?_
        refine st_putf C dX1_bringTo_70 fp_X1_9 (fun q => by cases q) (by rw [hh]; exact br3_d (by omega) (by omega) (by omega) hput_s) (Nat.le_of_ble_eq_true rfl) fit_int ?_
        show T x 73 [(0, vR d9), (1, vR b), (2, vI l9), (3, vI c1), (4, vI i)] [] (hput h1 d9 (oO 1 [vI 0, vI l9, vR (d9 + 1), vR (d9 + 2), vR (d9 + 3)])) _ _
        refine st_iload_n C 3 dX1_bringTo_73 rfl rfl ?_
        exact st_ireturn C F dX1_bringTo_74 rfl (by have e9 : i = ct := (by omega); subst e9; exact rt_i g4 (by rw [hh])) (by omega) (by omega)
      · refine st_iload C dX1_bringTo_19 rfl ?_
        refine st_bipush C dX1_bringTo_21 (by decide) (by decide) ?_
        refine st_icmp_ge (tgt := 68) C dX1_bringTo_23 (by decide) (fun c_23 => by omega) (fun c_23 => ?_)
        refine st_aload_n C 1 dX1_bringTo_26 rfl rfl ?_
        refine st_aload_n C 0 dX1_bringTo_27 rfl rfl ?_
        refine st_getf C dX1_bringTo_28 fl_X1_22 (by rw [hh]; exact br3_d (by omega) (by omega) (by omega) hput_s) rfl ?_
        refine st_iload C dX1_bringTo_31 rfl ?_
        refine st_iald C dX1_bringTo_33 (by rw [hh]; exact br3_d (by omega) (by omega) (by omega) (hput_o (by omega) h_2)) (by omega) (by omega) ?_
        refine st_aload_n C 0 dX1_bringTo_34 rfl rfl ?_
        refine st_getf C dX1_bringTo_35 fl_X1_25 (by rw [hh]; exact br3_d (by omega) (by omega) (by omega) hput_s) rfl ?_
        refine st_iload C dX1_bringTo_38 rfl ?_
        refine st_iald C dX1_bringTo_40 (by rw [hh]; exact br3_d (by omega) (by omega) (by omega) (hput_o (by omega) h_3)) (by omega) (by omega) ?_
        refine st_aload_n C 0 dX1_bringTo_41 rfl rfl ?_
        refine st_getf C dX1_bringTo_42 fl_X1_18 (by rw [hh]; exact br3_d (by omega) (by omega) (by omega) hput_s) rfl ?_
        refine st_iload C dX1_bringTo_45 rfl ?_
        refine st_iald C dX1_bringTo_47 (by rw [hh]; exact br3_d (by omega) (by omega) (by omega) (hput_o (by omega) h_1)) (by omega) (by omega) ?_
        refine st_aload_n C 0 dX1_bringTo_48 rfl rfl ?_
        refine st_getf C dX1_bringTo_49 fl_X1_15 (by rw [hh]; exact br3_d (by omega) (by omega) (by omega) hput_s) rfl ?_
        refine st_isub C dX1_bringTo_52 ⟨(by omega), (by omega)⟩ ?_
        by_cases b_53 : (brS tf sf af bs ed co no l9 i.toNat).2.2.1 (sf i) ≤ tf i - l9
        · refine st_callV (st := []) C dX1_bringTo_53 [vI (sf i), vI (af i), vI (tf i - l9)] (k_bring_t (b := b) (op := op) (bs := bs) (ed := (brS tf sf af bs ed co no l9 i.toNat).1) (co := (brS tf sf af bs ed co no l9 i.toNat).2.1) (no := (brS tf sf af bs ed co no l9 i.toNat).2.2.1) (s9 := sf i) (a9 := af i) (t9 := tf i - l9) (by rw [hh]; exact br3_d (by omega) (by omega) (by omega) (hput_o (by omega) hb)) (by rw [hh]; exact br3_d (by omega) (by omega) (by omega) (hput_o (by omega) hb1)) (by rw [hh]; exact br3_2) (by rw [hh]; exact br3_3) (by rw [hh]; exact br3_4) (by exact hs i g1 (by omega)) b_53) (by rw [hh]; exact br3_d (by omega) (by omega) (by omega) (hput_o (by omega) hb)) w_X1_32 rfl (by decide) (by decide) (by omega) (by omega) (Nat.le_of_ble_eq_true rfl) (ko_rt ?_)
          show T x 56 [(0, vR d9), (1, vR b), (2, vI l9), (3, vI c1), (4, vI i)] [vI 1] _ _ _
          refine st_if_eq (tgt := 62) C dX1_bringTo_56 (by decide) (fun c_56 => by omega) (fun c_56 => ?_)
          refine st_iinc C dX1_bringTo_59 rfl (by decide) rfl ⟨(by omega), (by omega)⟩ ?_
          show T x 62 [(0, vR d9), (1, vR b), (2, vI l9), (3, vI (c1 + 1)), (4, vI i)] [] _ _ _
          refine st_iinc C dX1_bringTo_62 rfl (by decide) rfl ⟨(by omega), (by omega)⟩ ?_
          show T x 65 [(0, vR d9), (1, vR b), (2, vI l9), (3, vI (c1 + 1)), (4, vI (i + 1))] [] _ _ _
          refine st_goto (tgt := 10) C dX1_bringTo_65 (by decide) ?_
          exact ih_10 (c1 + 1) (i + 1) (put2 (hput h1 (b + 4) (oI 304 (fput (brS tf sf af bs ed co no l9 i.toNat).2.2.1 (sf i) (tf i - l9)))) b (edF (brS tf sf af bs ed co no l9 i.toNat).1 bs (sf i) (af i)) (coF (brS tf sf af bs ed co no l9 i.toNat).2.1 bs (sf i) (af i))) (by omega) (by omega) (by omega) (by first | (rw [hz, if_pos b_53, ← g4]) | (rw [hz, if_neg b_53, ← g4])) (by first | (rw [hz, if_pos b_53, hh]; exact br3_c) | (rw [hz, if_neg b_53, hh])) (by omega)
        · refine st_callV (st := []) C dX1_bringTo_53 [vI (sf i), vI (af i), vI (tf i - l9)] (k_bring_f (b := b) (op := op) (bs := bs) (ed := (brS tf sf af bs ed co no l9 i.toNat).1) (co := (brS tf sf af bs ed co no l9 i.toNat).2.1) (no := (brS tf sf af bs ed co no l9 i.toNat).2.2.1) (s9 := sf i) (a9 := af i) (t9 := tf i - l9) (by rw [hh]; exact br3_d (by omega) (by omega) (by omega) (hput_o (by omega) hb)) (by rw [hh]; exact br3_d (by omega) (by omega) (by omega) (hput_o (by omega) hb1)) (by rw [hh]; exact br3_2) (by rw [hh]; exact br3_3) (by rw [hh]; exact br3_4) (by exact hs i g1 (by omega)) b_53) (by rw [hh]; exact br3_d (by omega) (by omega) (by omega) (hput_o (by omega) hb)) w_X1_32 rfl (by decide) (by decide) (by omega) (by omega) (Nat.le_of_ble_eq_true rfl) (ko_rt ?_)
          show T x 56 [(0, vR d9), (1, vR b), (2, vI l9), (3, vI c1), (4, vI i)] [vI 0] _ _ _
          refine st_if_eq (tgt := 62) C dX1_bringTo_56 (by decide) (fun c_56 => ?_) (fun c_56 => by omega)
          refine st_iinc C dX1_bringTo_62 rfl (by decide) rfl ⟨(by omega), (by omega)⟩ ?_
          show T x 65 [(0, vR d9), (1, vR b), (2, vI l9), (3, vI c1), (4, vI (i + 1))] [] _ _ _
          refine st_goto (tgt := 10) C dX1_bringTo_65 (by decide) ?_
          exact ih_10 c1 (i + 1) h1 (by omega) (by omega) (by omega) (by first | (rw [hz, if_pos b_53, ← g4]) | (rw [hz, if_neg b_53, ← g4])) (by first | (rw [hz, if_pos b_53, hh]; exact br3_c) | (rw [hz, if_neg b_53, hh])) (by omega)
  exact loop_10 _ 0 0 (hput h d9 (oO 1 [vI ct, vI l9, vR (d9 + 1), vR (d9 + 2), vR (d9 + 3)])) (by omega) (by omega) (by omega) (rfl) (by exact br3_0 (hput_o (by omega) hb2) (hput_o (by omega) hb3) (hput_o (by omega) hb4)) (Nat.lt_succ_self _)
