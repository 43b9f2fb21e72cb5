/-- 1 and all so far, or 0 and one not -/
def AllB (P : Int → Prop) (i c : Int) : Prop := (c = 1 ∧ ∀ w, 0 ≤ w → w < i → P w) ∨ (c = 0 ∧ ∃ w, 0 ≤ w ∧ w < i ∧ ¬ P w)
theorem allB_0 {P : Int → Prop} : AllB P 0 1 := Or.inl ⟨rfl, fun w h1 h2 => absurd h2 (by omega)⟩
theorem allB_t {P : Int → Prop} {i c : Int} (h : AllB P i c) (hp : P i) : AllB P (i + 1) (c * 1) := by
  rcases h with ⟨h1, h2⟩ | ⟨h1, w, w1, w2, w3⟩
  · refine Or.inl ⟨by omega, fun w g1 g2 => ?_⟩
    by_cases e : w = i
    · rw [e]; exact hp
    · exact h2 w g1 (by omega)
  · exact Or.inr ⟨by omega, w, w1, by omega, w3⟩
theorem allB_f {P : Int → Prop} {i : Int} (hi : 0 ≤ i) (hp : ¬ P i) : AllB P (i + 1) 0 := Or.inr ⟨rfl, i, hi, by omega, hp⟩
theorem allB_b {P : Int → Prop} {i c : Int} (h : AllB P i c) : 0 ≤ c ∧ c ≤ 1 := by rcases h with ⟨h1, -⟩ | ⟨h1, -⟩ <;> omega
theorem allB_1 {P : Int → Prop} {i c n : Int} (h : AllB P i c) (hi : i = n) (hp : ∀ w, 0 ≤ w → w < n → P w) : c = 1 := by
  rcases h with ⟨h1, -⟩ | ⟨-, w, w1, w2, w3⟩
  · exact h1
  · exact absurd (hp w w1 (by omega)) w3
theorem allB_2 {P : Int → Prop} {i c n : Int} (h : AllB P i c) (hi : i = n) (hp : ¬ ∀ w, 0 ≤ w → w < n → P w) : c = 0 := by
  rcases h with ⟨-, h1⟩ | ⟨h1, -⟩
  · exact absurd (fun w g1 g2 => h1 w g1 (by omega)) hp
  · exact h1
set_option maxRecDepth 20000 in
set_option maxHeartbeats 4000000 in
theorem k_isClosed_t {g : Gx} {h : HP} {mv mrc mmc mmk mdv mwl mwa mwp mth : Int} {mw : Int → Int} {l p9 : Int} (hm : mO h mv mrc mmc mmk mdv mwl mwa mwp mth) (h202 : h 202 = some (oI 304 mw)) (hl : 0 ≤ l ∧ l ≤ 2) (hp : 0 ≤ p9 ∧ p9 ≤ 63) (hP : MClo mw l p9) : Ct g yX11_isClosed (.code yX11_isClosed cX11_isClosed 6 (some .boolean)) 3 0 0 [vR 200, vI l, vI p9] h (Rt (some (vI 1)) h) := by
  refine Ct.of (by decide) (Nat.le_of_ble_eq_true rfl) (fun x hg C F => ?_)
  subst hg
  show T x 0 [(0, vR 200), (1, vI l), (2, vI p9)] [] h 0 0
  refine st_iconst C dX11_isClosed_0 (by decide) ?_
  refine st_istore_n C 3 dX11_isClosed_1 rfl (by decide) rfl ?_
  show T x 2 [(0, vR 200), (1, vI l), (2, vI p9), (3, vI 1)] [] _ _ _
  refine st_iconst C dX11_isClosed_2 (by decide) ?_
  refine st_istore C dX11_isClosed_3 (by decide) rfl ?_
  show T x 5 [(0, vR 200), (1, vI l), (2, vI p9), (3, vI 1), (4, vI 0)] [] _ _ _
  have loop_5 : ∀ (n_5 : Nat) (c1 : Int) (i : Int), (0 ≤ i) → (i ≤ 4) → (AllB (fun w => mbes p9 w < 0 ∨ 0 < mw (64 * l + mbes p9 w)) i c1) → (4 - i).toNat < n_5 → T x 5 [(0, vR 200), (1, vI l), (2, vI p9), (3, vI c1), (4, vI i)] [] h 0 0 := by
    intro n_5
    induction n_5 with
    | zero => intro c1 i g1 g2 g3 hm_5; exact absurd hm_5 (Nat.not_lt_zero _)
    | succ n_5 ih_5 =>
      intro c1 i g1 g2 g3 hm_5
      have fb := mbes_in (p := p9) (w := i) hp
      have fc := allB_b g3
      refine st_iload C dX11_isClosed_5 rfl ?_
      refine st_iconst C dX11_isClosed_7 (by decide) ?_
      refine st_icmp_ge (tgt := 53) C dX11_isClosed_8 (by decide) (fun c_8 => ?_) (fun c_8 => ?_)
      · refine st_iload_n C 3 dX11_isClosed_53 rfl rfl ?_
        exact st_zreturn C F dX11_isClosed_54 rfl (by omega) (rt_i (allB_1 g3 (show i = 4 by omega) hP) rfl) (by omega) (by omega)
      · refine st_iload_n C 2 dX11_isClosed_11 rfl rfl ?_
        refine st_iload C dX11_isClosed_12 rfl ?_
        refine st_callS (st := []) C dX11_isClosed_14 [vI p9, vI i] (k_mbes (p := p9) (w := i) (by omega) (by omega)) w_X11_79 rfl (by decide) (by decide) (by omega) (by omega) (Nat.le_of_ble_eq_true rfl) (ko_rt ?_)
        show T x 17 [(0, vR 200), (1, vI l), (2, vI p9), (3, vI c1), (4, vI i)] [vI (mbes p9 i)] _ _ _
        refine st_istore C dX11_isClosed_17 (by decide) rfl ?_
        show T x 19 [(0, vR 200), (1, vI l), (2, vI p9), (3, vI c1), (4, vI i), (5, vI (mbes p9 i))] [] _ _ _
        refine st_iload_n C 3 dX11_isClosed_19 rfl rfl ?_
        refine st_iload C dX11_isClosed_20 rfl ?_
        refine st_if_lt (tgt := 40) C dX11_isClosed_22 (by decide) (fun c_22 => ?_) (fun c_22 => ?_)
        · refine st_iconst C dX11_isClosed_40 (by decide) ?_
          refine st_goto (tgt := 45) C dX11_isClosed_41 (by decide) ?_
          refine st_iandB C dX11_isClosed_45 (by omega) (by omega) ?_
          refine st_istore_n C 3 dX11_isClosed_46 rfl (by decide) rfl ?_
          show T x 47 [(0, vR 200), (1, vI l), (2, vI p9), (3, vI (c1 * 1)), (4, vI i), (5, vI (mbes p9 i))] [] _ _ _
          refine st_iinc C dX11_isClosed_47 rfl (by decide) rfl ⟨(by omega), (by omega)⟩ ?_
          show T x 50 [(0, vR 200), (1, vI l), (2, vI p9), (3, vI (c1 * 1)), (4, vI (i + 1)), (5, vI (mbes p9 i))] [] _ _ _
          refine st_goto (tgt := 5) C dX11_isClosed_50 (by decide) ?_
          refine st_sub [0, 1, 2, 3, 4] rfl ?_
          exact ih_5 (c1 * 1) (i + 1) (by omega) (by omega) (by first | exact allB_t g3 (by show _ ∨ _; omega) | exact allB_f g1 (by show ¬ (_ ∨ _); omega)) (by omega)
        · refine st_aload_n C 0 dX11_isClosed_25 rfl rfl ?_
          refine st_getf C dX11_isClosed_26 fl_X11_13 hm rfl ?_
          refine st_bipush C dX11_isClosed_29 (by decide) (by decide) ?_
          refine st_iload_n C 1 dX11_isClosed_31 rfl rfl ?_
          refine st_imul C dX11_isClosed_32 ⟨(by omega), (by omega)⟩ ?_
          refine st_iload C dX11_isClosed_33 rfl ?_
          refine st_iadd C dX11_isClosed_35 ⟨(by omega), (by omega)⟩ ?_
          refine st_iald C dX11_isClosed_36 h202 (by omega) (by omega) ?_
          refine st_if_le (tgt := 44) C dX11_isClosed_37 (by decide) (fun c_37 => ?_) (fun c_37 => ?_)
          · refine st_iconst C dX11_isClosed_44 (by decide) ?_
            refine st_iandB C dX11_isClosed_45 (by omega) (by omega) ?_
            rw [Int.mul_zero]
            refine st_istore_n C 3 dX11_isClosed_46 rfl (by decide) rfl ?_
            show T x 47 [(0, vR 200), (1, vI l), (2, vI p9), (3, vI 0), (4, vI i), (5, vI (mbes p9 i))] [] _ _ _
            refine st_iinc C dX11_isClosed_47 rfl (by decide) rfl ⟨(by omega), (by omega)⟩ ?_
            show T x 50 [(0, vR 200), (1, vI l), (2, vI p9), (3, vI 0), (4, vI (i + 1)), (5, vI (mbes p9 i))] [] _ _ _
            refine st_goto (tgt := 5) C dX11_isClosed_50 (by decide) ?_
            refine st_sub [0, 1, 2, 3, 4] rfl ?_
            exact ih_5 0 (i + 1) (by omega) (by omega) (by first | exact allB_t g3 (by show _ ∨ _; omega) | exact allB_f g1 (by show ¬ (_ ∨ _); omega)) (by omega)
          · refine st_iconst C dX11_isClosed_40 (by decide) ?_
            refine st_goto (tgt := 45) C dX11_isClosed_41 (by decide) ?_
            refine st_iandB C dX11_isClosed_45 (by omega) (by omega) ?_
            refine st_istore_n C 3 dX11_isClosed_46 rfl (by decide) rfl ?_
            show T x 47 [(0, vR 200), (1, vI l), (2, vI p9), (3, vI (c1 * 1)), (4, vI i), (5, vI (mbes p9 i))] [] _ _ _
            refine st_iinc C dX11_isClosed_47 rfl (by decide) rfl ⟨(by omega), (by omega)⟩ ?_
            show T x 50 [(0, vR 200), (1, vI l), (2, vI p9), (3, vI (c1 * 1)), (4, vI (i + 1)), (5, vI (mbes p9 i))] [] _ _ _
            refine st_goto (tgt := 5) C dX11_isClosed_50 (by decide) ?_
            refine st_sub [0, 1, 2, 3, 4] rfl ?_
            exact ih_5 (c1 * 1) (i + 1) (by omega) (by omega) (by first | exact allB_t g3 (by show _ ∨ _; omega) | exact allB_f g1 (by show ¬ (_ ∨ _); omega)) (by omega)
  exact loop_5 _ 1 0 (by omega) (by omega) (allB_0) (Nat.lt_succ_self _)
set_option maxRecDepth 20000 in
set_option maxHeartbeats 4000000 in
theorem k_isClosed_f {g : Gx} {h : HP} {mv mrc mmc mmk mdv mwl mwa mwp mth : Int} {mw : Int → Int} {l p9 : Int} (hm : mO h mv mrc mmc mmk mdv mwl mwa mwp mth) (h202 : h 202 = some (oI 304 mw)) (hl : 0 ≤ l ∧ l ≤ 2) (hp : 0 ≤ p9 ∧ p9 ≤ 63) (hP : ¬ MClo mw l p9) : Ct g yX11_isClosed (.code yX11_isClosed cX11_isClosed 6 (some .boolean)) 3 0 0 [vR 200, vI l, vI p9] h (Rt (some (vI 0)) h) := by
  refine Ct.of (by decide) (Nat.le_of_ble_eq_true rfl) (fun x hg C F => ?_)
  subst hg
  show T x 0 [(0, vR 200), (1, vI l), (2, vI p9)] [] h 0 0
  refine st_iconst C dX11_isClosed_0 (by decide) ?_
  refine st_istore_n C 3 dX11_isClosed_1 rfl (by decide) rfl ?_
  show T x 2 [(0, vR 200), (1, vI l), (2, vI p9), (3, vI 1)] [] _ _ _
  refine st_iconst C dX11_isClosed_2 (by decide) ?_
  refine st_istore C dX11_isClosed_3 (by decide) rfl ?_
  show T x 5 [(0, vR 200), (1, vI l), (2, vI p9), (3, vI 1), (4, vI 0)] [] _ _ _
  have loop_5 : ∀ (n_5 : Nat) (c1 : Int) (i : Int), (0 ≤ i) → (i ≤ 4) → (AllB (fun w => mbes p9 w < 0 ∨ 0 < mw (64 * l + mbes p9 w)) i c1) → (4 - i).toNat < n_5 → T x 5 [(0, vR 200), (1, vI l), (2, vI p9), (3, vI c1), (4, vI i)] [] h 0 0 := by
    intro n_5
    induction n_5 with
    | zero => intro c1 i g1 g2 g3 hm_5; exact absurd hm_5 (Nat.not_lt_zero _)
    | succ n_5 ih_5 =>
      intro c1 i g1 g2 g3 hm_5
      have fb := mbes_in (p := p9) (w := i) hp
      have fc := allB_b g3
      refine st_iload C dX11_isClosed_5 rfl ?_
      refine st_iconst C dX11_isClosed_7 (by decide) ?_
      refine st_icmp_ge (tgt := 53) C dX11_isClosed_8 (by decide) (fun c_8 => ?_) (fun c_8 => ?_)
      · refine st_iload_n C 3 dX11_isClosed_53 rfl rfl ?_
        exact st_zreturn C F dX11_isClosed_54 rfl (by omega) (rt_i (allB_2 g3 (show i = 4 by omega) hP) rfl) (by omega) (by omega)
      · refine st_iload_n C 2 dX11_isClosed_11 rfl rfl ?_
        refine st_iload C dX11_isClosed_12 rfl ?_
        refine st_callS (st := []) C dX11_isClosed_14 [vI p9, vI i] (k_mbes (p := p9) (w := i) (by omega) (by omega)) w_X11_79 rfl (by decide) (by decide) (by omega) (by omega) (Nat.le_of_ble_eq_true rfl) (ko_rt ?_)
        show T x 17 [(0, vR 200), (1, vI l), (2, vI p9), (3, vI c1), (4, vI i)] [vI (mbes p9 i)] _ _ _
        refine st_istore C dX11_isClosed_17 (by decide) rfl ?_
        show T x 19 [(0, vR 200), (1, vI l), (2, vI p9), (3, vI c1), (4, vI i), (5, vI (mbes p9 i))] [] _ _ _
        refine st_iload_n C 3 dX11_isClosed_19 rfl rfl ?_
        refine st_iload C dX11_isClosed_20 rfl ?_
        refine st_if_lt (tgt := 40) C dX11_isClosed_22 (by decide) (fun c_22 => ?_) (fun c_22 => ?_)
        · refine st_iconst C dX11_isClosed_40 (by decide) ?_
          refine st_goto (tgt := 45) C dX11_isClosed_41 (by decide) ?_
          refine st_iandB C dX11_isClosed_45 (by omega) (by omega) ?_
          refine st_istore_n C 3 dX11_isClosed_46 rfl (by decide) rfl ?_
          show T x 47 [(0, vR 200), (1, vI l), (2, vI p9), (3, vI (c1 * 1)), (4, vI i), (5, vI (mbes p9 i))] [] _ _ _
          refine st_iinc C dX11_isClosed_47 rfl (by decide) rfl ⟨(by omega), (by omega)⟩ ?_
          show T x 50 [(0, vR 200), (1, vI l), (2, vI p9), (3, vI (c1 * 1)), (4, vI (i + 1)), (5, vI (mbes p9 i))] [] _ _ _
          refine st_goto (tgt := 5) C dX11_isClosed_50 (by decide) ?_
          refine st_sub [0, 1, 2, 3, 4] rfl ?_
          exact ih_5 (c1 * 1) (i + 1) (by omega) (by omega) (by first | exact allB_t g3 (by show _ ∨ _; omega) | exact allB_f g1 (by show ¬ (_ ∨ _); omega)) (by omega)
        · refine st_aload_n C 0 dX11_isClosed_25 rfl rfl ?_
          refine st_getf C dX11_isClosed_26 fl_X11_13 hm rfl ?_
          refine st_bipush C dX11_isClosed_29 (by decide) (by decide) ?_
          refine st_iload_n C 1 dX11_isClosed_31 rfl rfl ?_
          refine st_imul C dX11_isClosed_32 ⟨(by omega), (by omega)⟩ ?_
          refine st_iload C dX11_isClosed_33 rfl ?_
          refine st_iadd C dX11_isClosed_35 ⟨(by omega), (by omega)⟩ ?_
          refine st_iald C dX11_isClosed_36 h202 (by omega) (by omega) ?_
          refine st_if_le (tgt := 44) C dX11_isClosed_37 (by decide) (fun c_37 => ?_) (fun c_37 => ?_)
          · refine st_iconst C dX11_isClosed_44 (by decide) ?_
            refine st_iandB C dX11_isClosed_45 (by omega) (by omega) ?_
            rw [Int.mul_zero]
            refine st_istore_n C 3 dX11_isClosed_46 rfl (by decide) rfl ?_
            show T x 47 [(0, vR 200), (1, vI l), (2, vI p9), (3, vI 0), (4, vI i), (5, vI (mbes p9 i))] [] _ _ _
            refine st_iinc C dX11_isClosed_47 rfl (by decide) rfl ⟨(by omega), (by omega)⟩ ?_
            show T x 50 [(0, vR 200), (1, vI l), (2, vI p9), (3, vI 0), (4, vI (i + 1)), (5, vI (mbes p9 i))] [] _ _ _
            refine st_goto (tgt := 5) C dX11_isClosed_50 (by decide) ?_
            refine st_sub [0, 1, 2, 3, 4] rfl ?_
            exact ih_5 0 (i + 1) (by omega) (by omega) (by first | exact allB_t g3 (by show _ ∨ _; omega) | exact allB_f g1 (by show ¬ (_ ∨ _); omega)) (by omega)
          · refine st_iconst C dX11_isClosed_40 (by decide) ?_
            refine st_goto (tgt := 45) C dX11_isClosed_41 (by decide) ?_
            refine st_iandB C dX11_isClosed_45 (by omega) (by omega) ?_
            refine st_istore_n C 3 dX11_isClosed_46 rfl (by decide) rfl ?_
            show T x 47 [(0, vR 200), (1, vI l), (2, vI p9), (3, vI (c1 * 1)), (4, vI i), (5, vI (mbes p9 i))] [] _ _ _
            refine st_iinc C dX11_isClosed_47 rfl (by decide) rfl ⟨(by omega), (by omega)⟩ ?_
            show T x 50 [(0, vR 200), (1, vI l), (2, vI p9), (3, vI (c1 * 1)), (4, vI (i + 1)), (5, vI (mbes p9 i))] [] _ _ _
            refine st_goto (tgt := 5) C dX11_isClosed_50 (by decide) ?_
            refine st_sub [0, 1, 2, 3, 4] rfl ?_
            exact ih_5 (c1 * 1) (i + 1) (by omega) (by omega) (by first | exact allB_t g3 (by show _ ∨ _; omega) | exact allB_f g1 (by show ¬ (_ ∨ _); omega)) (by omega)
  exact loop_5 _ 1 0 (by omega) (by omega) (allB_0) (Nat.lt_succ_self _)
