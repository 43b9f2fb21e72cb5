theorem mroad_in {p w : Int} (hp : 0 ≤ p ∧ p ≤ 63) (hw : 0 ≤ w ∧ w ≤ 3) (h : 0 ≤ mbes p w) : 192 ≤ mroad p w ∧ mroad p w ≤ 303 := by
  have hw4 : w = 0 ∨ w = 1 ∨ w = 2 ∨ w = 3 := by omega
  rcases hw4 with e | e | e | e <;> subst e <;> unfold mbes at h <;> unfold mroad <;> simp at h ⊢ <;> split at h <;> omega
/-- the roads at a place, as the reference adds them up -/
def mrdN (f : Int → Int) (p : Int) : Int := sum (fun w => if 0 ≤ mbes p w then f (mroad p w) else 0) 4
/-- all beside it are full -/
def MClo (f : Int → Int) (l p : Int) : Prop := ∀ w, 0 ≤ w → w < 4 → mbes p w < 0 ∨ 0 < f (64 * l + mbes p w)
set_option maxRecDepth 20000 in
set_option maxHeartbeats 4000000 in
theorem k_mroadsAt {g : Gx} {h : HP} {mv mrc mmc mmk mdv mwl mwa mwp mth : Int} {mw : Int → Int} {p9 : Int} (hm : mO h mv mrc mmc mmk mdv mwl mwa mwp mth) (h202 : h 202 = some (oI 304 mw)) (hp : 0 ≤ p9 ∧ p9 ≤ 63) (hwr : ∀ j, 192 ≤ j → j ≤ 303 → 0 ≤ mw j ∧ mw j ≤ 1) : Ct g yX11_roadsAt (.code yX11_roadsAt cX11_roadsAt 4 (some .int)) 4 0 0 [vR 200, vI p9] h (Rt (some (vI (mrdN mw p9))) h) := by
  refine Ct.of (by decide) (Nat.le_of_ble_eq_true rfl) (fun x hg C F => ?_)
  subst hg
  show T x 0 [(0, vR 200), (1, vI p9)] [] h 0 0
  refine st_iconst C dX11_roadsAt_0 (by decide) ?_
  refine st_istore_n C 2 dX11_roadsAt_1 rfl (by decide) rfl ?_
  show T x 2 [(0, vR 200), (1, vI p9), (2, vI 0)] [] _ _ _
  refine st_iconst C dX11_roadsAt_2 (by decide) ?_
  refine st_istore_n C 3 dX11_roadsAt_3 rfl (by decide) rfl ?_
  show T x 4 [(0, vR 200), (1, vI p9), (2, vI 0), (3, vI 0)] [] _ _ _
  have loop_4 : ∀ (n_4 : Nat) (c1 : Int) (i : Int), (0 ≤ i) → (i ≤ 4) → (0 ≤ c1 ∧ c1 ≤ i) → (c1 = sum (fun w => if 0 ≤ mbes p9 w then mw (mroad p9 w) else 0) i) → (4 - i).toNat < n_4 → T x 4 [(0, vR 200), (1, vI p9), (2, vI c1), (3, vI i)] [] h 0 0 := by
    intro n_4
    induction n_4 with
    | zero => intro c1 i g1 g2 g3 g4 hm_4; exact absurd hm_4 (Nat.not_lt_zero _)
    | succ n_4 ih_4 =>
      intro c1 i g1 g2 g3 g4 hm_4
      have fb := mbes_in (p := p9) (w := i) hp
      refine st_iload_n C 3 dX11_roadsAt_4 rfl rfl ?_
      refine st_iconst C dX11_roadsAt_5 (by decide) ?_
      refine st_icmp_ge (tgt := 40) C dX11_roadsAt_6 (by decide) (fun c_6 => ?_) (fun c_6 => ?_)
      · refine st_iload_n C 2 dX11_roadsAt_40 rfl rfl ?_
        exact st_ireturn C F dX11_roadsAt_41 rfl (rt_i (sumE g4 (by omega)) rfl) (by omega) (by omega)
      · refine st_iload_n C 2 dX11_roadsAt_9 rfl rfl ?_
        refine st_iload_n C 1 dX11_roadsAt_10 rfl rfl ?_
        refine st_iload_n C 3 dX11_roadsAt_11 rfl rfl ?_
        refine st_callS (st := [vI c1]) C dX11_roadsAt_12 [vI p9, vI i] (k_mbes (p := p9) (w := i) (by omega) (by omega)) w_X11_79 rfl (by decide) (by decide) (by omega) (by omega) (Nat.le_of_ble_eq_true rfl) (ko_rt ?_)
        show T x 15 [(0, vR 200), (1, vI p9), (2, vI c1), (3, vI i)] [vI (mbes p9 i), vI c1] _ _ _
        refine st_if_lt (tgt := 31) C dX11_roadsAt_15 (by decide) (fun c_15 => ?_) (fun c_15 => ?_)
        · refine st_iconst C dX11_roadsAt_31 (by decide) ?_
          refine st_iadd C dX11_roadsAt_32 ⟨(by omega), (by omega)⟩ ?_
          refine st_istore_n C 2 dX11_roadsAt_33 rfl (by decide) rfl ?_
          show T x 34 [(0, vR 200), (1, vI p9), (2, vI (c1 + 0)), (3, vI i)] [] _ _ _
          refine st_iinc C dX11_roadsAt_34 rfl (by decide) rfl ⟨(by omega), (by omega)⟩ ?_
          show T x 37 [(0, vR 200), (1, vI p9), (2, vI (c1 + 0)), (3, vI (i + 1))] [] _ _ _
          refine st_goto (tgt := 4) C dX11_roadsAt_37 (by decide) ?_
          exact ih_4 (c1 + 0) (i + 1) (by omega) (by omega) (by omega) (by rw [sum_s g1, ← g4]; first | rw [if_pos (by omega)] | rw [if_neg (by omega)]) (by omega)
        · refine st_aload_n C 0 dX11_roadsAt_18 rfl rfl ?_
          refine st_getf C dX11_roadsAt_19 fl_X11_13 hm rfl ?_
          refine st_iload_n C 1 dX11_roadsAt_22 rfl rfl ?_
          refine st_iload_n C 3 dX11_roadsAt_23 rfl rfl ?_
          have hmr := mroad_in (p := p9) (w := i) (by omega) (by omega) (by omega)
          have hmw := hwr (mroad p9 i) (by omega) (by omega)
          refine st_callS (st := [vR 202, vI c1]) C dX11_roadsAt_24 [vI p9, vI i] (k_mroad (p := p9) (w := i) (by omega) (by omega) (by omega)) w_X11_83 rfl (by decide) (by decide) (by omega) (by omega) (Nat.le_of_ble_eq_true rfl) (ko_rt ?_)
          show T x 27 [(0, vR 200), (1, vI p9), (2, vI c1), (3, vI i)] [vI (mroad p9 i), vR 202, vI c1] _ _ _
          refine st_iald C dX11_roadsAt_27 h202 (by omega) (by omega) ?_
          refine st_goto (tgt := 32) C dX11_roadsAt_28 (by decide) ?_
          refine st_iadd C dX11_roadsAt_32 ⟨(by omega), (by omega)⟩ ?_
          refine st_istore_n C 2 dX11_roadsAt_33 rfl (by decide) rfl ?_
          show T x 34 [(0, vR 200), (1, vI p9), (2, vI (c1 + (mw (mroad p9 i)))), (3, vI i)] [] _ _ _
          refine st_iinc C dX11_roadsAt_34 rfl (by decide) rfl ⟨(by omega), (by omega)⟩ ?_
          show T x 37 [(0, vR 200), (1, vI p9), (2, vI (c1 + (mw (mroad p9 i)))), (3, vI (i + 1))] [] _ _ _
          refine st_goto (tgt := 4) C dX11_roadsAt_37 (by decide) ?_
          exact ih_4 (c1 + (mw (mroad p9 i))) (i + 1) (by omega) (by omega) (by omega) (by rw [sum_s g1, ← g4]; first | rw [if_pos (by omega)] | rw [if_neg (by omega)]) (by omega)
  exact loop_4 _ 0 0 (by omega) (by omega) (by omega) (sum_0) (Nat.lt_succ_self _)
