theorem first_at {P : Int → Prop} {i n r : Int} (h1 : 0 ≤ i) (h2 : i < n) (h3 : ∀ j, 0 ≤ j → j < i → ¬ P j) (hp : P i) (hr : IsFirst P n r) : i = r := by
  rcases hr with ⟨g1, g2, g3, g4⟩ | ⟨g1, g2⟩
  · rcases Int.lt_trichotomy i r with q | q | q
    · exact absurd hp (g4 i h1 q)
    · exact q
    · exact absurd g3 (h3 r g1 q)
  · exact absurd hp (g2 i h1 h2)
theorem first_no {P : Int → Prop} {i n r : Int} (h2 : n ≤ i) (h3 : ∀ j, 0 ≤ j → j < i → ¬ P j) (hr : IsFirst P n r) : -1 = r := by
  rcases hr with ⟨g1, g2, g3, g4⟩ | ⟨g1, g2⟩
  · exact absurd g3 (h3 r g1 (by omega))
  · exact g1.symm
theorem first_ex (P : Int → Prop) (n : Int) (hn : 0 ≤ n) : ∃ r, IsFirst P n r := by
  have key : ∀ k : Nat, ∃ r, IsFirst P (k : Int) r := by
    intro k
    induction k with
    | zero => exact ⟨-1, Or.inr ⟨rfl, fun j h1 h2 => absurd h2 (by omega)⟩⟩
    | succ k ih =>
      obtain ⟨r, hr⟩ := ih
      rcases hr with ⟨g1, g2, g3, g4⟩ | ⟨g1, g2⟩
      · exact ⟨r, Or.inl ⟨g1, by omega, g3, g4⟩⟩
      · by_cases hp : P (k : Int)
        · exact ⟨(k : Int), Or.inl ⟨by omega, by omega, hp, fun j h1 h2 => g2 j h1 h2⟩⟩
        · exact ⟨-1, Or.inr ⟨rfl, fun j h1 h2 => by
            by_cases e : j = k
            · subst e; exact hp
            · exact g2 j h1 (by omega)⟩⟩
  obtain ⟨r, hr⟩ := key n.toNat
  rw [Int.toNat_of_nonneg hn] at hr
  exact ⟨r, hr⟩
/-- how many places of a square, of side s, hold a -/
noncomputable def pin (f : Int → Int) (l a s x9 y9 : Int) : Int := sum (fun r => cnt (fun q => f (64 * l + (8 * (y9 * s + r) + x9 * s + q)) = a) s) s
set_option maxRecDepth 20000 in
set_option maxHeartbeats 4000000 in
theorem k_placesIn0 {g : Gx} {h : HP} {a : Nat} {f : Int → Int} {l a9 x9 y9 : Int} (ha : h a = some (oI 304 f)) (hl : 0 ≤ l ∧ l ≤ 2) (hx : 0 ≤ x9 ∧ x9 ≤ 7) (hy : 0 ≤ y9 ∧ y9 ≤ 7) : Ct g yX2_placesIn (.code yX2_placesIn cX2_placesIn 11 (some .int)) 2 0 0 [vR a, vI l, vI a9, vI 0, vI x9, vI y9] h (Rt (some (vI (pin f l a9 1 x9 y9))) h) := by
  refine Ct.of (by decide) (Nat.le_of_ble_eq_true rfl) (fun x hg C F => ?_)
  subst hg
  show T x 0 [(0, vR a), (1, vI l), (2, vI a9), (3, vI 0), (4, vI x9), (5, vI y9)] [] h 0 0
  refine st_iconst C dX2_placesIn_0 (by decide) ?_
  refine st_iload_n C 3 dX2_placesIn_1 rfl rfl ?_
  refine st_ishl C 0 dX2_placesIn_2 (by omega) (by decide) (by omega) ?_
  show T x 3 [(0, vR a), (1, vI l), (2, vI a9), (3, vI 0), (4, vI x9), (5, vI y9)] [vI (1 * 2 ^ 0)] _ _ _
  refine st_istore C dX2_placesIn_3 (by decide) rfl ?_
  show T x 5 [(0, vR a), (1, vI l), (2, vI a9), (3, vI 0), (4, vI x9), (5, vI y9), (6, vI 1)] [] _ _ _
  refine st_iconst C dX2_placesIn_5 (by decide) ?_
  refine st_istore C dX2_placesIn_6 (by decide) rfl ?_
  show T x 8 [(0, vR a), (1, vI l), (2, vI a9), (3, vI 0), (4, vI x9), (5, vI y9), (6, vI 1), (7, vI 0)] [] _ _ _
  refine st_iconst C dX2_placesIn_8 (by decide) ?_
  refine st_istore C dX2_placesIn_9 (by decide) rfl ?_
  show T x 11 [(0, vR a), (1, vI l), (2, vI a9), (3, vI 0), (4, vI x9), (5, vI y9), (6, vI 1), (7, vI 0), (8, vI 0)] [] _ _ _
  have loop_11 : ∀ (n_11 : Nat) (c1 : Int) (r1 : Int), (0 ≤ r1) → (r1 ≤ 1) → (0 ≤ c1 ∧ c1 ≤ 1 * r1) → (c1 = sum (fun r => cnt (fun q => f (64 * l + (8 * (y9 * 1 + r) + x9 * 1 + q)) = a9) 1) r1) → (1 - r1).toNat < n_11 → T x 11 [(0, vR a), (1, vI l), (2, vI a9), (3, vI 0), (4, vI x9), (5, vI y9), (6, vI 1), (7, vI c1), (8, vI r1)] [] h 0 0 := by
    intro n_11
    induction n_11 with
    | zero => intro c1 r1 h1 h2 h3 h4 hm_11; exact absurd hm_11 (Nat.not_lt_zero _)
    | succ n_11 ih_11 =>
      intro c1 r1 h1 h2 h3 h4 hm_11
      refine st_iload C dX2_placesIn_11 rfl ?_
      refine st_iload C dX2_placesIn_13 rfl ?_
      refine st_icmp_ge (tgt := 76) C dX2_placesIn_15 (by decide) (fun c_15 => ?_) (fun c_15 => ?_)
      · refine st_iload C dX2_placesIn_76 rfl ?_
        exact st_ireturn C F dX2_placesIn_78 rfl (rt_i (sumE h4 (by omega)) rfl) (by omega) (by omega)
      · refine st_iconst C dX2_placesIn_18 (by decide) ?_
        refine st_istore C dX2_placesIn_19 (by decide) rfl ?_
        show T x 21 [(0, vR a), (1, vI l), (2, vI a9), (3, vI 0), (4, vI x9), (5, vI y9), (6, vI 1), (7, vI c1), (8, vI r1), (9, vI 0)] [] _ _ _
        have loop_21 : ∀ (n_21 : Nat) (c2 : Int) (q2 : Int), (0 ≤ q2) → (q2 ≤ 1) → (0 ≤ c2 ∧ c2 ≤ 1 * r1 + q2) → (c2 = sum (fun r => cnt (fun q => f (64 * l + (8 * (y9 * 1 + r) + x9 * 1 + q)) = a9) 1) r1 + cnt (fun q => f (64 * l + (8 * (y9 * 1 + r1) + x9 * 1 + q)) = a9) q2) → (1 - q2).toNat < n_21 → T x 21 [(0, vR a), (1, vI l), (2, vI a9), (3, vI 0), (4, vI x9), (5, vI y9), (6, vI 1), (7, vI c2), (8, vI r1), (9, vI q2)] [] h 0 0 := by
          intro n_21
          induction n_21 with
          | zero => intro c2 q2 h5 h6 h7 h8 hm_21; exact absurd hm_21 (Nat.not_lt_zero _)
          | succ n_21 ih_21 =>
            intro c2 q2 h5 h6 h7 h8 hm_21
            refine st_iload C dX2_placesIn_21 rfl ?_
            refine st_iload C dX2_placesIn_23 rfl ?_
            refine st_icmp_ge (tgt := 70) C dX2_placesIn_25 (by decide) (fun c_25 => ?_) (fun c_25 => ?_)
            · refine st_iinc C dX2_placesIn_70 rfl (by decide) rfl ⟨(by omega), (by omega)⟩ ?_
              show T x 73 [(0, vR a), (1, vI l), (2, vI a9), (3, vI 0), (4, vI x9), (5, vI y9), (6, vI 1), (7, vI c2), (8, vI (r1 + 1)), (9, vI q2)] [] _ _ _
              refine st_goto (tgt := 11) C dX2_placesIn_73 (by decide) ?_
              refine st_sub [0, 1, 2, 3, 4, 5, 6, 7, 8] rfl ?_
              exact ih_11 c2 (r1 + 1) (by omega) (by omega) (by omega) (sumc h1 rfl h8 (by omega)) (by omega)
            · refine st_bipush C dX2_placesIn_28 (by decide) (by decide) ?_
              refine st_iload C dX2_placesIn_30 rfl ?_
              refine st_iload C dX2_placesIn_32 rfl ?_
              refine st_imul C dX2_placesIn_34 ⟨(by omega), (by omega)⟩ ?_
              refine st_iload C dX2_placesIn_35 rfl ?_
              refine st_iadd C dX2_placesIn_37 ⟨(by omega), (by omega)⟩ ?_
              refine st_imul C dX2_placesIn_38 ⟨(by omega), (by omega)⟩ ?_
              refine st_iload C dX2_placesIn_39 rfl ?_
              refine st_iload C dX2_placesIn_41 rfl ?_
              refine st_imul C dX2_placesIn_43 ⟨(by omega), (by omega)⟩ ?_
              refine st_iadd C dX2_placesIn_44 ⟨(by omega), (by omega)⟩ ?_
              refine st_iload C dX2_placesIn_45 rfl ?_
              refine st_iadd C dX2_placesIn_47 ⟨(by omega), (by omega)⟩ ?_
              refine st_istore C dX2_placesIn_48 (by decide) rfl ?_
              show T x 50 [(0, vR a), (1, vI l), (2, vI a9), (3, vI 0), (4, vI x9), (5, vI y9), (6, vI 1), (7, vI c2), (8, vI r1), (9, vI q2), (10, vI (8 * (y9 * 1 + r1) + (x9 * 1) + q2))] [] _ _ _
              refine st_aload_n C 0 dX2_placesIn_50 rfl rfl ?_
              refine st_iload_n C 1 dX2_placesIn_51 rfl rfl ?_
              refine st_iload C dX2_placesIn_52 rfl ?_
              refine st_callS (st := []) C dX2_placesIn_54 [vR a, vI l, vI (8 * (y9 * 1 + r1) + (x9 * 1) + q2)] (k_areaAt (f := f) (l := l) (p := (8 * (y9 * 1 + r1) + (x9 * 1) + q2)) ha (by omega) (by omega)) w_X2_40 rfl (by decide) (by decide) (by omega) (by omega) (Nat.le_of_ble_eq_true rfl) (ko_rt ?_)
              show T x 57 [(0, vR a), (1, vI l), (2, vI a9), (3, vI 0), (4, vI x9), (5, vI y9), (6, vI 1), (7, vI c2), (8, vI r1), (9, vI q2), (10, vI (8 * (y9 * 1 + r1) + (x9 * 1) + q2))] [vI (f (64 * l + (8 * (y9 * 1 + r1) + (x9 * 1) + q2)))] _ _ _
              refine st_iload_n C 2 dX2_placesIn_57 rfl rfl ?_
              refine st_icmp_ne (tgt := 64) C dX2_placesIn_58 (by decide) (fun c_58 => ?_) (fun c_58 => ?_)
              · refine st_iinc C dX2_placesIn_64 rfl (by decide) rfl ⟨(by omega), (by omega)⟩ ?_
                show T x 67 [(0, vR a), (1, vI l), (2, vI a9), (3, vI 0), (4, vI x9), (5, vI y9), (6, vI 1), (7, vI c2), (8, vI r1), (9, vI (q2 + 1)), (10, vI (8 * (y9 * 1 + r1) + (x9 * 1) + q2))] [] _ _ _
                refine st_goto (tgt := 21) C dX2_placesIn_67 (by decide) ?_
                refine st_sub [0, 1, 2, 3, 4, 5, 6, 7, 8, 9] rfl ?_
                exact ih_21 c2 (q2 + 1) (by omega) (by omega) (by omega) (by first | exact cntb_t h5 (by assumption) h8 | exact cntb_f h5 (by assumption) h8) (by omega)
              · refine st_iinc C dX2_placesIn_61 rfl (by decide) rfl ⟨(by omega), (by omega)⟩ ?_
                show T x 64 [(0, vR a), (1, vI l), (2, vI a9), (3, vI 0), (4, vI x9), (5, vI y9), (6, vI 1), (7, vI (c2 + 1)), (8, vI r1), (9, vI q2), (10, vI (8 * (y9 * 1 + r1) + (x9 * 1) + q2))] [] _ _ _
                refine st_iinc C dX2_placesIn_64 rfl (by decide) rfl ⟨(by omega), (by omega)⟩ ?_
                show T x 67 [(0, vR a), (1, vI l), (2, vI a9), (3, vI 0), (4, vI x9), (5, vI y9), (6, vI 1), (7, vI (c2 + 1)), (8, vI r1), (9, vI (q2 + 1)), (10, vI (8 * (y9 * 1 + r1) + (x9 * 1) + q2))] [] _ _ _
                refine st_goto (tgt := 21) C dX2_placesIn_67 (by decide) ?_
                refine st_sub [0, 1, 2, 3, 4, 5, 6, 7, 8, 9] rfl ?_
                exact ih_21 (c2 + 1) (q2 + 1) (by omega) (by omega) (by omega) (by first | exact cntb_t h5 (by assumption) h8 | exact cntb_f h5 (by assumption) h8) (by omega)
        exact loop_21 _ c1 0 (by omega) (by omega) (by omega) (cb_0 h4) (Nat.lt_succ_self _)
  exact loop_11 _ 0 0 (by omega) (by omega) (by omega) (sum_0) (Nat.lt_succ_self _)
set_option maxRecDepth 20000 in
set_option maxHeartbeats 4000000 in
theorem k_placesIn1 {g : Gx} {h : HP} {a : Nat} {f : Int → Int} {l a9 x9 y9 : Int} (ha : h a = some (oI 304 f)) (hl : 0 ≤ l ∧ l ≤ 2) (hx : 0 ≤ x9 ∧ x9 ≤ 3) (hy : 0 ≤ y9 ∧ y9 ≤ 3) : Ct g yX2_placesIn (.code yX2_placesIn cX2_placesIn 11 (some .int)) 2 0 0 [vR a, vI l, vI a9, vI 1, vI x9, vI y9] h (Rt (some (vI (pin f l a9 2 x9 y9))) h) := by
  refine Ct.of (by decide) (Nat.le_of_ble_eq_true rfl) (fun x hg C F => ?_)
  subst hg
  show T x 0 [(0, vR a), (1, vI l), (2, vI a9), (3, vI 1), (4, vI x9), (5, vI y9)] [] h 0 0
  refine st_iconst C dX2_placesIn_0 (by decide) ?_
  refine st_iload_n C 3 dX2_placesIn_1 rfl rfl ?_
  refine st_ishl C 1 dX2_placesIn_2 (by omega) (by decide) (by omega) ?_
  show T x 3 [(0, vR a), (1, vI l), (2, vI a9), (3, vI 1), (4, vI x9), (5, vI y9)] [vI (1 * 2 ^ 1)] _ _ _
  refine st_istore C dX2_placesIn_3 (by decide) rfl ?_
  show T x 5 [(0, vR a), (1, vI l), (2, vI a9), (3, vI 1), (4, vI x9), (5, vI y9), (6, vI 2)] [] _ _ _
  refine st_iconst C dX2_placesIn_5 (by decide) ?_
  refine st_istore C dX2_placesIn_6 (by decide) rfl ?_
  show T x 8 [(0, vR a), (1, vI l), (2, vI a9), (3, vI 1), (4, vI x9), (5, vI y9), (6, vI 2), (7, vI 0)] [] _ _ _
  refine st_iconst C dX2_placesIn_8 (by decide) ?_
  refine st_istore C dX2_placesIn_9 (by decide) rfl ?_
  show T x 11 [(0, vR a), (1, vI l), (2, vI a9), (3, vI 1), (4, vI x9), (5, vI y9), (6, vI 2), (7, vI 0), (8, vI 0)] [] _ _ _
  have loop_11 : ∀ (n_11 : Nat) (c1 : Int) (r1 : Int), (0 ≤ r1) → (r1 ≤ 2) → (0 ≤ c1 ∧ c1 ≤ 2 * r1) → (c1 = sum (fun r => cnt (fun q => f (64 * l + (8 * (y9 * 2 + r) + x9 * 2 + q)) = a9) 2) r1) → (2 - r1).toNat < n_11 → T x 11 [(0, vR a), (1, vI l), (2, vI a9), (3, vI 1), (4, vI x9), (5, vI y9), (6, vI 2), (7, vI c1), (8, vI r1)] [] h 0 0 := by
    intro n_11
    induction n_11 with
    | zero => intro c1 r1 h1 h2 h3 h4 hm_11; exact absurd hm_11 (Nat.not_lt_zero _)
    | succ n_11 ih_11 =>
      intro c1 r1 h1 h2 h3 h4 hm_11
      refine st_iload C dX2_placesIn_11 rfl ?_
      refine st_iload C dX2_placesIn_13 rfl ?_
      refine st_icmp_ge (tgt := 76) C dX2_placesIn_15 (by decide) (fun c_15 => ?_) (fun c_15 => ?_)
      · refine st_iload C dX2_placesIn_76 rfl ?_
        exact st_ireturn C F dX2_placesIn_78 rfl (rt_i (sumE h4 (by omega)) rfl) (by omega) (by omega)
      · refine st_iconst C dX2_placesIn_18 (by decide) ?_
        refine st_istore C dX2_placesIn_19 (by decide) rfl ?_
        show T x 21 [(0, vR a), (1, vI l), (2, vI a9), (3, vI 1), (4, vI x9), (5, vI y9), (6, vI 2), (7, vI c1), (8, vI r1), (9, vI 0)] [] _ _ _
        have loop_21 : ∀ (n_21 : Nat) (c2 : Int) (q2 : Int), (0 ≤ q2) → (q2 ≤ 2) → (0 ≤ c2 ∧ c2 ≤ 2 * r1 + q2) → (c2 = sum (fun r => cnt (fun q => f (64 * l + (8 * (y9 * 2 + r) + x9 * 2 + q)) = a9) 2) r1 + cnt (fun q => f (64 * l + (8 * (y9 * 2 + r1) + x9 * 2 + q)) = a9) q2) → (2 - q2).toNat < n_21 → T x 21 [(0, vR a), (1, vI l), (2, vI a9), (3, vI 1), (4, vI x9), (5, vI y9), (6, vI 2), (7, vI c2), (8, vI r1), (9, vI q2)] [] h 0 0 := by
          intro n_21
          induction n_21 with
          | zero => intro c2 q2 h5 h6 h7 h8 hm_21; exact absurd hm_21 (Nat.not_lt_zero _)
          | succ n_21 ih_21 =>
            intro c2 q2 h5 h6 h7 h8 hm_21
            refine st_iload C dX2_placesIn_21 rfl ?_
            refine st_iload C dX2_placesIn_23 rfl ?_
            refine st_icmp_ge (tgt := 70) C dX2_placesIn_25 (by decide) (fun c_25 => ?_) (fun c_25 => ?_)
            · refine st_iinc C dX2_placesIn_70 rfl (by decide) rfl ⟨(by omega), (by omega)⟩ ?_
              show T x 73 [(0, vR a), (1, vI l), (2, vI a9), (3, vI 1), (4, vI x9), (5, vI y9), (6, vI 2), (7, vI c2), (8, vI (r1 + 1)), (9, vI q2)] [] _ _ _
              refine st_goto (tgt := 11) C dX2_placesIn_73 (by decide) ?_
              refine st_sub [0, 1, 2, 3, 4, 5, 6, 7, 8] rfl ?_
              exact ih_11 c2 (r1 + 1) (by omega) (by omega) (by omega) (sumc h1 rfl h8 (by omega)) (by omega)
            · refine st_bipush C dX2_placesIn_28 (by decide) (by decide) ?_
              refine st_iload C dX2_placesIn_30 rfl ?_
              refine st_iload C dX2_placesIn_32 rfl ?_
              refine st_imul C dX2_placesIn_34 ⟨(by omega), (by omega)⟩ ?_
              refine st_iload C dX2_placesIn_35 rfl ?_
              refine st_iadd C dX2_placesIn_37 ⟨(by omega), (by omega)⟩ ?_
              refine st_imul C dX2_placesIn_38 ⟨(by omega), (by omega)⟩ ?_
              refine st_iload C dX2_placesIn_39 rfl ?_
              refine st_iload C dX2_placesIn_41 rfl ?_
              refine st_imul C dX2_placesIn_43 ⟨(by omega), (by omega)⟩ ?_
              refine st_iadd C dX2_placesIn_44 ⟨(by omega), (by omega)⟩ ?_
              refine st_iload C dX2_placesIn_45 rfl ?_
              refine st_iadd C dX2_placesIn_47 ⟨(by omega), (by omega)⟩ ?_
              refine st_istore C dX2_placesIn_48 (by decide) rfl ?_
              show T x 50 [(0, vR a), (1, vI l), (2, vI a9), (3, vI 1), (4, vI x9), (5, vI y9), (6, vI 2), (7, vI c2), (8, vI r1), (9, vI q2), (10, vI (8 * (y9 * 2 + r1) + (x9 * 2) + q2))] [] _ _ _
              refine st_aload_n C 0 dX2_placesIn_50 rfl rfl ?_
              refine st_iload_n C 1 dX2_placesIn_51 rfl rfl ?_
              refine st_iload C dX2_placesIn_52 rfl ?_
              refine st_callS (st := []) C dX2_placesIn_54 [vR a, vI l, vI (8 * (y9 * 2 + r1) + (x9 * 2) + q2)] (k_areaAt (f := f) (l := l) (p := (8 * (y9 * 2 + r1) + (x9 * 2) + q2)) ha (by omega) (by omega)) w_X2_40 rfl (by decide) (by decide) (by omega) (by omega) (Nat.le_of_ble_eq_true rfl) (ko_rt ?_)
              show T x 57 [(0, vR a), (1, vI l), (2, vI a9), (3, vI 1), (4, vI x9), (5, vI y9), (6, vI 2), (7, vI c2), (8, vI r1), (9, vI q2), (10, vI (8 * (y9 * 2 + r1) + (x9 * 2) + q2))] [vI (f (64 * l + (8 * (y9 * 2 + r1) + (x9 * 2) + q2)))] _ _ _
              refine st_iload_n C 2 dX2_placesIn_57 rfl rfl ?_
              refine st_icmp_ne (tgt := 64) C dX2_placesIn_58 (by decide) (fun c_58 => ?_) (fun c_58 => ?_)
              · refine st_iinc C dX2_placesIn_64 rfl (by decide) rfl ⟨(by omega), (by omega)⟩ ?_
                show T x 67 [(0, vR a), (1, vI l), (2, vI a9), (3, vI 1), (4, vI x9), (5, vI y9), (6, vI 2), (7, vI c2), (8, vI r1), (9, vI (q2 + 1)), (10, vI (8 * (y9 * 2 + r1) + (x9 * 2) + q2))] [] _ _ _
                refine st_goto (tgt := 21) C dX2_placesIn_67 (by decide) ?_
                refine st_sub [0, 1, 2, 3, 4, 5, 6, 7, 8, 9] rfl ?_
                exact ih_21 c2 (q2 + 1) (by omega) (by omega) (by omega) (by first | exact cntb_t h5 (by assumption) h8 | exact cntb_f h5 (by assumption) h8) (by omega)
              · refine st_iinc C dX2_placesIn_61 rfl (by decide) rfl ⟨(by omega), (by omega)⟩ ?_
                show T x 64 [(0, vR a), (1, vI l), (2, vI a9), (3, vI 1), (4, vI x9), (5, vI y9), (6, vI 2), (7, vI (c2 + 1)), (8, vI r1), (9, vI q2), (10, vI (8 * (y9 * 2 + r1) + (x9 * 2) + q2))] [] _ _ _
                refine st_iinc C dX2_placesIn_64 rfl (by decide) rfl ⟨(by omega), (by omega)⟩ ?_
                show T x 67 [(0, vR a), (1, vI l), (2, vI a9), (3, vI 1), (4, vI x9), (5, vI y9), (6, vI 2), (7, vI (c2 + 1)), (8, vI r1), (9, vI (q2 + 1)), (10, vI (8 * (y9 * 2 + r1) + (x9 * 2) + q2))] [] _ _ _
                refine st_goto (tgt := 21) C dX2_placesIn_67 (by decide) ?_
                refine st_sub [0, 1, 2, 3, 4, 5, 6, 7, 8, 9] rfl ?_
                exact ih_21 (c2 + 1) (q2 + 1) (by omega) (by omega) (by omega) (by first | exact cntb_t h5 (by assumption) h8 | exact cntb_f h5 (by assumption) h8) (by omega)
        exact loop_21 _ c1 0 (by omega) (by omega) (by omega) (cb_0 h4) (Nat.lt_succ_self _)
  exact loop_11 _ 0 0 (by omega) (by omega) (by omega) (sum_0) (Nat.lt_succ_self _)
set_option maxRecDepth 20000 in
set_option maxHeartbeats 4000000 in
theorem k_placesIn2 {g : Gx} {h : HP} {a : Nat} {f : Int → Int} {l a9 x9 y9 : Int} (ha : h a = some (oI 304 f)) (hl : 0 ≤ l ∧ l ≤ 2) (hx : 0 ≤ x9 ∧ x9 ≤ 1) (hy : 0 ≤ y9 ∧ y9 ≤ 1) : Ct g yX2_placesIn (.code yX2_placesIn cX2_placesIn 11 (some .int)) 2 0 0 [vR a, vI l, vI a9, vI 2, vI x9, vI y9] h (Rt (some (vI (pin f l a9 4 x9 y9))) h) := by
  refine Ct.of (by decide) (Nat.le_of_ble_eq_true rfl) (fun x hg C F => ?_)
  subst hg
  show T x 0 [(0, vR a), (1, vI l), (2, vI a9), (3, vI 2), (4, vI x9), (5, vI y9)] [] h 0 0
  refine st_iconst C dX2_placesIn_0 (by decide) ?_
  refine st_iload_n C 3 dX2_placesIn_1 rfl rfl ?_
  refine st_ishl C 2 dX2_placesIn_2 (by omega) (by decide) (by omega) ?_
  show T x 3 [(0, vR a), (1, vI l), (2, vI a9), (3, vI 2), (4, vI x9), (5, vI y9)] [vI (1 * 2 ^ 2)] _ _ _
  refine st_istore C dX2_placesIn_3 (by decide) rfl ?_
  show T x 5 [(0, vR a), (1, vI l), (2, vI a9), (3, vI 2), (4, vI x9), (5, vI y9), (6, vI 4)] [] _ _ _
  refine st_iconst C dX2_placesIn_5 (by decide) ?_
  refine st_istore C dX2_placesIn_6 (by decide) rfl ?_
  show T x 8 [(0, vR a), (1, vI l), (2, vI a9), (3, vI 2), (4, vI x9), (5, vI y9), (6, vI 4), (7, vI 0)] [] _ _ _
  refine st_iconst C dX2_placesIn_8 (by decide) ?_
  refine st_istore C dX2_placesIn_9 (by decide) rfl ?_
  show T x 11 [(0, vR a), (1, vI l), (2, vI a9), (3, vI 2), (4, vI x9), (5, vI y9), (6, vI 4), (7, vI 0), (8, vI 0)] [] _ _ _
  have loop_11 : ∀ (n_11 : Nat) (c1 : Int) (r1 : Int), (0 ≤ r1) → (r1 ≤ 4) → (0 ≤ c1 ∧ c1 ≤ 4 * r1) → (c1 = sum (fun r => cnt (fun q => f (64 * l + (8 * (y9 * 4 + r) + x9 * 4 + q)) = a9) 4) r1) → (4 - r1).toNat < n_11 → T x 11 [(0, vR a), (1, vI l), (2, vI a9), (3, vI 2), (4, vI x9), (5, vI y9), (6, vI 4), (7, vI c1), (8, vI r1)] [] h 0 0 := by
    intro n_11
    induction n_11 with
    | zero => intro c1 r1 h1 h2 h3 h4 hm_11; exact absurd hm_11 (Nat.not_lt_zero _)
    | succ n_11 ih_11 =>
      intro c1 r1 h1 h2 h3 h4 hm_11
      refine st_iload C dX2_placesIn_11 rfl ?_
      refine st_iload C dX2_placesIn_13 rfl ?_
      refine st_icmp_ge (tgt := 76) C dX2_placesIn_15 (by decide) (fun c_15 => ?_) (fun c_15 => ?_)
      · refine st_iload C dX2_placesIn_76 rfl ?_
        exact st_ireturn C F dX2_placesIn_78 rfl (rt_i (sumE h4 (by omega)) rfl) (by omega) (by omega)
      · refine st_iconst C dX2_placesIn_18 (by decide) ?_
        refine st_istore C dX2_placesIn_19 (by decide) rfl ?_
        show T x 21 [(0, vR a), (1, vI l), (2, vI a9), (3, vI 2), (4, vI x9), (5, vI y9), (6, vI 4), (7, vI c1), (8, vI r1), (9, vI 0)] [] _ _ _
        have loop_21 : ∀ (n_21 : Nat) (c2 : Int) (q2 : Int), (0 ≤ q2) → (q2 ≤ 4) → (0 ≤ c2 ∧ c2 ≤ 4 * r1 + q2) → (c2 = sum (fun r => cnt (fun q => f (64 * l + (8 * (y9 * 4 + r) + x9 * 4 + q)) = a9) 4) r1 + cnt (fun q => f (64 * l + (8 * (y9 * 4 + r1) + x9 * 4 + q)) = a9) q2) → (4 - q2).toNat < n_21 → T x 21 [(0, vR a), (1, vI l), (2, vI a9), (3, vI 2), (4, vI x9), (5, vI y9), (6, vI 4), (7, vI c2), (8, vI r1), (9, vI q2)] [] h 0 0 := by
          intro n_21
          induction n_21 with
          | zero => intro c2 q2 h5 h6 h7 h8 hm_21; exact absurd hm_21 (Nat.not_lt_zero _)
          | succ n_21 ih_21 =>
            intro c2 q2 h5 h6 h7 h8 hm_21
            refine st_iload C dX2_placesIn_21 rfl ?_
            refine st_iload C dX2_placesIn_23 rfl ?_
            refine st_icmp_ge (tgt := 70) C dX2_placesIn_25 (by decide) (fun c_25 => ?_) (fun c_25 => ?_)
            · refine st_iinc C dX2_placesIn_70 rfl (by decide) rfl ⟨(by omega), (by omega)⟩ ?_
              show T x 73 [(0, vR a), (1, vI l), (2, vI a9), (3, vI 2), (4, vI x9), (5, vI y9), (6, vI 4), (7, vI c2), (8, vI (r1 + 1)), (9, vI q2)] [] _ _ _
              refine st_goto (tgt := 11) C dX2_placesIn_73 (by decide) ?_
              refine st_sub [0, 1, 2, 3, 4, 5, 6, 7, 8] rfl ?_
              exact ih_11 c2 (r1 + 1) (by omega) (by omega) (by omega) (sumc h1 rfl h8 (by omega)) (by omega)
            · refine st_bipush C dX2_placesIn_28 (by decide) (by decide) ?_
              refine st_iload C dX2_placesIn_30 rfl ?_
              refine st_iload C dX2_placesIn_32 rfl ?_
              refine st_imul C dX2_placesIn_34 ⟨(by omega), (by omega)⟩ ?_
              refine st_iload C dX2_placesIn_35 rfl ?_
              refine st_iadd C dX2_placesIn_37 ⟨(by omega), (by omega)⟩ ?_
              refine st_imul C dX2_placesIn_38 ⟨(by omega), (by omega)⟩ ?_
              refine st_iload C dX2_placesIn_39 rfl ?_
              refine st_iload C dX2_placesIn_41 rfl ?_
              refine st_imul C dX2_placesIn_43 ⟨(by omega), (by omega)⟩ ?_
              refine st_iadd C dX2_placesIn_44 ⟨(by omega), (by omega)⟩ ?_
              refine st_iload C dX2_placesIn_45 rfl ?_
              refine st_iadd C dX2_placesIn_47 ⟨(by omega), (by omega)⟩ ?_
              refine st_istore C dX2_placesIn_48 (by decide) rfl ?_
              show T x 50 [(0, vR a), (1, vI l), (2, vI a9), (3, vI 2), (4, vI x9), (5, vI y9), (6, vI 4), (7, vI c2), (8, vI r1), (9, vI q2), (10, vI (8 * (y9 * 4 + r1) + (x9 * 4) + q2))] [] _ _ _
              refine st_aload_n C 0 dX2_placesIn_50 rfl rfl ?_
              refine st_iload_n C 1 dX2_placesIn_51 rfl rfl ?_
              refine st_iload C dX2_placesIn_52 rfl ?_
              refine st_callS (st := []) C dX2_placesIn_54 [vR a, vI l, vI (8 * (y9 * 4 + r1) + (x9 * 4) + q2)] (k_areaAt (f := f) (l := l) (p := (8 * (y9 * 4 + r1) + (x9 * 4) + q2)) ha (by omega) (by omega)) w_X2_40 rfl (by decide) (by decide) (by omega) (by omega) (Nat.le_of_ble_eq_true rfl) (ko_rt ?_)
              show T x 57 [(0, vR a), (1, vI l), (2, vI a9), (3, vI 2), (4, vI x9), (5, vI y9), (6, vI 4), (7, vI c2), (8, vI r1), (9, vI q2), (10, vI (8 * (y9 * 4 + r1) + (x9 * 4) + q2))] [vI (f (64 * l + (8 * (y9 * 4 + r1) + (x9 * 4) + q2)))] _ _ _
              refine st_iload_n C 2 dX2_placesIn_57 rfl rfl ?_
              refine st_icmp_ne (tgt := 64) C dX2_placesIn_58 (by decide) (fun c_58 => ?_) (fun c_58 => ?_)
              · refine st_iinc C dX2_placesIn_64 rfl (by decide) rfl ⟨(by omega), (by omega)⟩ ?_
                show T x 67 [(0, vR a), (1, vI l), (2, vI a9), (3, vI 2), (4, vI x9), (5, vI y9), (6, vI 4), (7, vI c2), (8, vI r1), (9, vI (q2 + 1)), (10, vI (8 * (y9 * 4 + r1) + (x9 * 4) + q2))] [] _ _ _
                refine st_goto (tgt := 21) C dX2_placesIn_67 (by decide) ?_
                refine st_sub [0, 1, 2, 3, 4, 5, 6, 7, 8, 9] rfl ?_
                exact ih_21 c2 (q2 + 1) (by omega) (by omega) (by omega) (by first | exact cntb_t h5 (by assumption) h8 | exact cntb_f h5 (by assumption) h8) (by omega)
              · refine st_iinc C dX2_placesIn_61 rfl (by decide) rfl ⟨(by omega), (by omega)⟩ ?_
                show T x 64 [(0, vR a), (1, vI l), (2, vI a9), (3, vI 2), (4, vI x9), (5, vI y9), (6, vI 4), (7, vI (c2 + 1)), (8, vI r1), (9, vI q2), (10, vI (8 * (y9 * 4 + r1) + (x9 * 4) + q2))] [] _ _ _
                refine st_iinc C dX2_placesIn_64 rfl (by decide) rfl ⟨(by omega), (by omega)⟩ ?_
                show T x 67 [(0, vR a), (1, vI l), (2, vI a9), (3, vI 2), (4, vI x9), (5, vI y9), (6, vI 4), (7, vI (c2 + 1)), (8, vI r1), (9, vI (q2 + 1)), (10, vI (8 * (y9 * 4 + r1) + (x9 * 4) + q2))] [] _ _ _
                refine st_goto (tgt := 21) C dX2_placesIn_67 (by decide) ?_
                refine st_sub [0, 1, 2, 3, 4, 5, 6, 7, 8, 9] rfl ?_
                exact ih_21 (c2 + 1) (q2 + 1) (by omega) (by omega) (by omega) (by first | exact cntb_t h5 (by assumption) h8 | exact cntb_f h5 (by assumption) h8) (by omega)
        exact loop_21 _ c1 0 (by omega) (by omega) (by omega) (cb_0 h4) (Nat.lt_succ_self _)
  exact loop_11 _ 0 0 (by omega) (by omega) (by omega) (sum_0) (Nat.lt_succ_self _)
set_option maxRecDepth 20000 in
set_option maxHeartbeats 4000000 in
theorem k_placesIn3 {g : Gx} {h : HP} {a : Nat} {f : Int → Int} {l a9 x9 y9 : Int} (ha : h a = some (oI 304 f)) (hl : 0 ≤ l ∧ l ≤ 2) (hx : 0 ≤ x9 ∧ x9 ≤ 0) (hy : 0 ≤ y9 ∧ y9 ≤ 0) : Ct g yX2_placesIn (.code yX2_placesIn cX2_placesIn 11 (some .int)) 2 0 0 [vR a, vI l, vI a9, vI 3, vI x9, vI y9] h (Rt (some (vI (pin f l a9 8 x9 y9))) h) := by
  refine Ct.of (by decide) (Nat.le_of_ble_eq_true rfl) (fun x hg C F => ?_)
  subst hg
  show T x 0 [(0, vR a), (1, vI l), (2, vI a9), (3, vI 3), (4, vI x9), (5, vI y9)] [] h 0 0
  refine st_iconst C dX2_placesIn_0 (by decide) ?_
  refine st_iload_n C 3 dX2_placesIn_1 rfl rfl ?_
  refine st_ishl C 3 dX2_placesIn_2 (by omega) (by decide) (by omega) ?_
  show T x 3 [(0, vR a), (1, vI l), (2, vI a9), (3, vI 3), (4, vI x9), (5, vI y9)] [vI (1 * 2 ^ 3)] _ _ _
  refine st_istore C dX2_placesIn_3 (by decide) rfl ?_
  show T x 5 [(0, vR a), (1, vI l), (2, vI a9), (3, vI 3), (4, vI x9), (5, vI y9), (6, vI 8)] [] _ _ _
  refine st_iconst C dX2_placesIn_5 (by decide) ?_
  refine st_istore C dX2_placesIn_6 (by decide) rfl ?_
  show T x 8 [(0, vR a), (1, vI l), (2, vI a9), (3, vI 3), (4, vI x9), (5, vI y9), (6, vI 8), (7, vI 0)] [] _ _ _
  refine st_iconst C dX2_placesIn_8 (by decide) ?_
  refine st_istore C dX2_placesIn_9 (by decide) rfl ?_
  show T x 11 [(0, vR a), (1, vI l), (2, vI a9), (3, vI 3), (4, vI x9), (5, vI y9), (6, vI 8), (7, vI 0), (8, vI 0)] [] _ _ _
  have loop_11 : ∀ (n_11 : Nat) (c1 : Int) (r1 : Int), (0 ≤ r1) → (r1 ≤ 8) → (0 ≤ c1 ∧ c1 ≤ 8 * r1) → (c1 = sum (fun r => cnt (fun q => f (64 * l + (8 * (y9 * 8 + r) + x9 * 8 + q)) = a9) 8) r1) → (8 - r1).toNat < n_11 → T x 11 [(0, vR a), (1, vI l), (2, vI a9), (3, vI 3), (4, vI x9), (5, vI y9), (6, vI 8), (7, vI c1), (8, vI r1)] [] h 0 0 := by
    intro n_11
    induction n_11 with
    | zero => intro c1 r1 h1 h2 h3 h4 hm_11; exact absurd hm_11 (Nat.not_lt_zero _)
    | succ n_11 ih_11 =>
      intro c1 r1 h1 h2 h3 h4 hm_11
      refine st_iload C dX2_placesIn_11 rfl ?_
      refine st_iload C dX2_placesIn_13 rfl ?_
      refine st_icmp_ge (tgt := 76) C dX2_placesIn_15 (by decide) (fun c_15 => ?_) (fun c_15 => ?_)
      · refine st_iload C dX2_placesIn_76 rfl ?_
        exact st_ireturn C F dX2_placesIn_78 rfl (rt_i (sumE h4 (by omega)) rfl) (by omega) (by omega)
      · refine st_iconst C dX2_placesIn_18 (by decide) ?_
        refine st_istore C dX2_placesIn_19 (by decide) rfl ?_
        show T x 21 [(0, vR a), (1, vI l), (2, vI a9), (3, vI 3), (4, vI x9), (5, vI y9), (6, vI 8), (7, vI c1), (8, vI r1), (9, vI 0)] [] _ _ _
        have loop_21 : ∀ (n_21 : Nat) (c2 : Int) (q2 : Int), (0 ≤ q2) → (q2 ≤ 8) → (0 ≤ c2 ∧ c2 ≤ 8 * r1 + q2) → (c2 = sum (fun r => cnt (fun q => f (64 * l + (8 * (y9 * 8 + r) + x9 * 8 + q)) = a9) 8) r1 + cnt (fun q => f (64 * l + (8 * (y9 * 8 + r1) + x9 * 8 + q)) = a9) q2) → (8 - q2).toNat < n_21 → T x 21 [(0, vR a), (1, vI l), (2, vI a9), (3, vI 3), (4, vI x9), (5, vI y9), (6, vI 8), (7, vI c2), (8, vI r1), (9, vI q2)] [] h 0 0 := by
          intro n_21
          induction n_21 with
          | zero => intro c2 q2 h5 h6 h7 h8 hm_21; exact absurd hm_21 (Nat.not_lt_zero _)
          | succ n_21 ih_21 =>
            intro c2 q2 h5 h6 h7 h8 hm_21
            refine st_iload C dX2_placesIn_21 rfl ?_
            refine st_iload C dX2_placesIn_23 rfl ?_
            refine st_icmp_ge (tgt := 70) C dX2_placesIn_25 (by decide) (fun c_25 => ?_) (fun c_25 => ?_)
            · refine st_iinc C dX2_placesIn_70 rfl (by decide) rfl ⟨(by omega), (by omega)⟩ ?_
              show T x 73 [(0, vR a), (1, vI l), (2, vI a9), (3, vI 3), (4, vI x9), (5, vI y9), (6, vI 8), (7, vI c2), (8, vI (r1 + 1)), (9, vI q2)] [] _ _ _
              refine st_goto (tgt := 11) C dX2_placesIn_73 (by decide) ?_
              refine st_sub [0, 1, 2, 3, 4, 5, 6, 7, 8] rfl ?_
              exact ih_11 c2 (r1 + 1) (by omega) (by omega) (by omega) (sumc h1 rfl h8 (by omega)) (by omega)
            · refine st_bipush C dX2_placesIn_28 (by decide) (by decide) ?_
              refine st_iload C dX2_placesIn_30 rfl ?_
              refine st_iload C dX2_placesIn_32 rfl ?_
              refine st_imul C dX2_placesIn_34 ⟨(by omega), (by omega)⟩ ?_
              refine st_iload C dX2_placesIn_35 rfl ?_
              refine st_iadd C dX2_placesIn_37 ⟨(by omega), (by omega)⟩ ?_
              refine st_imul C dX2_placesIn_38 ⟨(by omega), (by omega)⟩ ?_
              refine st_iload C dX2_placesIn_39 rfl ?_
              refine st_iload C dX2_placesIn_41 rfl ?_
              refine st_imul C dX2_placesIn_43 ⟨(by omega), (by omega)⟩ ?_
              refine st_iadd C dX2_placesIn_44 ⟨(by omega), (by omega)⟩ ?_
              refine st_iload C dX2_placesIn_45 rfl ?_
              refine st_iadd C dX2_placesIn_47 ⟨(by omega), (by omega)⟩ ?_
              refine st_istore C dX2_placesIn_48 (by decide) rfl ?_
              show T x 50 [(0, vR a), (1, vI l), (2, vI a9), (3, vI 3), (4, vI x9), (5, vI y9), (6, vI 8), (7, vI c2), (8, vI r1), (9, vI q2), (10, vI (8 * (y9 * 8 + r1) + (x9 * 8) + q2))] [] _ _ _
              refine st_aload_n C 0 dX2_placesIn_50 rfl rfl ?_
              refine st_iload_n C 1 dX2_placesIn_51 rfl rfl ?_
              refine st_iload C dX2_placesIn_52 rfl ?_
              refine st_callS (st := []) C dX2_placesIn_54 [vR a, vI l, vI (8 * (y9 * 8 + r1) + (x9 * 8) + q2)] (k_areaAt (f := f) (l := l) (p := (8 * (y9 * 8 + r1) + (x9 * 8) + q2)) ha (by omega) (by omega)) w_X2_40 rfl (by decide) (by decide) (by omega) (by omega) (Nat.le_of_ble_eq_true rfl) (ko_rt ?_)
              show T x 57 [(0, vR a), (1, vI l), (2, vI a9), (3, vI 3), (4, vI x9), (5, vI y9), (6, vI 8), (7, vI c2), (8, vI r1), (9, vI q2), (10, vI (8 * (y9 * 8 + r1) + (x9 * 8) + q2))] [vI (f (64 * l + (8 * (y9 * 8 + r1) + (x9 * 8) + q2)))] _ _ _
              refine st_iload_n C 2 dX2_placesIn_57 rfl rfl ?_
              refine st_icmp_ne (tgt := 64) C dX2_placesIn_58 (by decide) (fun c_58 => ?_) (fun c_58 => ?_)
              · refine st_iinc C dX2_placesIn_64 rfl (by decide) rfl ⟨(by omega), (by omega)⟩ ?_
                show T x 67 [(0, vR a), (1, vI l), (2, vI a9), (3, vI 3), (4, vI x9), (5, vI y9), (6, vI 8), (7, vI c2), (8, vI r1), (9, vI (q2 + 1)), (10, vI (8 * (y9 * 8 + r1) + (x9 * 8) + q2))] [] _ _ _
                refine st_goto (tgt := 21) C dX2_placesIn_67 (by decide) ?_
                refine st_sub [0, 1, 2, 3, 4, 5, 6, 7, 8, 9] rfl ?_
                exact ih_21 c2 (q2 + 1) (by omega) (by omega) (by omega) (by first | exact cntb_t h5 (by assumption) h8 | exact cntb_f h5 (by assumption) h8) (by omega)
              · refine st_iinc C dX2_placesIn_61 rfl (by decide) rfl ⟨(by omega), (by omega)⟩ ?_
                show T x 64 [(0, vR a), (1, vI l), (2, vI a9), (3, vI 3), (4, vI x9), (5, vI y9), (6, vI 8), (7, vI (c2 + 1)), (8, vI r1), (9, vI q2), (10, vI (8 * (y9 * 8 + r1) + (x9 * 8) + q2))] [] _ _ _
                refine st_iinc C dX2_placesIn_64 rfl (by decide) rfl ⟨(by omega), (by omega)⟩ ?_
                show T x 67 [(0, vR a), (1, vI l), (2, vI a9), (3, vI 3), (4, vI x9), (5, vI y9), (6, vI 8), (7, vI (c2 + 1)), (8, vI r1), (9, vI (q2 + 1)), (10, vI (8 * (y9 * 8 + r1) + (x9 * 8) + q2))] [] _ _ _
                refine st_goto (tgt := 21) C dX2_placesIn_67 (by decide) ?_
                refine st_sub [0, 1, 2, 3, 4, 5, 6, 7, 8, 9] rfl ?_
                exact ih_21 (c2 + 1) (q2 + 1) (by omega) (by omega) (by omega) (by first | exact cntb_t h5 (by assumption) h8 | exact cntb_f h5 (by assumption) h8) (by omega)
        exact loop_21 _ c1 0 (by omega) (by omega) (by omega) (cb_0 h4) (Nat.lt_succ_self _)
  exact loop_11 _ 0 0 (by omega) (by omega) (by omega) (sum_0) (Nat.lt_succ_self _)
set_option maxRecDepth 20000 in
set_option maxHeartbeats 4000000 in
theorem k_placesOf {g : Gx} {h : HP} {a : Nat} {f : Int → Int} {l a9 : Int} (ha : h a = some (oI 304 f)) (hl : 0 ≤ l ∧ l ≤ 2) : Ct g yX2_placesOf (.code yX2_placesOf cX2_placesOf 3 (some .int)) 3 0 0 [vR a, vI l, vI a9] h (Rt (some (vI (pin f l a9 8 0 0))) h) := by
  refine Ct.of (by decide) (Nat.le_of_ble_eq_true rfl) (fun x hg C F => ?_)
  subst hg
  show T x 0 [(0, vR a), (1, vI l), (2, vI a9)] [] h 0 0
  refine st_aload_n C 0 dX2_placesOf_0 rfl rfl ?_
  refine st_iload_n C 1 dX2_placesOf_1 rfl rfl ?_
  refine st_iload_n C 2 dX2_placesOf_2 rfl rfl ?_
  refine st_iconst C dX2_placesOf_3 (by decide) ?_
  refine st_iconst C dX2_placesOf_4 (by decide) ?_
  refine st_iconst C dX2_placesOf_5 (by decide) ?_
  refine st_callS (st := []) C dX2_placesOf_6 [vR a, vI l, vI a9, vI 3, vI 0, vI 0] (k_placesIn3 (f := f) (l := l) (a9 := a9) (x9 := 0) (y9 := 0) ha (by omega) (by omega) (by omega)) w_X2_36 rfl (by decide) (by decide) (by omega) (by omega) (Nat.le_of_ble_eq_true rfl) (ko_rt ?_)
  show T x 9 [(0, vR a), (1, vI l), (2, vI a9)] [vI (pin f l a9 8 0 0)] _ _ _
  exact st_ireturn C F dX2_placesOf_9 rfl ⟨rfl, rfl⟩ (by omega) (by omega)
set_option maxRecDepth 20000 in
set_option maxHeartbeats 4000000 in
theorem k_firstPlaceOf {g : Gx} {h : HP} {a : Nat} {f : Int → Int} {l a9 r9 : Int} (ha : h a = some (oI 304 f)) (hl : 0 ≤ l ∧ l ≤ 2) (hr : IsFirst (fun j => f (64 * l + j) = a9) 64 r9) : Ct g yX2_firstPlaceOf (.code yX2_firstPlaceOf cX2_firstPlaceOf 4 (some .int)) 2 0 0 [vR a, vI l, vI a9] h (Rt (some (vI r9)) h) := by
  refine Ct.of (by decide) (Nat.le_of_ble_eq_true rfl) (fun x hg C F => ?_)
  subst hg
  show T x 0 [(0, vR a), (1, vI l), (2, vI a9)] [] h 0 0
  refine st_iconst C dX2_firstPlaceOf_0 (by decide) ?_
  refine st_istore_n C 3 dX2_firstPlaceOf_1 rfl (by decide) rfl ?_
  show T x 2 [(0, vR a), (1, vI l), (2, vI a9), (3, vI 0)] [] _ _ _
  have loop_2 : ∀ (n_2 : Nat) (i : Int), (0 ≤ i) → (i ≤ 64) → (∀ j, 0 ≤ j → j < i → ¬ f (64 * l + j) = a9) → (64 - i).toNat < n_2 → T x 2 [(0, vR a), (1, vI l), (2, vI a9), (3, vI i)] [] h 0 0 := by
    intro n_2
    induction n_2 with
    | zero => intro i h1 h2 h3 hm_2; exact absurd hm_2 (Nat.not_lt_zero _)
    | succ n_2 ih_2 =>
      intro i h1 h2 h3 hm_2
      refine st_iload_n C 3 dX2_firstPlaceOf_2 rfl rfl ?_
      refine st_bipush C dX2_firstPlaceOf_3 (by decide) (by decide) ?_
      refine st_icmp_ge (tgt := 26) C dX2_firstPlaceOf_5 (by decide) (fun c_5 => ?_) (fun c_5 => ?_)
      · refine st_iconst C dX2_firstPlaceOf_26 (by decide) ?_
        exact st_ireturn C F dX2_firstPlaceOf_27 rfl (rt_i (first_no (by omega) h3 hr) rfl) (by omega) (by omega)
      · refine st_aload_n C 0 dX2_firstPlaceOf_8 rfl rfl ?_
        refine st_iload_n C 1 dX2_firstPlaceOf_9 rfl rfl ?_
        refine st_iload_n C 3 dX2_firstPlaceOf_10 rfl rfl ?_
        refine st_callS (st := []) C dX2_firstPlaceOf_11 [vR a, vI l, vI i] (k_areaAt (f := f) (l := l) (p := i) ha (by omega) (by omega)) w_X2_40 rfl (by decide) (by decide) (by omega) (by omega) (Nat.le_of_ble_eq_true rfl) (ko_rt ?_)
        show T x 14 [(0, vR a), (1, vI l), (2, vI a9), (3, vI i)] [vI (f (64 * l + i))] _ _ _
        refine st_iload_n C 2 dX2_firstPlaceOf_14 rfl rfl ?_
        refine st_icmp_ne (tgt := 20) C dX2_firstPlaceOf_15 (by decide) (fun c_15 => ?_) (fun c_15 => ?_)
        · refine st_iinc C dX2_firstPlaceOf_20 rfl (by decide) rfl ⟨(by omega), (by omega)⟩ ?_
          show T x 23 [(0, vR a), (1, vI l), (2, vI a9), (3, vI (i + 1))] [] _ _ _
          refine st_goto (tgt := 2) C dX2_firstPlaceOf_23 (by decide) ?_
          exact ih_2 (i + 1) (by omega) (by omega) (no_s h3 (by assumption)) (by omega)
        · refine st_iload_n C 3 dX2_firstPlaceOf_18 rfl rfl ?_
          exact st_ireturn C F dX2_firstPlaceOf_19 rfl (rt_i (first_at h1 (by omega) h3 (by assumption) hr) rfl) (by omega) (by omega)
  exact loop_2 _ 0 (by omega) (by omega) (no_0) (Nat.lt_succ_self _)
/-- a square of side s is not of one area -/
def MixP (f : Int → Int) (l s x9 y9 : Int) : Prop := pin f l (f (64 * l + (8 * y9 * s + x9 * s))) s x9 y9 < s * s
noncomputable def mixed (f : Int → Int) (l s : Int) : Int := sum (fun r => cnt (fun q => MixP f l s q r) (8 / s)) (8 / s)
set_option maxRecDepth 20000 in
set_option maxHeartbeats 4000000 in
theorem k_mixed1 {g : Gx} {h : HP} {a : Nat} {f : Int → Int} {l : Int} (ha : h a = some (oI 304 f)) (hl : 0 ≤ l ∧ l ≤ 2) : Ct g yX2_mixedSquares (.code yX2_mixedSquares cX2_mixedSquares 9 (some .int)) 3 0 0 [vR a, vI l, vI 1] h (Rt (some (vI (mixed f l 2))) h) := by
  refine Ct.of (by decide) (Nat.le_of_ble_eq_true rfl) (fun x hg C F => ?_)
  subst hg
  show T x 0 [(0, vR a), (1, vI l), (2, vI 1)] [] h 0 0
  refine st_bipush C dX2_mixedSquares_0 (by decide) (by decide) ?_
  refine st_iload_n C 2 dX2_mixedSquares_2 rfl rfl ?_
  refine st_ishr C 1 dX2_mixedSquares_3 (by omega) (by decide) ?_
  show T x 4 [(0, vR a), (1, vI l), (2, vI 1)] [vI (8 / 2 ^ 1)] _ _ _
  refine st_istore_n C 3 dX2_mixedSquares_4 rfl (by decide) rfl ?_
  show T x 5 [(0, vR a), (1, vI l), (2, vI 1), (3, vI (8 / 2 ^ 1))] [] _ _ _
  refine st_iconst C dX2_mixedSquares_5 (by decide) ?_
  refine st_iload_n C 2 dX2_mixedSquares_6 rfl rfl ?_
  refine st_ishl C 1 dX2_mixedSquares_7 (by omega) (by decide) (by omega) ?_
  show T x 8 [(0, vR a), (1, vI l), (2, vI 1), (3, vI (8 / 2 ^ 1))] [vI (1 * 2 ^ 1)] _ _ _
  refine st_istore C dX2_mixedSquares_8 (by decide) rfl ?_
  show T x 10 [(0, vR a), (1, vI l), (2, vI 1), (3, vI (8 / 2 ^ 1)), (4, vI 2)] [] _ _ _
  refine st_iconst C dX2_mixedSquares_10 (by decide) ?_
  refine st_istore C dX2_mixedSquares_11 (by decide) rfl ?_
  show T x 13 [(0, vR a), (1, vI l), (2, vI 1), (3, vI (8 / 2 ^ 1)), (4, vI 2), (5, vI 0)] [] _ _ _
  refine st_iconst C dX2_mixedSquares_13 (by decide) ?_
  refine st_istore C dX2_mixedSquares_14 (by decide) rfl ?_
  show T x 16 [(0, vR a), (1, vI l), (2, vI 1), (3, vI (8 / 2 ^ 1)), (4, vI 2), (5, vI 0), (6, vI 0)] [] _ _ _
  have loop_16 : ∀ (n_16 : Nat) (c1 : Int) (r1 : Int), (0 ≤ r1) → (r1 ≤ 4) → (0 ≤ c1 ∧ c1 ≤ 4 * r1) → (c1 = sum (fun r => cnt (fun q => MixP f l 2 q r) 4) r1) → (4 - r1).toNat < n_16 → T x 16 [(0, vR a), (1, vI l), (2, vI 1), (3, vI (8 / 2 ^ 1)), (4, vI 2), (5, vI c1), (6, vI r1)] [] h 0 0 := by
    intro n_16
    induction n_16 with
    | zero => intro c1 r1 h1 h2 h3 h4 hm_16; exact absurd hm_16 (Nat.not_lt_zero _)
    | succ n_16 ih_16 =>
      intro c1 r1 h1 h2 h3 h4 hm_16
      refine st_iload C dX2_mixedSquares_16 rfl ?_
      refine st_iload_n C 3 dX2_mixedSquares_18 rfl rfl ?_
      refine st_icmp_ge (tgt := 87) C dX2_mixedSquares_19 (by decide) (fun c_19 => ?_) (fun c_19 => ?_)
      · refine st_iload C dX2_mixedSquares_87 rfl ?_
        exact st_ireturn C F dX2_mixedSquares_89 rfl (rt_i (sumE h4 (by omega)) rfl) (by omega) (by omega)
      · refine st_iconst C dX2_mixedSquares_22 (by decide) ?_
        refine st_istore C dX2_mixedSquares_23 (by decide) rfl ?_
        show T x 25 [(0, vR a), (1, vI l), (2, vI 1), (3, vI (8 / 2 ^ 1)), (4, vI 2), (5, vI c1), (6, vI r1), (7, vI 0)] [] _ _ _
        have loop_25 : ∀ (n_25 : Nat) (c2 : Int) (q2 : Int), (0 ≤ q2) → (q2 ≤ 4) → (0 ≤ c2 ∧ c2 ≤ 4 * r1 + q2) → (c2 = sum (fun r => cnt (fun q => MixP f l 2 q r) 4) r1 + cnt (fun q => MixP f l 2 q r1) q2) → (4 - q2).toNat < n_25 → T x 25 [(0, vR a), (1, vI l), (2, vI 1), (3, vI (8 / 2 ^ 1)), (4, vI 2), (5, vI c2), (6, vI r1), (7, vI q2)] [] h 0 0 := by
          intro n_25
          induction n_25 with
          | zero => intro c2 q2 h5 h6 h7 h8 hm_25; exact absurd hm_25 (Nat.not_lt_zero _)
          | succ n_25 ih_25 =>
            intro c2 q2 h5 h6 h7 h8 hm_25
            refine st_iload C dX2_mixedSquares_25 rfl ?_
            refine st_iload_n C 3 dX2_mixedSquares_27 rfl rfl ?_
            refine st_icmp_ge (tgt := 81) C dX2_mixedSquares_28 (by decide) (fun c_28 => ?_) (fun c_28 => ?_)
            · refine st_iinc C dX2_mixedSquares_81 rfl (by decide) rfl ⟨(by omega), (by omega)⟩ ?_
              show T x 84 [(0, vR a), (1, vI l), (2, vI 1), (3, vI (8 / 2 ^ 1)), (4, vI 2), (5, vI c2), (6, vI (r1 + 1)), (7, vI q2)] [] _ _ _
              refine st_goto (tgt := 16) C dX2_mixedSquares_84 (by decide) ?_
              refine st_sub [0, 1, 2, 3, 4, 5, 6] rfl ?_
              exact ih_16 c2 (r1 + 1) (by omega) (by omega) (by omega) (sumc h1 rfl h8 (by omega)) (by omega)
            · refine st_aload_n C 0 dX2_mixedSquares_31 rfl rfl ?_
              refine st_iload_n C 1 dX2_mixedSquares_32 rfl rfl ?_
              refine st_bipush C dX2_mixedSquares_33 (by decide) (by decide) ?_
              refine st_iload C dX2_mixedSquares_35 rfl ?_
              refine st_imul C dX2_mixedSquares_37 ⟨(by omega), (by omega)⟩ ?_
              refine st_iload C dX2_mixedSquares_38 rfl ?_
              refine st_imul C dX2_mixedSquares_40 ⟨(by omega), (by omega)⟩ ?_
              refine st_iload C dX2_mixedSquares_41 rfl ?_
              refine st_iload C dX2_mixedSquares_43 rfl ?_
              refine st_imul C dX2_mixedSquares_45 ⟨(by omega), (by omega)⟩ ?_
              refine st_iadd C dX2_mixedSquares_46 ⟨(by omega), (by omega)⟩ ?_
              refine st_callS (st := []) C dX2_mixedSquares_47 [vR a, vI l, vI ((8 * r1) * 2 + (q2 * 2))] (k_areaAt (f := f) (l := l) (p := ((8 * r1) * 2 + (q2 * 2))) ha (by omega) (by omega)) w_X2_40 rfl (by decide) (by decide) (by omega) (by omega) (Nat.le_of_ble_eq_true rfl) (ko_rt ?_)
              show T x 50 [(0, vR a), (1, vI l), (2, vI 1), (3, vI (8 / 2 ^ 1)), (4, vI 2), (5, vI c2), (6, vI r1), (7, vI q2)] [vI (f (64 * l + ((8 * r1) * 2 + (q2 * 2))))] _ _ _
              refine st_istore C dX2_mixedSquares_50 (by decide) rfl ?_
              show T x 52 [(0, vR a), (1, vI l), (2, vI 1), (3, vI (8 / 2 ^ 1)), (4, vI 2), (5, vI c2), (6, vI r1), (7, vI q2), (8, vI (f (64 * l + ((8 * r1) * 2 + (q2 * 2)))))] [] _ _ _
              refine st_aload_n C 0 dX2_mixedSquares_52 rfl rfl ?_
              refine st_iload_n C 1 dX2_mixedSquares_53 rfl rfl ?_
              refine st_iload C dX2_mixedSquares_54 rfl ?_
              refine st_iload_n C 2 dX2_mixedSquares_56 rfl rfl ?_
              refine st_iload C dX2_mixedSquares_57 rfl ?_
              refine st_iload C dX2_mixedSquares_59 rfl ?_
              refine st_callS (st := []) C dX2_mixedSquares_61 [vR a, vI l, vI (f (64 * l + ((8 * r1) * 2 + (q2 * 2)))), vI 1, vI q2, vI r1] (k_placesIn1 (f := f) (l := l) (a9 := (f (64 * l + ((8 * r1) * 2 + (q2 * 2))))) (x9 := q2) (y9 := r1) ha (by omega) (by omega) (by omega)) w_X2_36 rfl (by decide) (by decide) (by omega) (by omega) (Nat.le_of_ble_eq_true rfl) (ko_rt ?_)
              show T x 64 [(0, vR a), (1, vI l), (2, vI 1), (3, vI (8 / 2 ^ 1)), (4, vI 2), (5, vI c2), (6, vI r1), (7, vI q2), (8, vI (f (64 * l + ((8 * r1) * 2 + (q2 * 2)))))] [vI (pin f l (f (64 * l + ((8 * r1) * 2 + (q2 * 2)))) 2 q2 r1)] _ _ _
              refine st_iload C dX2_mixedSquares_64 rfl ?_
              refine st_iload C dX2_mixedSquares_66 rfl ?_
              refine st_imul C dX2_mixedSquares_68 ⟨(by omega), (by omega)⟩ ?_
              refine st_icmp_ge (tgt := 75) C dX2_mixedSquares_69 (by decide) (fun c_69 => ?_) (fun c_69 => ?_)
              · refine st_iinc C dX2_mixedSquares_75 rfl (by decide) rfl ⟨(by omega), (by omega)⟩ ?_
                show T x 78 [(0, vR a), (1, vI l), (2, vI 1), (3, vI (8 / 2 ^ 1)), (4, vI 2), (5, vI c2), (6, vI r1), (7, vI (q2 + 1)), (8, vI (f (64 * l + ((8 * r1) * 2 + (q2 * 2)))))] [] _ _ _
                refine st_goto (tgt := 25) C dX2_mixedSquares_78 (by decide) ?_
                refine st_sub [0, 1, 2, 3, 4, 5, 6, 7] rfl ?_
                exact ih_25 c2 (q2 + 1) (by omega) (by omega) (by omega) (by first | exact cntb_t h5 (by unfold MixP; omega) h8 | exact cntb_f h5 (by unfold MixP; omega) h8) (by omega)
              · refine st_iinc C dX2_mixedSquares_72 rfl (by decide) rfl ⟨(by omega), (by omega)⟩ ?_
                show T x 75 [(0, vR a), (1, vI l), (2, vI 1), (3, vI (8 / 2 ^ 1)), (4, vI 2), (5, vI (c2 + 1)), (6, vI r1), (7, vI q2), (8, vI (f (64 * l + ((8 * r1) * 2 + (q2 * 2)))))] [] _ _ _
                refine st_iinc C dX2_mixedSquares_75 rfl (by decide) rfl ⟨(by omega), (by omega)⟩ ?_
                show T x 78 [(0, vR a), (1, vI l), (2, vI 1), (3, vI (8 / 2 ^ 1)), (4, vI 2), (5, vI (c2 + 1)), (6, vI r1), (7, vI (q2 + 1)), (8, vI (f (64 * l + ((8 * r1) * 2 + (q2 * 2)))))] [] _ _ _
                refine st_goto (tgt := 25) C dX2_mixedSquares_78 (by decide) ?_
                refine st_sub [0, 1, 2, 3, 4, 5, 6, 7] rfl ?_
                exact ih_25 (c2 + 1) (q2 + 1) (by omega) (by omega) (by omega) (by first | exact cntb_t h5 (by unfold MixP; omega) h8 | exact cntb_f h5 (by unfold MixP; omega) h8) (by omega)
        exact loop_25 _ c1 0 (by omega) (by omega) (by omega) (cb_0 h4) (Nat.lt_succ_self _)
  exact loop_16 _ 0 0 (by omega) (by omega) (by omega) (sum_0) (Nat.lt_succ_self _)
set_option maxRecDepth 20000 in
set_option maxHeartbeats 4000000 in
theorem k_mixed2 {g : Gx} {h : HP} {a : Nat} {f : Int → Int} {l : Int} (ha : h a = some (oI 304 f)) (hl : 0 ≤ l ∧ l ≤ 2) : Ct g yX2_mixedSquares (.code yX2_mixedSquares cX2_mixedSquares 9 (some .int)) 3 0 0 [vR a, vI l, vI 2] h (Rt (some (vI (mixed f l 4))) h) := by
  refine Ct.of (by decide) (Nat.le_of_ble_eq_true rfl) (fun x hg C F => ?_)
  subst hg
  show T x 0 [(0, vR a), (1, vI l), (2, vI 2)] [] h 0 0
  refine st_bipush C dX2_mixedSquares_0 (by decide) (by decide) ?_
  refine st_iload_n C 2 dX2_mixedSquares_2 rfl rfl ?_
  refine st_ishr C 2 dX2_mixedSquares_3 (by omega) (by decide) ?_
  show T x 4 [(0, vR a), (1, vI l), (2, vI 2)] [vI (8 / 2 ^ 2)] _ _ _
  refine st_istore_n C 3 dX2_mixedSquares_4 rfl (by decide) rfl ?_
  show T x 5 [(0, vR a), (1, vI l), (2, vI 2), (3, vI (8 / 2 ^ 2))] [] _ _ _
  refine st_iconst C dX2_mixedSquares_5 (by decide) ?_
  refine st_iload_n C 2 dX2_mixedSquares_6 rfl rfl ?_
  refine st_ishl C 2 dX2_mixedSquares_7 (by omega) (by decide) (by omega) ?_
  show T x 8 [(0, vR a), (1, vI l), (2, vI 2), (3, vI (8 / 2 ^ 2))] [vI (1 * 2 ^ 2)] _ _ _
  refine st_istore C dX2_mixedSquares_8 (by decide) rfl ?_
  show T x 10 [(0, vR a), (1, vI l), (2, vI 2), (3, vI (8 / 2 ^ 2)), (4, vI 4)] [] _ _ _
  refine st_iconst C dX2_mixedSquares_10 (by decide) ?_
  refine st_istore C dX2_mixedSquares_11 (by decide) rfl ?_
  show T x 13 [(0, vR a), (1, vI l), (2, vI 2), (3, vI (8 / 2 ^ 2)), (4, vI 4), (5, vI 0)] [] _ _ _
  refine st_iconst C dX2_mixedSquares_13 (by decide) ?_
  refine st_istore C dX2_mixedSquares_14 (by decide) rfl ?_
  show T x 16 [(0, vR a), (1, vI l), (2, vI 2), (3, vI (8 / 2 ^ 2)), (4, vI 4), (5, vI 0), (6, vI 0)] [] _ _ _
  have loop_16 : ∀ (n_16 : Nat) (c1 : Int) (r1 : Int), (0 ≤ r1) → (r1 ≤ 2) → (0 ≤ c1 ∧ c1 ≤ 2 * r1) → (c1 = sum (fun r => cnt (fun q => MixP f l 4 q r) 2) r1) → (2 - r1).toNat < n_16 → T x 16 [(0, vR a), (1, vI l), (2, vI 2), (3, vI (8 / 2 ^ 2)), (4, vI 4), (5, vI c1), (6, vI r1)] [] h 0 0 := by
    intro n_16
    induction n_16 with
    | zero => intro c1 r1 h1 h2 h3 h4 hm_16; exact absurd hm_16 (Nat.not_lt_zero _)
    | succ n_16 ih_16 =>
      intro c1 r1 h1 h2 h3 h4 hm_16
      refine st_iload C dX2_mixedSquares_16 rfl ?_
      refine st_iload_n C 3 dX2_mixedSquares_18 rfl rfl ?_
      refine st_icmp_ge (tgt := 87) C dX2_mixedSquares_19 (by decide) (fun c_19 => ?_) (fun c_19 => ?_)
      · refine st_iload C dX2_mixedSquares_87 rfl ?_
        exact st_ireturn C F dX2_mixedSquares_89 rfl (rt_i (sumE h4 (by omega)) rfl) (by omega) (by omega)
      · refine st_iconst C dX2_mixedSquares_22 (by decide) ?_
        refine st_istore C dX2_mixedSquares_23 (by decide) rfl ?_
        show T x 25 [(0, vR a), (1, vI l), (2, vI 2), (3, vI (8 / 2 ^ 2)), (4, vI 4), (5, vI c1), (6, vI r1), (7, vI 0)] [] _ _ _
        have loop_25 : ∀ (n_25 : Nat) (c2 : Int) (q2 : Int), (0 ≤ q2) → (q2 ≤ 2) → (0 ≤ c2 ∧ c2 ≤ 2 * r1 + q2) → (c2 = sum (fun r => cnt (fun q => MixP f l 4 q r) 2) r1 + cnt (fun q => MixP f l 4 q r1) q2) → (2 - q2).toNat < n_25 → T x 25 [(0, vR a), (1, vI l), (2, vI 2), (3, vI (8 / 2 ^ 2)), (4, vI 4), (5, vI c2), (6, vI r1), (7, vI q2)] [] h 0 0 := by
          intro n_25
          induction n_25 with
          | zero => intro c2 q2 h5 h6 h7 h8 hm_25; exact absurd hm_25 (Nat.not_lt_zero _)
          | succ n_25 ih_25 =>
            intro c2 q2 h5 h6 h7 h8 hm_25
            refine st_iload C dX2_mixedSquares_25 rfl ?_
            refine st_iload_n C 3 dX2_mixedSquares_27 rfl rfl ?_
            refine st_icmp_ge (tgt := 81) C dX2_mixedSquares_28 (by decide) (fun c_28 => ?_) (fun c_28 => ?_)
            · refine st_iinc C dX2_mixedSquares_81 rfl (by decide) rfl ⟨(by omega), (by omega)⟩ ?_
              show T x 84 [(0, vR a), (1, vI l), (2, vI 2), (3, vI (8 / 2 ^ 2)), (4, vI 4), (5, vI c2), (6, vI (r1 + 1)), (7, vI q2)] [] _ _ _
              refine st_goto (tgt := 16) C dX2_mixedSquares_84 (by decide) ?_
              refine st_sub [0, 1, 2, 3, 4, 5, 6] rfl ?_
              exact ih_16 c2 (r1 + 1) (by omega) (by omega) (by omega) (sumc h1 rfl h8 (by omega)) (by omega)
            · refine st_aload_n C 0 dX2_mixedSquares_31 rfl rfl ?_
              refine st_iload_n C 1 dX2_mixedSquares_32 rfl rfl ?_
              refine st_bipush C dX2_mixedSquares_33 (by decide) (by decide) ?_
              refine st_iload C dX2_mixedSquares_35 rfl ?_
              refine st_imul C dX2_mixedSquares_37 ⟨(by omega), (by omega)⟩ ?_
              refine st_iload C dX2_mixedSquares_38 rfl ?_
              refine st_imul C dX2_mixedSquares_40 ⟨(by omega), (by omega)⟩ ?_
              refine st_iload C dX2_mixedSquares_41 rfl ?_
              refine st_iload C dX2_mixedSquares_43 rfl ?_
              refine st_imul C dX2_mixedSquares_45 ⟨(by omega), (by omega)⟩ ?_
              refine st_iadd C dX2_mixedSquares_46 ⟨(by omega), (by omega)⟩ ?_
              refine st_callS (st := []) C dX2_mixedSquares_47 [vR a, vI l, vI ((8 * r1) * 4 + (q2 * 4))] (k_areaAt (f := f) (l := l) (p := ((8 * r1) * 4 + (q2 * 4))) ha (by omega) (by omega)) w_X2_40 rfl (by decide) (by decide) (by omega) (by omega) (Nat.le_of_ble_eq_true rfl) (ko_rt ?_)
              show T x 50 [(0, vR a), (1, vI l), (2, vI 2), (3, vI (8 / 2 ^ 2)), (4, vI 4), (5, vI c2), (6, vI r1), (7, vI q2)] [vI (f (64 * l + ((8 * r1) * 4 + (q2 * 4))))] _ _ _
              refine st_istore C dX2_mixedSquares_50 (by decide) rfl ?_
              show T x 52 [(0, vR a), (1, vI l), (2, vI 2), (3, vI (8 / 2 ^ 2)), (4, vI 4), (5, vI c2), (6, vI r1), (7, vI q2), (8, vI (f (64 * l + ((8 * r1) * 4 + (q2 * 4)))))] [] _ _ _
              refine st_aload_n C 0 dX2_mixedSquares_52 rfl rfl ?_
              refine st_iload_n C 1 dX2_mixedSquares_53 rfl rfl ?_
              refine st_iload C dX2_mixedSquares_54 rfl ?_
              refine st_iload_n C 2 dX2_mixedSquares_56 rfl rfl ?_
              refine st_iload C dX2_mixedSquares_57 rfl ?_
              refine st_iload C dX2_mixedSquares_59 rfl ?_
              refine st_callS (st := []) C dX2_mixedSquares_61 [vR a, vI l, vI (f (64 * l + ((8 * r1) * 4 + (q2 * 4)))), vI 2, vI q2, vI r1] (k_placesIn2 (f := f) (l := l) (a9 := (f (64 * l + ((8 * r1) * 4 + (q2 * 4))))) (x9 := q2) (y9 := r1) ha (by omega) (by omega) (by omega)) w_X2_36 rfl (by decide) (by decide) (by omega) (by omega) (Nat.le_of_ble_eq_true rfl) (ko_rt ?_)
              show T x 64 [(0, vR a), (1, vI l), (2, vI 2), (3, vI (8 / 2 ^ 2)), (4, vI 4), (5, vI c2), (6, vI r1), (7, vI q2), (8, vI (f (64 * l + ((8 * r1) * 4 + (q2 * 4)))))] [vI (pin f l (f (64 * l + ((8 * r1) * 4 + (q2 * 4)))) 4 q2 r1)] _ _ _
              refine st_iload C dX2_mixedSquares_64 rfl ?_
              refine st_iload C dX2_mixedSquares_66 rfl ?_
              refine st_imul C dX2_mixedSquares_68 ⟨(by omega), (by omega)⟩ ?_
              refine st_icmp_ge (tgt := 75) C dX2_mixedSquares_69 (by decide) (fun c_69 => ?_) (fun c_69 => ?_)
              · refine st_iinc C dX2_mixedSquares_75 rfl (by decide) rfl ⟨(by omega), (by omega)⟩ ?_
                show T x 78 [(0, vR a), (1, vI l), (2, vI 2), (3, vI (8 / 2 ^ 2)), (4, vI 4), (5, vI c2), (6, vI r1), (7, vI (q2 + 1)), (8, vI (f (64 * l + ((8 * r1) * 4 + (q2 * 4)))))] [] _ _ _
                refine st_goto (tgt := 25) C dX2_mixedSquares_78 (by decide) ?_
                refine st_sub [0, 1, 2, 3, 4, 5, 6, 7] rfl ?_
                exact ih_25 c2 (q2 + 1) (by omega) (by omega) (by omega) (by first | exact cntb_t h5 (by unfold MixP; omega) h8 | exact cntb_f h5 (by unfold MixP; omega) h8) (by omega)
              · refine st_iinc C dX2_mixedSquares_72 rfl (by decide) rfl ⟨(by omega), (by omega)⟩ ?_
                show T x 75 [(0, vR a), (1, vI l), (2, vI 2), (3, vI (8 / 2 ^ 2)), (4, vI 4), (5, vI (c2 + 1)), (6, vI r1), (7, vI q2), (8, vI (f (64 * l + ((8 * r1) * 4 + (q2 * 4)))))] [] _ _ _
                refine st_iinc C dX2_mixedSquares_75 rfl (by decide) rfl ⟨(by omega), (by omega)⟩ ?_
                show T x 78 [(0, vR a), (1, vI l), (2, vI 2), (3, vI (8 / 2 ^ 2)), (4, vI 4), (5, vI (c2 + 1)), (6, vI r1), (7, vI (q2 + 1)), (8, vI (f (64 * l + ((8 * r1) * 4 + (q2 * 4)))))] [] _ _ _
                refine st_goto (tgt := 25) C dX2_mixedSquares_78 (by decide) ?_
                refine st_sub [0, 1, 2, 3, 4, 5, 6, 7] rfl ?_
                exact ih_25 (c2 + 1) (q2 + 1) (by omega) (by omega) (by omega) (by first | exact cntb_t h5 (by unfold MixP; omega) h8 | exact cntb_f h5 (by unfold MixP; omega) h8) (by omega)
        exact loop_25 _ c1 0 (by omega) (by omega) (by omega) (cb_0 h4) (Nat.lt_succ_self _)
  exact loop_16 _ 0 0 (by omega) (by omega) (by omega) (sum_0) (Nat.lt_succ_self _)
set_option maxRecDepth 20000 in
set_option maxHeartbeats 4000000 in
theorem k_mixed3 {g : Gx} {h : HP} {a : Nat} {f : Int → Int} {l : Int} (ha : h a = some (oI 304 f)) (hl : 0 ≤ l ∧ l ≤ 2) : Ct g yX2_mixedSquares (.code yX2_mixedSquares cX2_mixedSquares 9 (some .int)) 3 0 0 [vR a, vI l, vI 3] h (Rt (some (vI (mixed f l 8))) h) := by
  refine Ct.of (by decide) (Nat.le_of_ble_eq_true rfl) (fun x hg C F => ?_)
  subst hg
  show T x 0 [(0, vR a), (1, vI l), (2, vI 3)] [] h 0 0
  refine st_bipush C dX2_mixedSquares_0 (by decide) (by decide) ?_
  refine st_iload_n C 2 dX2_mixedSquares_2 rfl rfl ?_
  refine st_ishr C 3 dX2_mixedSquares_3 (by omega) (by decide) ?_
  show T x 4 [(0, vR a), (1, vI l), (2, vI 3)] [vI (8 / 2 ^ 3)] _ _ _
  refine st_istore_n C 3 dX2_mixedSquares_4 rfl (by decide) rfl ?_
  show T x 5 [(0, vR a), (1, vI l), (2, vI 3), (3, vI (8 / 2 ^ 3))] [] _ _ _
  refine st_iconst C dX2_mixedSquares_5 (by decide) ?_
  refine st_iload_n C 2 dX2_mixedSquares_6 rfl rfl ?_
  refine st_ishl C 3 dX2_mixedSquares_7 (by omega) (by decide) (by omega) ?_
  show T x 8 [(0, vR a), (1, vI l), (2, vI 3), (3, vI (8 / 2 ^ 3))] [vI (1 * 2 ^ 3)] _ _ _
  refine st_istore C dX2_mixedSquares_8 (by decide) rfl ?_
  show T x 10 [(0, vR a), (1, vI l), (2, vI 3), (3, vI (8 / 2 ^ 3)), (4, vI 8)] [] _ _ _
  refine st_iconst C dX2_mixedSquares_10 (by decide) ?_
  refine st_istore C dX2_mixedSquares_11 (by decide) rfl ?_
  show T x 13 [(0, vR a), (1, vI l), (2, vI 3), (3, vI (8 / 2 ^ 3)), (4, vI 8), (5, vI 0)] [] _ _ _
  refine st_iconst C dX2_mixedSquares_13 (by decide) ?_
  refine st_istore C dX2_mixedSquares_14 (by decide) rfl ?_
  show T x 16 [(0, vR a), (1, vI l), (2, vI 3), (3, vI (8 / 2 ^ 3)), (4, vI 8), (5, vI 0), (6, vI 0)] [] _ _ _
  have loop_16 : ∀ (n_16 : Nat) (c1 : Int) (r1 : Int), (0 ≤ r1) → (r1 ≤ 1) → (0 ≤ c1 ∧ c1 ≤ 1 * r1) → (c1 = sum (fun r => cnt (fun q => MixP f l 8 q r) 1) r1) → (1 - r1).toNat < n_16 → T x 16 [(0, vR a), (1, vI l), (2, vI 3), (3, vI (8 / 2 ^ 3)), (4, vI 8), (5, vI c1), (6, vI r1)] [] h 0 0 := by
    intro n_16
    induction n_16 with
    | zero => intro c1 r1 h1 h2 h3 h4 hm_16; exact absurd hm_16 (Nat.not_lt_zero _)
    | succ n_16 ih_16 =>
      intro c1 r1 h1 h2 h3 h4 hm_16
      refine st_iload C dX2_mixedSquares_16 rfl ?_
      refine st_iload_n C 3 dX2_mixedSquares_18 rfl rfl ?_
      refine st_icmp_ge (tgt := 87) C dX2_mixedSquares_19 (by decide) (fun c_19 => ?_) (fun c_19 => ?_)
      · refine st_iload C dX2_mixedSquares_87 rfl ?_
        exact st_ireturn C F dX2_mixedSquares_89 rfl (rt_i (sumE h4 (by omega)) rfl) (by omega) (by omega)
      · refine st_iconst C dX2_mixedSquares_22 (by decide) ?_
        refine st_istore C dX2_mixedSquares_23 (by decide) rfl ?_
        show T x 25 [(0, vR a), (1, vI l), (2, vI 3), (3, vI (8 / 2 ^ 3)), (4, vI 8), (5, vI c1), (6, vI r1), (7, vI 0)] [] _ _ _
        have loop_25 : ∀ (n_25 : Nat) (c2 : Int) (q2 : Int), (0 ≤ q2) → (q2 ≤ 1) → (0 ≤ c2 ∧ c2 ≤ 1 * r1 + q2) → (c2 = sum (fun r => cnt (fun q => MixP f l 8 q r) 1) r1 + cnt (fun q => MixP f l 8 q r1) q2) → (1 - q2).toNat < n_25 → T x 25 [(0, vR a), (1, vI l), (2, vI 3), (3, vI (8 / 2 ^ 3)), (4, vI 8), (5, vI c2), (6, vI r1), (7, vI q2)] [] h 0 0 := by
          intro n_25
          induction n_25 with
          | zero => intro c2 q2 h5 h6 h7 h8 hm_25; exact absurd hm_25 (Nat.not_lt_zero _)
          | succ n_25 ih_25 =>
            intro c2 q2 h5 h6 h7 h8 hm_25
            refine st_iload C dX2_mixedSquares_25 rfl ?_
            refine st_iload_n C 3 dX2_mixedSquares_27 rfl rfl ?_
            refine st_icmp_ge (tgt := 81) C dX2_mixedSquares_28 (by decide) (fun c_28 => ?_) (fun c_28 => ?_)
            · refine st_iinc C dX2_mixedSquares_81 rfl (by decide) rfl ⟨(by omega), (by omega)⟩ ?_
              show T x 84 [(0, vR a), (1, vI l), (2, vI 3), (3, vI (8 / 2 ^ 3)), (4, vI 8), (5, vI c2), (6, vI (r1 + 1)), (7, vI q2)] [] _ _ _
              refine st_goto (tgt := 16) C dX2_mixedSquares_84 (by decide) ?_
              refine st_sub [0, 1, 2, 3, 4, 5, 6] rfl ?_
              exact ih_16 c2 (r1 + 1) (by omega) (by omega) (by omega) (sumc h1 rfl h8 (by omega)) (by omega)
            · refine st_aload_n C 0 dX2_mixedSquares_31 rfl rfl ?_
              refine st_iload_n C 1 dX2_mixedSquares_32 rfl rfl ?_
              refine st_bipush C dX2_mixedSquares_33 (by decide) (by decide) ?_
              refine st_iload C dX2_mixedSquares_35 rfl ?_
              refine st_imul C dX2_mixedSquares_37 ⟨(by omega), (by omega)⟩ ?_
              refine st_iload C dX2_mixedSquares_38 rfl ?_
              refine st_imul C dX2_mixedSquares_40 ⟨(by omega), (by omega)⟩ ?_
              refine st_iload C dX2_mixedSquares_41 rfl ?_
              refine st_iload C dX2_mixedSquares_43 rfl ?_
              refine st_imul C dX2_mixedSquares_45 ⟨(by omega), (by omega)⟩ ?_
              refine st_iadd C dX2_mixedSquares_46 ⟨(by omega), (by omega)⟩ ?_
              refine st_callS (st := []) C dX2_mixedSquares_47 [vR a, vI l, vI ((8 * r1) * 8 + (q2 * 8))] (k_areaAt (f := f) (l := l) (p := ((8 * r1) * 8 + (q2 * 8))) ha (by omega) (by omega)) w_X2_40 rfl (by decide) (by decide) (by omega) (by omega) (Nat.le_of_ble_eq_true rfl) (ko_rt ?_)
              show T x 50 [(0, vR a), (1, vI l), (2, vI 3), (3, vI (8 / 2 ^ 3)), (4, vI 8), (5, vI c2), (6, vI r1), (7, vI q2)] [vI (f (64 * l + ((8 * r1) * 8 + (q2 * 8))))] _ _ _
              refine st_istore C dX2_mixedSquares_50 (by decide) rfl ?_
              show T x 52 [(0, vR a), (1, vI l), (2, vI 3), (3, vI (8 / 2 ^ 3)), (4, vI 8), (5, vI c2), (6, vI r1), (7, vI q2), (8, vI (f (64 * l + ((8 * r1) * 8 + (q2 * 8)))))] [] _ _ _
              refine st_aload_n C 0 dX2_mixedSquares_52 rfl rfl ?_
              refine st_iload_n C 1 dX2_mixedSquares_53 rfl rfl ?_
              refine st_iload C dX2_mixedSquares_54 rfl ?_
              refine st_iload_n C 2 dX2_mixedSquares_56 rfl rfl ?_
              refine st_iload C dX2_mixedSquares_57 rfl ?_
              refine st_iload C dX2_mixedSquares_59 rfl ?_
              refine st_callS (st := []) C dX2_mixedSquares_61 [vR a, vI l, vI (f (64 * l + ((8 * r1) * 8 + (q2 * 8)))), vI 3, vI q2, vI r1] (k_placesIn3 (f := f) (l := l) (a9 := (f (64 * l + ((8 * r1) * 8 + (q2 * 8))))) (x9 := q2) (y9 := r1) ha (by omega) (by omega) (by omega)) w_X2_36 rfl (by decide) (by decide) (by omega) (by omega) (Nat.le_of_ble_eq_true rfl) (ko_rt ?_)
              show T x 64 [(0, vR a), (1, vI l), (2, vI 3), (3, vI (8 / 2 ^ 3)), (4, vI 8), (5, vI c2), (6, vI r1), (7, vI q2), (8, vI (f (64 * l + ((8 * r1) * 8 + (q2 * 8)))))] [vI (pin f l (f (64 * l + ((8 * r1) * 8 + (q2 * 8)))) 8 q2 r1)] _ _ _
              refine st_iload C dX2_mixedSquares_64 rfl ?_
              refine st_iload C dX2_mixedSquares_66 rfl ?_
              refine st_imul C dX2_mixedSquares_68 ⟨(by omega), (by omega)⟩ ?_
              refine st_icmp_ge (tgt := 75) C dX2_mixedSquares_69 (by decide) (fun c_69 => ?_) (fun c_69 => ?_)
              · refine st_iinc C dX2_mixedSquares_75 rfl (by decide) rfl ⟨(by omega), (by omega)⟩ ?_
                show T x 78 [(0, vR a), (1, vI l), (2, vI 3), (3, vI (8 / 2 ^ 3)), (4, vI 8), (5, vI c2), (6, vI r1), (7, vI (q2 + 1)), (8, vI (f (64 * l + ((8 * r1) * 8 + (q2 * 8)))))] [] _ _ _
                refine st_goto (tgt := 25) C dX2_mixedSquares_78 (by decide) ?_
                refine st_sub [0, 1, 2, 3, 4, 5, 6, 7] rfl ?_
                exact ih_25 c2 (q2 + 1) (by omega) (by omega) (by omega) (by first | exact cntb_t h5 (by unfold MixP; omega) h8 | exact cntb_f h5 (by unfold MixP; omega) h8) (by omega)
              · refine st_iinc C dX2_mixedSquares_72 rfl (by decide) rfl ⟨(by omega), (by omega)⟩ ?_
                show T x 75 [(0, vR a), (1, vI l), (2, vI 3), (3, vI (8 / 2 ^ 3)), (4, vI 8), (5, vI (c2 + 1)), (6, vI r1), (7, vI q2), (8, vI (f (64 * l + ((8 * r1) * 8 + (q2 * 8)))))] [] _ _ _
                refine st_iinc C dX2_mixedSquares_75 rfl (by decide) rfl ⟨(by omega), (by omega)⟩ ?_
                show T x 78 [(0, vR a), (1, vI l), (2, vI 3), (3, vI (8 / 2 ^ 3)), (4, vI 8), (5, vI (c2 + 1)), (6, vI r1), (7, vI (q2 + 1)), (8, vI (f (64 * l + ((8 * r1) * 8 + (q2 * 8)))))] [] _ _ _
                refine st_goto (tgt := 25) C dX2_mixedSquares_78 (by decide) ?_
                refine st_sub [0, 1, 2, 3, 4, 5, 6, 7] rfl ?_
                exact ih_25 (c2 + 1) (q2 + 1) (by omega) (by omega) (by omega) (by first | exact cntb_t h5 (by unfold MixP; omega) h8 | exact cntb_f h5 (by unfold MixP; omega) h8) (by omega)
        exact loop_25 _ c1 0 (by omega) (by omega) (by omega) (cb_0 h4) (Nat.lt_succ_self _)
  exact loop_16 _ 0 0 (by omega) (by omega) (by omega) (sum_0) (Nat.lt_succ_self _)
set_option maxRecDepth 20000 in
set_option maxHeartbeats 4000000 in
theorem k_unlike {g : Gx} {h : HP} {a b : Nat} {f f2 : Int → Int} (ha : h a = some (oI 304 f)) (hb : h b = some (oI 304 f2)) : Ct g yX2_unlikeSpots (.code yX2_unlikeSpots cX2_unlikeSpots 4 (some .int)) 2 0 0 [vR a, vR b] h (Rt (some (vI (cnt (fun j => f j ≠ f2 j) 304))) h) := by
  refine Ct.of (by decide) (Nat.le_of_ble_eq_true rfl) (fun x hg C F => ?_)
  subst hg
  show T x 0 [(0, vR a), (1, vR b)] [] h 0 0
  refine st_iconst C dX2_unlikeSpots_0 (by decide) ?_
  refine st_istore_n C 2 dX2_unlikeSpots_1 rfl (by decide) rfl ?_
  show T x 2 [(0, vR a), (1, vR b), (2, vI 0)] [] _ _ _
  refine st_iconst C dX2_unlikeSpots_2 (by decide) ?_
  refine st_istore_n C 3 dX2_unlikeSpots_3 rfl (by decide) rfl ?_
  show T x 4 [(0, vR a), (1, vR b), (2, vI 0), (3, vI 0)] [] _ _ _
  have loop_4 : ∀ (n_4 : Nat) (c1 : Int) (i : Int), (0 ≤ i) → (i ≤ 304) → (0 ≤ c1 ∧ c1 ≤ i) → (c1 = cnt (fun j => f j ≠ f2 j) i) → (304 - i).toNat < n_4 → T x 4 [(0, vR a), (1, vR b), (2, vI c1), (3, vI i)] [] h 0 0 := by
    intro n_4
    induction n_4 with
    | zero => intro c1 i h1 h2 h3 h4 hm_4; exact absurd hm_4 (Nat.not_lt_zero _)
    | succ n_4 ih_4 =>
      intro c1 i h1 h2 h3 h4 hm_4
      refine st_iload_n C 3 dX2_unlikeSpots_4 rfl rfl ?_
      refine st_sipush C dX2_unlikeSpots_5 (by decide) (by decide) ?_
      refine st_icmp_ge (tgt := 33) C dX2_unlikeSpots_8 (by decide) (fun c_8 => ?_) (fun c_8 => ?_)
      · refine st_iload_n C 2 dX2_unlikeSpots_33 rfl rfl ?_
        exact st_ireturn C F dX2_unlikeSpots_34 rfl (rt_i (cntE h4 (by omega)) rfl) (by omega) (by omega)
      · refine st_aload_n C 0 dX2_unlikeSpots_11 rfl rfl ?_
        refine st_iload_n C 3 dX2_unlikeSpots_12 rfl rfl ?_
        refine st_callS (st := []) C dX2_unlikeSpots_13 [vR a, vI i] (k_valueIn (f := f) (s9 := i) ha (by omega)) w_X2_27 rfl (by decide) (by decide) (by omega) (by omega) (Nat.le_of_ble_eq_true rfl) (ko_rt ?_)
        show T x 16 [(0, vR a), (1, vR b), (2, vI c1), (3, vI i)] [vI (f i)] _ _ _
        refine st_aload_n C 1 dX2_unlikeSpots_16 rfl rfl ?_
        refine st_iload_n C 3 dX2_unlikeSpots_17 rfl rfl ?_
        refine st_callS (st := [vI (f i)]) C dX2_unlikeSpots_18 [vR b, vI i] (k_valueIn (f := f2) (s9 := i) hb (by omega)) w_X2_27 rfl (by decide) (by decide) (by omega) (by omega) (Nat.le_of_ble_eq_true rfl) (ko_rt ?_)
        show T x 21 [(0, vR a), (1, vR b), (2, vI c1), (3, vI i)] [vI (f2 i), vI (f i)] _ _ _
        refine st_icmp_eq (tgt := 27) C dX2_unlikeSpots_21 (by decide) (fun c_21 => ?_) (fun c_21 => ?_)
        · refine st_iinc C dX2_unlikeSpots_27 rfl (by decide) rfl ⟨(by omega), (by omega)⟩ ?_
          show T x 30 [(0, vR a), (1, vR b), (2, vI c1), (3, vI (i + 1))] [] _ _ _
          refine st_goto (tgt := 4) C dX2_unlikeSpots_30 (by decide) ?_
          exact ih_4 c1 (i + 1) (by omega) (by omega) (by omega) (by first | exact cnt_t h1 (by assumption) h4 | exact cnt_f h1 (fun z => z (by assumption)) h4) (by omega)
        · refine st_iinc C dX2_unlikeSpots_24 rfl (by decide) rfl ⟨(by omega), (by omega)⟩ ?_
          show T x 27 [(0, vR a), (1, vR b), (2, vI (c1 + 1)), (3, vI i)] [] _ _ _
          refine st_iinc C dX2_unlikeSpots_27 rfl (by decide) rfl ⟨(by omega), (by omega)⟩ ?_
          show T x 30 [(0, vR a), (1, vR b), (2, vI (c1 + 1)), (3, vI (i + 1))] [] _ _ _
          refine st_goto (tgt := 4) C dX2_unlikeSpots_30 (by decide) ?_
          exact ih_4 (c1 + 1) (i + 1) (by omega) (by omega) (by omega) (by first | exact cnt_t h1 (by assumption) h4 | exact cnt_f h1 (fun z => z (by assumption)) h4) (by omega)
  exact loop_4 _ 0 0 (by omega) (by omega) (by omega) (cnt_0) (Nat.lt_succ_self _)
