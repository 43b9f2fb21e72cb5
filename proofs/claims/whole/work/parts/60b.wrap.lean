section KOG9
variable {x : Cx} {pc : Nat} {ls : List (Nat × PV)} {st : List PV} {h h0 : HP} {cl sl : Nat}
theorem ko_ge {v : PV} {Q : HP → Prop} (k : ∀ h1 : HP, Q h1 → T x (pc + 3) ls (v :: st) h1 cl sl) : ∀ r h', (r = .inl (some v) ∧ Q h') → Ko x pc ls st cl sl r h' := by
  rintro r h' ⟨rfl, hq⟩
  exact k h' hq
theorem ko_gx {E : String} {Q : HP → Prop} (k : ∀ h1 : HP, Q h1 → TX x pc ls h1 cl sl E) : ∀ r h', (r = .inr E ∧ Q h') → Ko x pc ls st cl sl r h' := by
  rintro r h' ⟨rfl, hq⟩
  exact k h' hq
end KOG9
theorem cov_no {z : ExceptionTableEntry} : z ∈ tableOf [] → False := fun h => nomatch h
set_option maxRecDepth 20000 in
set_option maxHeartbeats 4000000 in
theorem w_ahead_ok {g : Gx} {h : HP} {Q : HP → Prop} {dz mz sz : Nat} {fs : List PV} {p0 : Int} {v : Int} {fo : Int → Int} (h0 : h 0 = some (oO 9 fs)) (hc : Ct g yX10_ahead (.code yX10_ahead cX10_ahead 2 (some .int)) dz mz sz [vR 0, vI p0] h (fun r h1 => r = .inl (some (vI v)) ∧ Q h1)) (hq : ∀ h1, Q h1 → h1 300 = some (oJ 1 fo)) : Ct g yL_ahead (.codeWith yL_ahead cL_ahead 4 (some .int) [(0, 9, 12, 27)]) (dz + 1) mz sz [vR 0, vI p0, vR 300] h (fun r h1 => r = .inl (some (vI 0)) ∧ ∃ h2, Q h2 ∧ h1 = hput h2 300 (oJ 1 (fput fo 0 v))) := by
  refine Ct.ofW (by decide) (Nat.le_of_ble_eq_true rfl) (fun x hg C F => ?_)
  subst hg
  show T x 0 [(0, vR 0), (1, vI p0), (2, vR 300)] [] h 0 0
  refine st_aload_n C 2 dL_ahead_0 rfl rfl ?_
  refine st_iconst C dL_ahead_1 (by decide) ?_
  refine st_aload_n C 0 dL_ahead_2 rfl rfl ?_
  refine st_iload_n C 1 dL_ahead_3 rfl rfl ?_
  refine st_callV (st := [vI 0, vR 300]) C dL_ahead_4 [vI p0] hc h0 w_L_111 rfl (Nat.le_refl _) (by decide) (by omega) (by omega) (Nat.le_of_ble_eq_true rfl) (ko_ge (fun h1 hq9 => ?_))
  show T x 7 [(0, vR 0), (1, vI p0), (2, vR 300)] [vI v, vI 0, vR 300] _ _ _
  refine st_i2l C dL_ahead_7 ?_
  refine st_last C dL_ahead_8 (hq h1 hq9) (by omega) (by omega) ?_
  refine st_goto (tgt := 15) C dL_ahead_9 (by decide) ?_
  refine st_iconst C dL_ahead_15 (by decide) ?_
  exact st_ireturn C F dL_ahead_16 rfl ⟨rfl, h1, hq9, rfl⟩ (by omega) (by omega)
set_option maxRecDepth 20000 in
set_option maxHeartbeats 4000000 in
theorem w_ahead_x1 {g : Gx} {h : HP} {Q : HP → Prop} {dz mz sz : Nat} {fs : List PV} {p0 : Int} (h0 : h 0 = some (oO 9 fs)) (hc : Ct g yX10_ahead (.code yX10_ahead cX10_ahead 2 (some .int)) dz mz sz [vR 0, vI p0] h (fun r h1 => r = .inr "java/lang/IndexOutOfBoundsException" ∧ Q h1)) : Ct g yL_ahead (.codeWith yL_ahead cL_ahead 4 (some .int) [(0, 9, 12, 27)]) (dz + 1) mz sz [vR 0, vI p0, vR 300] h (fun r h1 => r = .inl (some (vI 1)) ∧ Q h1) := by
  refine Ct.ofW (by decide) (Nat.le_of_ble_eq_true rfl) (fun x hg C F => ?_)
  subst hg
  show T x 0 [(0, vR 0), (1, vI p0), (2, vR 300)] [] h 0 0
  refine st_aload_n C 2 dL_ahead_0 rfl rfl ?_
  refine st_iconst C dL_ahead_1 (by decide) ?_
  refine st_aload_n C 0 dL_ahead_2 rfl rfl ?_
  refine st_iload_n C 1 dL_ahead_3 rfl rfl ?_
  refine st_callV (st := [vI 0, vR 300]) C dL_ahead_4 [vI p0] hc h0 w_L_111 rfl (Nat.le_refl _) (by decide) (by omega) (by omega) (Nat.le_of_ble_eq_true rfl) (ko_gx (fun h1 hq9 => ?_))
  refine st_catch (nm := "java/lang/IndexOutOfBoundsException") (j := 3) (len := 1) C [] [] (0, 9, 12, 27) rfl (fun z hz => nomatch hz) ⟨_, rfl, by decide, by decide, rfl, cl_L_27⟩ ca_IOB (by decide) (Or.inr ⟨_, dL_ahead_12, rfl, rfl⟩) [(0, vR 0), (1, vI p0)] rfl ?_
  show T x 13 [(0, vR 0), (1, vI p0)] [] _ _ _
  refine st_iconst C dL_ahead_13 (by decide) ?_
  exact st_ireturn C F dL_ahead_14 rfl ⟨rfl, hq9⟩ (by omega) (by omega)
set_option maxRecDepth 20000 in
set_option maxHeartbeats 4000000 in
theorem w_border_ok {g : Gx} {h : HP} {Q : HP → Prop} {dz mz sz : Nat} {fs : List PV} {p0 p1 p2 : Int} {v : Int} {fo : Int → Int} (h0 : h 0 = some (oO 9 fs)) (hc : Ct g yX10_border (.code yX10_border cX10_border 10 (some .int)) dz mz sz [vR 0, vI p0, vI p1, vI p2] h (fun r h1 => r = .inl (some (vI v)) ∧ Q h1)) (hq : ∀ h1, Q h1 → h1 300 = some (oJ 1 fo)) : Ct g yL_border (.codeWith yL_border cL_border 6 (some .int) [(0, 12, 15, 13)]) (dz + 1) mz sz [vR 0, vI p0, vI p1, vI p2, vR 300] h (fun r h1 => r = .inl (some (vI 0)) ∧ ∃ h2, Q h2 ∧ h1 = hput h2 300 (oJ 1 (fput fo 0 v))) := by
  refine Ct.ofW (by decide) (Nat.le_of_ble_eq_true rfl) (fun x hg C F => ?_)
  subst hg
  show T x 0 [(0, vR 0), (1, vI p0), (2, vI p1), (3, vI p2), (4, vR 300)] [] h 0 0
  refine st_aload C dL_border_0 rfl ?_
  refine st_iconst C dL_border_2 (by decide) ?_
  refine st_aload_n C 0 dL_border_3 rfl rfl ?_
  refine st_iload_n C 1 dL_border_4 rfl rfl ?_
  refine st_iload_n C 2 dL_border_5 rfl rfl ?_
  refine st_iload_n C 3 dL_border_6 rfl rfl ?_
  refine st_callV (st := [vI 0, vR 300]) C dL_border_7 [vI p0, vI p1, vI p2] hc h0 w_L_89 rfl (Nat.le_refl _) (by decide) (by omega) (by omega) (Nat.le_of_ble_eq_true rfl) (ko_ge (fun h1 hq9 => ?_))
  show T x 10 [(0, vR 0), (1, vI p0), (2, vI p1), (3, vI p2), (4, vR 300)] [vI v, vI 0, vR 300] _ _ _
  refine st_i2l C dL_border_10 ?_
  refine st_last C dL_border_11 (hq h1 hq9) (by omega) (by omega) ?_
  refine st_goto (tgt := 19) C dL_border_12 (by decide) ?_
  refine st_iconst C dL_border_19 (by decide) ?_
  exact st_ireturn C F dL_border_20 rfl ⟨rfl, h1, hq9, rfl⟩ (by omega) (by omega)
set_option maxRecDepth 20000 in
set_option maxHeartbeats 4000000 in
theorem w_border_x1 {g : Gx} {h : HP} {Q : HP → Prop} {dz mz sz : Nat} {fs : List PV} {p0 p1 p2 : Int} (h0 : h 0 = some (oO 9 fs)) (hc : Ct g yX10_border (.code yX10_border cX10_border 10 (some .int)) dz mz sz [vR 0, vI p0, vI p1, vI p2] h (fun r h1 => r = .inr "java/lang/IllegalArgumentException" ∧ Q h1)) : Ct g yL_border (.codeWith yL_border cL_border 6 (some .int) [(0, 12, 15, 13)]) (dz + 1) mz sz [vR 0, vI p0, vI p1, vI p2, vR 300] h (fun r h1 => r = .inl (some (vI 1)) ∧ Q h1) := by
  refine Ct.ofW (by decide) (Nat.le_of_ble_eq_true rfl) (fun x hg C F => ?_)
  subst hg
  show T x 0 [(0, vR 0), (1, vI p0), (2, vI p1), (3, vI p2), (4, vR 300)] [] h 0 0
  refine st_aload C dL_border_0 rfl ?_
  refine st_iconst C dL_border_2 (by decide) ?_
  refine st_aload_n C 0 dL_border_3 rfl rfl ?_
  refine st_iload_n C 1 dL_border_4 rfl rfl ?_
  refine st_iload_n C 2 dL_border_5 rfl rfl ?_
  refine st_iload_n C 3 dL_border_6 rfl rfl ?_
  refine st_callV (st := [vI 0, vR 300]) C dL_border_7 [vI p0, vI p1, vI p2] hc h0 w_L_89 rfl (Nat.le_refl _) (by decide) (by omega) (by omega) (Nat.le_of_ble_eq_true rfl) (ko_gx (fun h1 hq9 => ?_))
  refine st_catch (nm := "java/lang/IllegalArgumentException") (j := 5) (len := 2) C [] [] (0, 12, 15, 13) rfl (fun z hz => nomatch hz) ⟨_, rfl, by decide, by decide, rfl, cl_L_13⟩ ca_IAE (by decide) (Or.inl ⟨dL_border_15, rfl⟩) [(0, vR 0), (1, vI p0), (2, vI p1), (3, vI p2)] rfl ?_
  show T x 17 [(0, vR 0), (1, vI p0), (2, vI p1), (3, vI p2)] [] _ _ _
  refine st_iconst C dL_border_17 (by decide) ?_
  exact st_ireturn C F dL_border_18 rfl ⟨rfl, hq9⟩ (by omega) (by omega)
set_option maxRecDepth 20000 in
set_option maxHeartbeats 4000000 in
theorem w_breaks_ok {g : Gx} {h : HP} {Q : HP → Prop} {dz mz sz : Nat} {fs : List PV} {p0 : Int} {v : Int} {fo : Int → Int} (h0 : h 0 = some (oO 9 fs)) (hc : Ct g yX10_breaks (.code yX10_breaks cX10_breaks 2 (some .int)) dz mz sz [vR 0, vI p0] h (fun r h1 => r = .inl (some (vI v)) ∧ Q h1)) (hq : ∀ h1, Q h1 → h1 300 = some (oJ 1 fo)) : Ct g yL_breaks (.codeWith yL_breaks cL_breaks 4 (some .int) [(0, 9, 12, 27)]) (dz + 1) mz sz [vR 0, vI p0, vR 300] h (fun r h1 => r = .inl (some (vI 0)) ∧ ∃ h2, Q h2 ∧ h1 = hput h2 300 (oJ 1 (fput fo 0 v))) := by
  refine Ct.ofW (by decide) (Nat.le_of_ble_eq_true rfl) (fun x hg C F => ?_)
  subst hg
  show T x 0 [(0, vR 0), (1, vI p0), (2, vR 300)] [] h 0 0
  refine st_aload_n C 2 dL_breaks_0 rfl rfl ?_
  refine st_iconst C dL_breaks_1 (by decide) ?_
  refine st_aload_n C 0 dL_breaks_2 rfl rfl ?_
  refine st_iload_n C 1 dL_breaks_3 rfl rfl ?_
  refine st_callV (st := [vI 0, vR 300]) C dL_breaks_4 [vI p0] hc h0 w_L_56 rfl (Nat.le_refl _) (by decide) (by omega) (by omega) (Nat.le_of_ble_eq_true rfl) (ko_ge (fun h1 hq9 => ?_))
  show T x 7 [(0, vR 0), (1, vI p0), (2, vR 300)] [vI v, vI 0, vR 300] _ _ _
  refine st_i2l C dL_breaks_7 ?_
  refine st_last C dL_breaks_8 (hq h1 hq9) (by omega) (by omega) ?_
  refine st_goto (tgt := 15) C dL_breaks_9 (by decide) ?_
  refine st_iconst C dL_breaks_15 (by decide) ?_
  exact st_ireturn C F dL_breaks_16 rfl ⟨rfl, h1, hq9, rfl⟩ (by omega) (by omega)
set_option maxRecDepth 20000 in
set_option maxHeartbeats 4000000 in
theorem w_breaks_x1 {g : Gx} {h : HP} {Q : HP → Prop} {dz mz sz : Nat} {fs : List PV} {p0 : Int} (h0 : h 0 = some (oO 9 fs)) (hc : Ct g yX10_breaks (.code yX10_breaks cX10_breaks 2 (some .int)) dz mz sz [vR 0, vI p0] h (fun r h1 => r = .inr "java/lang/IndexOutOfBoundsException" ∧ Q h1)) : Ct g yL_breaks (.codeWith yL_breaks cL_breaks 4 (some .int) [(0, 9, 12, 27)]) (dz + 1) mz sz [vR 0, vI p0, vR 300] h (fun r h1 => r = .inl (some (vI 1)) ∧ Q h1) := by
  refine Ct.ofW (by decide) (Nat.le_of_ble_eq_true rfl) (fun x hg C F => ?_)
  subst hg
  show T x 0 [(0, vR 0), (1, vI p0), (2, vR 300)] [] h 0 0
  refine st_aload_n C 2 dL_breaks_0 rfl rfl ?_
  refine st_iconst C dL_breaks_1 (by decide) ?_
  refine st_aload_n C 0 dL_breaks_2 rfl rfl ?_
  refine st_iload_n C 1 dL_breaks_3 rfl rfl ?_
  refine st_callV (st := [vI 0, vR 300]) C dL_breaks_4 [vI p0] hc h0 w_L_56 rfl (Nat.le_refl _) (by decide) (by omega) (by omega) (Nat.le_of_ble_eq_true rfl) (ko_gx (fun h1 hq9 => ?_))
  refine st_catch (nm := "java/lang/IndexOutOfBoundsException") (j := 3) (len := 1) C [] [] (0, 9, 12, 27) rfl (fun z hz => nomatch hz) ⟨_, rfl, by decide, by decide, rfl, cl_L_27⟩ ca_IOB (by decide) (Or.inr ⟨_, dL_breaks_12, rfl, rfl⟩) [(0, vR 0), (1, vI p0)] rfl ?_
  show T x 13 [(0, vR 0), (1, vI p0)] [] _ _ _
  refine st_iconst C dL_breaks_13 (by decide) ?_
  exact st_ireturn C F dL_breaks_14 rfl ⟨rfl, hq9⟩ (by omega) (by omega)
set_option maxRecDepth 20000 in
set_option maxHeartbeats 4000000 in
theorem w_changed_ok {g : Gx} {h : HP} {Q : HP → Prop} {dz mz sz : Nat} {fs : List PV} {p0 p1 : Int} {v : Int} {fo : Int → Int} (h0 : h 0 = some (oO 9 fs)) (hc : Ct g yX10_changed (.code yX10_changed cX10_changed 4 (some .int)) dz mz sz [vR 0, vI p0, vI p1] h (fun r h1 => r = .inl (some (vI v)) ∧ Q h1)) (hq : ∀ h1, Q h1 → h1 300 = some (oJ 1 fo)) : Ct g yL_changed (.codeWith yL_changed cL_changed 5 (some .int) [(0, 10, 13, 13), (0, 10, 17, 50)]) (dz + 1) mz sz [vR 0, vI p0, vI p1, vR 300] h (fun r h1 => r = .inl (some (vI 0)) ∧ ∃ h2, Q h2 ∧ h1 = hput h2 300 (oJ 1 (fput fo 0 v))) := by
  refine Ct.ofW (by decide) (Nat.le_of_ble_eq_true rfl) (fun x hg C F => ?_)
  subst hg
  show T x 0 [(0, vR 0), (1, vI p0), (2, vI p1), (3, vR 300)] [] h 0 0
  refine st_aload_n C 3 dL_changed_0 rfl rfl ?_
  refine st_iconst C dL_changed_1 (by decide) ?_
  refine st_aload_n C 0 dL_changed_2 rfl rfl ?_
  refine st_iload_n C 1 dL_changed_3 rfl rfl ?_
  refine st_iload_n C 2 dL_changed_4 rfl rfl ?_
  refine st_callV (st := [vI 0, vR 300]) C dL_changed_5 [vI p0, vI p1] hc h0 w_L_71 rfl (Nat.le_refl _) (by decide) (by omega) (by omega) (Nat.le_of_ble_eq_true rfl) (ko_ge (fun h1 hq9 => ?_))
  show T x 8 [(0, vR 0), (1, vI p0), (2, vI p1), (3, vR 300)] [vI v, vI 0, vR 300] _ _ _
  refine st_i2l C dL_changed_8 ?_
  refine st_last C dL_changed_9 (hq h1 hq9) (by omega) (by omega) ?_
  refine st_goto (tgt := 21) C dL_changed_10 (by decide) ?_
  refine st_iconst C dL_changed_21 (by decide) ?_
  exact st_ireturn C F dL_changed_22 rfl ⟨rfl, h1, hq9, rfl⟩ (by omega) (by omega)
set_option maxRecDepth 20000 in
set_option maxHeartbeats 4000000 in
theorem w_changed_x1 {g : Gx} {h : HP} {Q : HP → Prop} {dz mz sz : Nat} {fs : List PV} {p0 p1 : Int} (h0 : h 0 = some (oO 9 fs)) (hc : Ct g yX10_changed (.code yX10_changed cX10_changed 4 (some .int)) dz mz sz [vR 0, vI p0, vI p1] h (fun r h1 => r = .inr "java/lang/IllegalArgumentException" ∧ Q h1)) : Ct g yL_changed (.codeWith yL_changed cL_changed 5 (some .int) [(0, 10, 13, 13), (0, 10, 17, 50)]) (dz + 1) mz sz [vR 0, vI p0, vI p1, vR 300] h (fun r h1 => r = .inl (some (vI 1)) ∧ Q h1) := by
  refine Ct.ofW (by decide) (Nat.le_of_ble_eq_true rfl) (fun x hg C F => ?_)
  subst hg
  show T x 0 [(0, vR 0), (1, vI p0), (2, vI p1), (3, vR 300)] [] h 0 0
  refine st_aload_n C 3 dL_changed_0 rfl rfl ?_
  refine st_iconst C dL_changed_1 (by decide) ?_
  refine st_aload_n C 0 dL_changed_2 rfl rfl ?_
  refine st_iload_n C 1 dL_changed_3 rfl rfl ?_
  refine st_iload_n C 2 dL_changed_4 rfl rfl ?_
  refine st_callV (st := [vI 0, vR 300]) C dL_changed_5 [vI p0, vI p1] hc h0 w_L_71 rfl (Nat.le_refl _) (by decide) (by omega) (by omega) (Nat.le_of_ble_eq_true rfl) (ko_gx (fun h1 hq9 => ?_))
  refine st_catch (nm := "java/lang/IllegalArgumentException") (j := 4) (len := 2) C [] [(0, 10, 17, 50)] (0, 10, 13, 13) rfl (fun z hz => nomatch hz) ⟨_, rfl, by decide, by decide, rfl, cl_L_13⟩ ca_IAE (by decide) (Or.inl ⟨dL_changed_13, rfl⟩) [(0, vR 0), (1, vI p0), (2, vI p1)] rfl ?_
  show T x 15 [(0, vR 0), (1, vI p0), (2, vI p1)] [] _ _ _
  refine st_iconst C dL_changed_15 (by decide) ?_
  exact st_ireturn C F dL_changed_16 rfl ⟨rfl, hq9⟩ (by omega) (by omega)
set_option maxRecDepth 20000 in
set_option maxHeartbeats 4000000 in
theorem w_changed_x2 {g : Gx} {h : HP} {Q : HP → Prop} {dz mz sz : Nat} {fs : List PV} {p0 p1 : Int} (h0 : h 0 = some (oO 9 fs)) (hc : Ct g yX10_changed (.code yX10_changed cX10_changed 4 (some .int)) dz mz sz [vR 0, vI p0, vI p1] h (fun r h1 => r = .inr "java/util/NoSuchElementException" ∧ Q h1)) : Ct g yL_changed (.codeWith yL_changed cL_changed 5 (some .int) [(0, 10, 13, 13), (0, 10, 17, 50)]) (dz + 1) mz sz [vR 0, vI p0, vI p1, vR 300] h (fun r h1 => r = .inl (some (vI 2)) ∧ Q h1) := by
  refine Ct.ofW (by decide) (Nat.le_of_ble_eq_true rfl) (fun x hg C F => ?_)
  subst hg
  show T x 0 [(0, vR 0), (1, vI p0), (2, vI p1), (3, vR 300)] [] h 0 0
  refine st_aload_n C 3 dL_changed_0 rfl rfl ?_
  refine st_iconst C dL_changed_1 (by decide) ?_
  refine st_aload_n C 0 dL_changed_2 rfl rfl ?_
  refine st_iload_n C 1 dL_changed_3 rfl rfl ?_
  refine st_iload_n C 2 dL_changed_4 rfl rfl ?_
  refine st_callV (st := [vI 0, vR 300]) C dL_changed_5 [vI p0, vI p1] hc h0 w_L_71 rfl (Nat.le_refl _) (by decide) (by omega) (by omega) (Nat.le_of_ble_eq_true rfl) (ko_gx (fun h1 hq9 => ?_))
  refine st_catch (nm := "java/util/NoSuchElementException") (j := 4) (len := 2) C [(0, 10, 13, 13)] [] (0, 10, 17, 50) rfl (List.forall_mem_cons.mpr ⟨Or.inr ⟨by decide, "java/lang/IllegalArgumentException", cl_L_13, by decide⟩, (fun z hz => nomatch hz)⟩) ⟨_, rfl, by decide, by decide, rfl, cl_L_50⟩ ca_NSE (by decide) (Or.inl ⟨dL_changed_17, rfl⟩) [(0, vR 0), (1, vI p0), (2, vI p1)] rfl ?_
  show T x 19 [(0, vR 0), (1, vI p0), (2, vI p1)] [] _ _ _
  refine st_iconst C dL_changed_19 (by decide) ?_
  exact st_ireturn C F dL_changed_20 rfl ⟨rfl, hq9⟩ (by omega) (by omega)
set_option maxRecDepth 20000 in
set_option maxHeartbeats 4000000 in
theorem w_changes_ok {g : Gx} {h : HP} {Q : HP → Prop} {dz mz sz : Nat} {fs : List PV} {p0 : Int} {v : Int} {fo : Int → Int} (h0 : h 0 = some (oO 9 fs)) (hc : Ct g yX10_changes (.code yX10_changes cX10_changes 2 (some .int)) dz mz sz [vR 0, vI p0] h (fun r h1 => r = .inl (some (vI v)) ∧ Q h1)) (hq : ∀ h1, Q h1 → h1 300 = some (oJ 1 fo)) : Ct g yL_changes (.codeWith yL_changes cL_changes 4 (some .int) [(0, 9, 12, 13)]) (dz + 1) mz sz [vR 0, vI p0, vR 300] h (fun r h1 => r = .inl (some (vI 0)) ∧ ∃ h2, Q h2 ∧ h1 = hput h2 300 (oJ 1 (fput fo 0 v))) := by
  refine Ct.ofW (by decide) (Nat.le_of_ble_eq_true rfl) (fun x hg C F => ?_)
  subst hg
  show T x 0 [(0, vR 0), (1, vI p0), (2, vR 300)] [] h 0 0
  refine st_aload_n C 2 dL_changes_0 rfl rfl ?_
  refine st_iconst C dL_changes_1 (by decide) ?_
  refine st_aload_n C 0 dL_changes_2 rfl rfl ?_
  refine st_iload_n C 1 dL_changes_3 rfl rfl ?_
  refine st_callV (st := [vI 0, vR 300]) C dL_changes_4 [vI p0] hc h0 w_L_68 rfl (Nat.le_refl _) (by decide) (by omega) (by omega) (Nat.le_of_ble_eq_true rfl) (ko_ge (fun h1 hq9 => ?_))
  show T x 7 [(0, vR 0), (1, vI p0), (2, vR 300)] [vI v, vI 0, vR 300] _ _ _
  refine st_i2l C dL_changes_7 ?_
  refine st_last C dL_changes_8 (hq h1 hq9) (by omega) (by omega) ?_
  refine st_goto (tgt := 15) C dL_changes_9 (by decide) ?_
  refine st_iconst C dL_changes_15 (by decide) ?_
  exact st_ireturn C F dL_changes_16 rfl ⟨rfl, h1, hq9, rfl⟩ (by omega) (by omega)
set_option maxRecDepth 20000 in
set_option maxHeartbeats 4000000 in
theorem w_changes_x1 {g : Gx} {h : HP} {Q : HP → Prop} {dz mz sz : Nat} {fs : List PV} {p0 : Int} (h0 : h 0 = some (oO 9 fs)) (hc : Ct g yX10_changes (.code yX10_changes cX10_changes 2 (some .int)) dz mz sz [vR 0, vI p0] h (fun r h1 => r = .inr "java/lang/IllegalArgumentException" ∧ Q h1)) : Ct g yL_changes (.codeWith yL_changes cL_changes 4 (some .int) [(0, 9, 12, 13)]) (dz + 1) mz sz [vR 0, vI p0, vR 300] h (fun r h1 => r = .inl (some (vI 1)) ∧ Q h1) := by
  refine Ct.ofW (by decide) (Nat.le_of_ble_eq_true rfl) (fun x hg C F => ?_)
  subst hg
  show T x 0 [(0, vR 0), (1, vI p0), (2, vR 300)] [] h 0 0
  refine st_aload_n C 2 dL_changes_0 rfl rfl ?_
  refine st_iconst C dL_changes_1 (by decide) ?_
  refine st_aload_n C 0 dL_changes_2 rfl rfl ?_
  refine st_iload_n C 1 dL_changes_3 rfl rfl ?_
  refine st_callV (st := [vI 0, vR 300]) C dL_changes_4 [vI p0] hc h0 w_L_68 rfl (Nat.le_refl _) (by decide) (by omega) (by omega) (Nat.le_of_ble_eq_true rfl) (ko_gx (fun h1 hq9 => ?_))
  refine st_catch (nm := "java/lang/IllegalArgumentException") (j := 3) (len := 1) C [] [] (0, 9, 12, 13) rfl (fun z hz => nomatch hz) ⟨_, rfl, by decide, by decide, rfl, cl_L_13⟩ ca_IAE (by decide) (Or.inr ⟨_, dL_changes_12, rfl, rfl⟩) [(0, vR 0), (1, vI p0)] rfl ?_
  show T x 13 [(0, vR 0), (1, vI p0)] [] _ _ _
  refine st_iconst C dL_changes_13 (by decide) ?_
  exact st_ireturn C F dL_changes_14 rfl ⟨rfl, hq9⟩ (by omega) (by omega)
set_option maxRecDepth 20000 in
set_option maxHeartbeats 4000000 in
theorem w_conflict_ok {g : Gx} {h : HP} {Q : HP → Prop} {dz mz sz : Nat} {fs : List PV} {p0 p1 : Int} {v : Int} {fo : Int → Int} (h0 : h 0 = some (oO 9 fs)) (hc : Ct g yX10_conflict (.code yX10_conflict cX10_conflict 4 (some .int)) dz mz sz [vR 0, vI p0, vI p1] h (fun r h1 => r = .inl (some (vI v)) ∧ Q h1)) (hq : ∀ h1, Q h1 → h1 300 = some (oJ 1 fo)) : Ct g yL_conflict (.codeWith yL_conflict cL_conflict 5 (some .int) [(0, 10, 13, 27), (0, 10, 17, 50)]) (dz + 1) mz sz [vR 0, vI p0, vI p1, vR 300] h (fun r h1 => r = .inl (some (vI 0)) ∧ ∃ h2, Q h2 ∧ h1 = hput h2 300 (oJ 1 (fput fo 0 v))) := by
  refine Ct.ofW (by decide) (Nat.le_of_ble_eq_true rfl) (fun x hg C F => ?_)
  subst hg
  show T x 0 [(0, vR 0), (1, vI p0), (2, vI p1), (3, vR 300)] [] h 0 0
  refine st_aload_n C 3 dL_conflict_0 rfl rfl ?_
  refine st_iconst C dL_conflict_1 (by decide) ?_
  refine st_aload_n C 0 dL_conflict_2 rfl rfl ?_
  refine st_iload_n C 1 dL_conflict_3 rfl rfl ?_
  refine st_iload_n C 2 dL_conflict_4 rfl rfl ?_
  refine st_callV (st := [vI 0, vR 300]) C dL_conflict_5 [vI p0, vI p1] hc h0 w_L_47 rfl (Nat.le_refl _) (by decide) (by omega) (by omega) (Nat.le_of_ble_eq_true rfl) (ko_ge (fun h1 hq9 => ?_))
  show T x 8 [(0, vR 0), (1, vI p0), (2, vI p1), (3, vR 300)] [vI v, vI 0, vR 300] _ _ _
  refine st_i2l C dL_conflict_8 ?_
  refine st_last C dL_conflict_9 (hq h1 hq9) (by omega) (by omega) ?_
  refine st_goto (tgt := 21) C dL_conflict_10 (by decide) ?_
  refine st_iconst C dL_conflict_21 (by decide) ?_
  exact st_ireturn C F dL_conflict_22 rfl ⟨rfl, h1, hq9, rfl⟩ (by omega) (by omega)
set_option maxRecDepth 20000 in
set_option maxHeartbeats 4000000 in
theorem w_conflict_x1 {g : Gx} {h : HP} {Q : HP → Prop} {dz mz sz : Nat} {fs : List PV} {p0 p1 : Int} (h0 : h 0 = some (oO 9 fs)) (hc : Ct g yX10_conflict (.code yX10_conflict cX10_conflict 4 (some .int)) dz mz sz [vR 0, vI p0, vI p1] h (fun r h1 => r = .inr "java/lang/IndexOutOfBoundsException" ∧ Q h1)) : Ct g yL_conflict (.codeWith yL_conflict cL_conflict 5 (some .int) [(0, 10, 13, 27), (0, 10, 17, 50)]) (dz + 1) mz sz [vR 0, vI p0, vI p1, vR 300] h (fun r h1 => r = .inl (some (vI 1)) ∧ Q h1) := by
  refine Ct.ofW (by decide) (Nat.le_of_ble_eq_true rfl) (fun x hg C F => ?_)
  subst hg
  show T x 0 [(0, vR 0), (1, vI p0), (2, vI p1), (3, vR 300)] [] h 0 0
  refine st_aload_n C 3 dL_conflict_0 rfl rfl ?_
  refine st_iconst C dL_conflict_1 (by decide) ?_
  refine st_aload_n C 0 dL_conflict_2 rfl rfl ?_
  refine st_iload_n C 1 dL_conflict_3 rfl rfl ?_
  refine st_iload_n C 2 dL_conflict_4 rfl rfl ?_
  refine st_callV (st := [vI 0, vR 300]) C dL_conflict_5 [vI p0, vI p1] hc h0 w_L_47 rfl (Nat.le_refl _) (by decide) (by omega) (by omega) (Nat.le_of_ble_eq_true rfl) (ko_gx (fun h1 hq9 => ?_))
  refine st_catch (nm := "java/lang/IndexOutOfBoundsException") (j := 4) (len := 2) C [] [(0, 10, 17, 50)] (0, 10, 13, 27) rfl (fun z hz => nomatch hz) ⟨_, rfl, by decide, by decide, rfl, cl_L_27⟩ ca_IOB (by decide) (Or.inl ⟨dL_conflict_13, rfl⟩) [(0, vR 0), (1, vI p0), (2, vI p1)] rfl ?_
  show T x 15 [(0, vR 0), (1, vI p0), (2, vI p1)] [] _ _ _
  refine st_iconst C dL_conflict_15 (by decide) ?_
  exact st_ireturn C F dL_conflict_16 rfl ⟨rfl, hq9⟩ (by omega) (by omega)
set_option maxRecDepth 20000 in
set_option maxHeartbeats 4000000 in
theorem w_conflict_x2 {g : Gx} {h : HP} {Q : HP → Prop} {dz mz sz : Nat} {fs : List PV} {p0 p1 : Int} (h0 : h 0 = some (oO 9 fs)) (hc : Ct g yX10_conflict (.code yX10_conflict cX10_conflict 4 (some .int)) dz mz sz [vR 0, vI p0, vI p1] h (fun r h1 => r = .inr "java/util/NoSuchElementException" ∧ Q h1)) : Ct g yL_conflict (.codeWith yL_conflict cL_conflict 5 (some .int) [(0, 10, 13, 27), (0, 10, 17, 50)]) (dz + 1) mz sz [vR 0, vI p0, vI p1, vR 300] h (fun r h1 => r = .inl (some (vI 2)) ∧ Q h1) := by
  refine Ct.ofW (by decide) (Nat.le_of_ble_eq_true rfl) (fun x hg C F => ?_)
  subst hg
  show T x 0 [(0, vR 0), (1, vI p0), (2, vI p1), (3, vR 300)] [] h 0 0
  refine st_aload_n C 3 dL_conflict_0 rfl rfl ?_
  refine st_iconst C dL_conflict_1 (by decide) ?_
  refine st_aload_n C 0 dL_conflict_2 rfl rfl ?_
  refine st_iload_n C 1 dL_conflict_3 rfl rfl ?_
  refine st_iload_n C 2 dL_conflict_4 rfl rfl ?_
  refine st_callV (st := [vI 0, vR 300]) C dL_conflict_5 [vI p0, vI p1] hc h0 w_L_47 rfl (Nat.le_refl _) (by decide) (by omega) (by omega) (Nat.le_of_ble_eq_true rfl) (ko_gx (fun h1 hq9 => ?_))
  refine st_catch (nm := "java/util/NoSuchElementException") (j := 4) (len := 2) C [(0, 10, 13, 27)] [] (0, 10, 17, 50) rfl (List.forall_mem_cons.mpr ⟨Or.inr ⟨by decide, "java/lang/IndexOutOfBoundsException", cl_L_27, by decide⟩, (fun z hz => nomatch hz)⟩) ⟨_, rfl, by decide, by decide, rfl, cl_L_50⟩ ca_NSE (by decide) (Or.inl ⟨dL_conflict_17, rfl⟩) [(0, vR 0), (1, vI p0), (2, vI p1)] rfl ?_
  show T x 19 [(0, vR 0), (1, vI p0), (2, vI p1)] [] _ _ _
  refine st_iconst C dL_conflict_19 (by decide) ?_
  exact st_ireturn C F dL_conflict_20 rfl ⟨rfl, hq9⟩ (by omega) (by omega)
set_option maxRecDepth 20000 in
set_option maxHeartbeats 4000000 in
theorem w_conflicts_ok {g : Gx} {h : HP} {Q : HP → Prop} {dz mz sz : Nat} {fs : List PV} {p0 : Int} {v : Int} {fo : Int → Int} (h0 : h 0 = some (oO 9 fs)) (hc : Ct g yX10_conflicts (.code yX10_conflicts cX10_conflicts 2 (some .int)) dz mz sz [vR 0, vI p0] h (fun r h1 => r = .inl (some (vI v)) ∧ Q h1)) (hq : ∀ h1, Q h1 → h1 300 = some (oJ 1 fo)) : Ct g yL_conflicts (.codeWith yL_conflicts cL_conflicts 4 (some .int) [(0, 9, 12, 27)]) (dz + 1) mz sz [vR 0, vI p0, vR 300] h (fun r h1 => r = .inl (some (vI 0)) ∧ ∃ h2, Q h2 ∧ h1 = hput h2 300 (oJ 1 (fput fo 0 v))) := by
  refine Ct.ofW (by decide) (Nat.le_of_ble_eq_true rfl) (fun x hg C F => ?_)
  subst hg
  show T x 0 [(0, vR 0), (1, vI p0), (2, vR 300)] [] h 0 0
  refine st_aload_n C 2 dL_conflicts_0 rfl rfl ?_
  refine st_iconst C dL_conflicts_1 (by decide) ?_
  refine st_aload_n C 0 dL_conflicts_2 rfl rfl ?_
  refine st_iload_n C 1 dL_conflicts_3 rfl rfl ?_
  refine st_callV (st := [vI 0, vR 300]) C dL_conflicts_4 [vI p0] hc h0 w_L_44 rfl (Nat.le_refl _) (by decide) (by omega) (by omega) (Nat.le_of_ble_eq_true rfl) (ko_ge (fun h1 hq9 => ?_))
  show T x 7 [(0, vR 0), (1, vI p0), (2, vR 300)] [vI v, vI 0, vR 300] _ _ _
  refine st_i2l C dL_conflicts_7 ?_
  refine st_last C dL_conflicts_8 (hq h1 hq9) (by omega) (by omega) ?_
  refine st_goto (tgt := 15) C dL_conflicts_9 (by decide) ?_
  refine st_iconst C dL_conflicts_15 (by decide) ?_
  exact st_ireturn C F dL_conflicts_16 rfl ⟨rfl, h1, hq9, rfl⟩ (by omega) (by omega)
set_option maxRecDepth 20000 in
set_option maxHeartbeats 4000000 in
theorem w_conflicts_x1 {g : Gx} {h : HP} {Q : HP → Prop} {dz mz sz : Nat} {fs : List PV} {p0 : Int} (h0 : h 0 = some (oO 9 fs)) (hc : Ct g yX10_conflicts (.code yX10_conflicts cX10_conflicts 2 (some .int)) dz mz sz [vR 0, vI p0] h (fun r h1 => r = .inr "java/lang/IndexOutOfBoundsException" ∧ Q h1)) : Ct g yL_conflicts (.codeWith yL_conflicts cL_conflicts 4 (some .int) [(0, 9, 12, 27)]) (dz + 1) mz sz [vR 0, vI p0, vR 300] h (fun r h1 => r = .inl (some (vI 1)) ∧ Q h1) := by
  refine Ct.ofW (by decide) (Nat.le_of_ble_eq_true rfl) (fun x hg C F => ?_)
  subst hg
  show T x 0 [(0, vR 0), (1, vI p0), (2, vR 300)] [] h 0 0
  refine st_aload_n C 2 dL_conflicts_0 rfl rfl ?_
  refine st_iconst C dL_conflicts_1 (by decide) ?_
  refine st_aload_n C 0 dL_conflicts_2 rfl rfl ?_
  refine st_iload_n C 1 dL_conflicts_3 rfl rfl ?_
  refine st_callV (st := [vI 0, vR 300]) C dL_conflicts_4 [vI p0] hc h0 w_L_44 rfl (Nat.le_refl _) (by decide) (by omega) (by omega) (Nat.le_of_ble_eq_true rfl) (ko_gx (fun h1 hq9 => ?_))
  refine st_catch (nm := "java/lang/IndexOutOfBoundsException") (j := 3) (len := 1) C [] [] (0, 9, 12, 27) rfl (fun z hz => nomatch hz) ⟨_, rfl, by decide, by decide, rfl, cl_L_27⟩ ca_IOB (by decide) (Or.inr ⟨_, dL_conflicts_12, rfl, rfl⟩) [(0, vR 0), (1, vI p0)] rfl ?_
  show T x 13 [(0, vR 0), (1, vI p0)] [] _ _ _
  refine st_iconst C dL_conflicts_13 (by decide) ?_
  exact st_ireturn C F dL_conflicts_14 rfl ⟨rfl, hq9⟩ (by omega) (by omega)
set_option maxRecDepth 20000 in
set_option maxHeartbeats 4000000 in
theorem w_device_ok {g : Gx} {h : HP} {Q : HP → Prop} {dz mz sz : Nat} {fs : List PV} {v : Int} {fo : Int → Int} (h0 : h 0 = some (oO 9 fs)) (hc : Ct g yX10_device (.code yX10_device cX10_device 1 (some .int)) dz mz sz [vR 0] h (fun r h1 => r = .inl (some (vI v)) ∧ Q h1)) (hq : ∀ h1, Q h1 → h1 300 = some (oJ 1 fo)) : Ct g yL_device (.codeWith yL_device cL_device 3 (some .int) [(0, 8, 11, 17)]) (dz + 1) mz sz [vR 0, vR 300] h (fun r h1 => r = .inl (some (vI 0)) ∧ ∃ h2, Q h2 ∧ h1 = hput h2 300 (oJ 1 (fput fo 0 v))) := by
  refine Ct.ofW (by decide) (Nat.le_of_ble_eq_true rfl) (fun x hg C F => ?_)
  subst hg
  show T x 0 [(0, vR 0), (1, vR 300)] [] h 0 0
  refine st_aload_n C 1 dL_device_0 rfl rfl ?_
  refine st_iconst C dL_device_1 (by decide) ?_
  refine st_aload_n C 0 dL_device_2 rfl rfl ?_
  refine st_callV (st := [vI 0, vR 300]) C dL_device_3 [] hc h0 w_L_101 rfl (Nat.le_refl _) (by decide) (by omega) (by omega) (Nat.le_of_ble_eq_true rfl) (ko_ge (fun h1 hq9 => ?_))
  show T x 6 [(0, vR 0), (1, vR 300)] [vI v, vI 0, vR 300] _ _ _
  refine st_i2l C dL_device_6 ?_
  refine st_last C dL_device_7 (hq h1 hq9) (by omega) (by omega) ?_
  refine st_goto (tgt := 14) C dL_device_8 (by decide) ?_
  refine st_iconst C dL_device_14 (by decide) ?_
  exact st_ireturn C F dL_device_15 rfl ⟨rfl, h1, hq9, rfl⟩ (by omega) (by omega)
set_option maxRecDepth 20000 in
set_option maxHeartbeats 4000000 in
theorem w_device_x1 {g : Gx} {h : HP} {Q : HP → Prop} {dz mz sz : Nat} {fs : List PV} (h0 : h 0 = some (oO 9 fs)) (hc : Ct g yX10_device (.code yX10_device cX10_device 1 (some .int)) dz mz sz [vR 0] h (fun r h1 => r = .inr "java/lang/IllegalStateException" ∧ Q h1)) : Ct g yL_device (.codeWith yL_device cL_device 3 (some .int) [(0, 8, 11, 17)]) (dz + 1) mz sz [vR 0, vR 300] h (fun r h1 => r = .inl (some (vI 1)) ∧ Q h1) := by
  refine Ct.ofW (by decide) (Nat.le_of_ble_eq_true rfl) (fun x hg C F => ?_)
  subst hg
  show T x 0 [(0, vR 0), (1, vR 300)] [] h 0 0
  refine st_aload_n C 1 dL_device_0 rfl rfl ?_
  refine st_iconst C dL_device_1 (by decide) ?_
  refine st_aload_n C 0 dL_device_2 rfl rfl ?_
  refine st_callV (st := [vI 0, vR 300]) C dL_device_3 [] hc h0 w_L_101 rfl (Nat.le_refl _) (by decide) (by omega) (by omega) (Nat.le_of_ble_eq_true rfl) (ko_gx (fun h1 hq9 => ?_))
  refine st_catch (nm := "java/lang/IllegalStateException") (j := 2) (len := 1) C [] [] (0, 8, 11, 17) rfl (fun z hz => nomatch hz) ⟨_, rfl, by decide, by decide, rfl, cl_L_17⟩ ca_ISE (by decide) (Or.inr ⟨_, dL_device_11, rfl, rfl⟩) [(0, vR 0)] rfl ?_
  show T x 12 [(0, vR 0)] [] _ _ _
  refine st_iconst C dL_device_12 (by decide) ?_
  exact st_ireturn C F dL_device_13 rfl ⟨rfl, hq9⟩ (by omega) (by omega)
set_option maxRecDepth 20000 in
set_option maxHeartbeats 4000000 in
theorem w_drop_ok {g : Gx} {h : HP} {Q : HP → Prop} {dz mz sz : Nat} {fs : List PV} {p0 : Int} {v : Int} {fo : Int → Int} (h0 : h 0 = some (oO 9 fs)) (hc : Ct g yX10_drop (.code yX10_drop cX10_drop 3 (some .int)) dz mz sz [vR 0, vI p0] h (fun r h1 => r = .inl (some (vI v)) ∧ Q h1)) (hq : ∀ h1, Q h1 → h1 300 = some (oJ 1 fo)) : Ct g yL_drop (.codeWith yL_drop cL_drop 4 (some .int) [(0, 9, 12, 27)]) (dz + 1) mz sz [vR 0, vI p0, vR 300] h (fun r h1 => r = .inl (some (vI 0)) ∧ ∃ h2, Q h2 ∧ h1 = hput h2 300 (oJ 1 (fput fo 0 v))) := by
  refine Ct.ofW (by decide) (Nat.le_of_ble_eq_true rfl) (fun x hg C F => ?_)
  subst hg
  show T x 0 [(0, vR 0), (1, vI p0), (2, vR 300)] [] h 0 0
  refine st_aload_n C 2 dL_drop_0 rfl rfl ?_
  refine st_iconst C dL_drop_1 (by decide) ?_
  refine st_aload_n C 0 dL_drop_2 rfl rfl ?_
  refine st_iload_n C 1 dL_drop_3 rfl rfl ?_
  refine st_callV (st := [vI 0, vR 300]) C dL_drop_4 [vI p0] hc h0 w_L_23 rfl (Nat.le_refl _) (by decide) (by omega) (by omega) (Nat.le_of_ble_eq_true rfl) (ko_ge (fun h1 hq9 => ?_))
  show T x 7 [(0, vR 0), (1, vI p0), (2, vR 300)] [vI v, vI 0, vR 300] _ _ _
  refine st_i2l C dL_drop_7 ?_
  refine st_last C dL_drop_8 (hq h1 hq9) (by omega) (by omega) ?_
  refine st_goto (tgt := 15) C dL_drop_9 (by decide) ?_
  refine st_iconst C dL_drop_15 (by decide) ?_
  exact st_ireturn C F dL_drop_16 rfl ⟨rfl, h1, hq9, rfl⟩ (by omega) (by omega)
set_option maxRecDepth 20000 in
set_option maxHeartbeats 4000000 in
theorem w_drop_x1 {g : Gx} {h : HP} {Q : HP → Prop} {dz mz sz : Nat} {fs : List PV} {p0 : Int} (h0 : h 0 = some (oO 9 fs)) (hc : Ct g yX10_drop (.code yX10_drop cX10_drop 3 (some .int)) dz mz sz [vR 0, vI p0] h (fun r h1 => r = .inr "java/lang/IndexOutOfBoundsException" ∧ Q h1)) : Ct g yL_drop (.codeWith yL_drop cL_drop 4 (some .int) [(0, 9, 12, 27)]) (dz + 1) mz sz [vR 0, vI p0, vR 300] h (fun r h1 => r = .inl (some (vI 1)) ∧ Q h1) := by
  refine Ct.ofW (by decide) (Nat.le_of_ble_eq_true rfl) (fun x hg C F => ?_)
  subst hg
  show T x 0 [(0, vR 0), (1, vI p0), (2, vR 300)] [] h 0 0
  refine st_aload_n C 2 dL_drop_0 rfl rfl ?_
  refine st_iconst C dL_drop_1 (by decide) ?_
  refine st_aload_n C 0 dL_drop_2 rfl rfl ?_
  refine st_iload_n C 1 dL_drop_3 rfl rfl ?_
  refine st_callV (st := [vI 0, vR 300]) C dL_drop_4 [vI p0] hc h0 w_L_23 rfl (Nat.le_refl _) (by decide) (by omega) (by omega) (Nat.le_of_ble_eq_true rfl) (ko_gx (fun h1 hq9 => ?_))
  refine st_catch (nm := "java/lang/IndexOutOfBoundsException") (j := 3) (len := 1) C [] [] (0, 9, 12, 27) rfl (fun z hz => nomatch hz) ⟨_, rfl, by decide, by decide, rfl, cl_L_27⟩ ca_IOB (by decide) (Or.inr ⟨_, dL_drop_12, rfl, rfl⟩) [(0, vR 0), (1, vI p0)] rfl ?_
  show T x 13 [(0, vR 0), (1, vI p0)] [] _ _ _
  refine st_iconst C dL_drop_13 (by decide) ?_
  exact st_ireturn C F dL_drop_14 rfl ⟨rfl, hq9⟩ (by omega) (by omega)
set_option maxRecDepth 20000 in
set_option maxHeartbeats 4000000 in
theorem w_edits_ok {g : Gx} {h : HP} {Q : HP → Prop} {dz mz sz : Nat} {fs : List PV} {p0 : Int} {v : Int} {fo : Int → Int} (h0 : h 0 = some (oO 9 fs)) (hc : Ct g yX10_edits (.code yX10_edits cX10_edits 2 (some .int)) dz mz sz [vR 0, vI p0] h (fun r h1 => r = .inl (some (vI v)) ∧ Q h1)) (hq : ∀ h1, Q h1 → h1 300 = some (oJ 1 fo)) : Ct g yL_edits (.codeWith yL_edits cL_edits 4 (some .int) [(0, 9, 12, 27)]) (dz + 1) mz sz [vR 0, vI p0, vR 300] h (fun r h1 => r = .inl (some (vI 0)) ∧ ∃ h2, Q h2 ∧ h1 = hput h2 300 (oJ 1 (fput fo 0 v))) := by
  refine Ct.ofW (by decide) (Nat.le_of_ble_eq_true rfl) (fun x hg C F => ?_)
  subst hg
  show T x 0 [(0, vR 0), (1, vI p0), (2, vR 300)] [] h 0 0
  refine st_aload_n C 2 dL_edits_0 rfl rfl ?_
  refine st_iconst C dL_edits_1 (by decide) ?_
  refine st_aload_n C 0 dL_edits_2 rfl rfl ?_
  refine st_iload_n C 1 dL_edits_3 rfl rfl ?_
  refine st_callV (st := [vI 0, vR 300]) C dL_edits_4 [vI p0] hc h0 w_L_41 rfl (Nat.le_refl _) (by decide) (by omega) (by omega) (Nat.le_of_ble_eq_true rfl) (ko_ge (fun h1 hq9 => ?_))
  show T x 7 [(0, vR 0), (1, vI p0), (2, vR 300)] [vI v, vI 0, vR 300] _ _ _
  refine st_i2l C dL_edits_7 ?_
  refine st_last C dL_edits_8 (hq h1 hq9) (by omega) (by omega) ?_
  refine st_goto (tgt := 15) C dL_edits_9 (by decide) ?_
  refine st_iconst C dL_edits_15 (by decide) ?_
  exact st_ireturn C F dL_edits_16 rfl ⟨rfl, h1, hq9, rfl⟩ (by omega) (by omega)
set_option maxRecDepth 20000 in
set_option maxHeartbeats 4000000 in
theorem w_edits_x1 {g : Gx} {h : HP} {Q : HP → Prop} {dz mz sz : Nat} {fs : List PV} {p0 : Int} (h0 : h 0 = some (oO 9 fs)) (hc : Ct g yX10_edits (.code yX10_edits cX10_edits 2 (some .int)) dz mz sz [vR 0, vI p0] h (fun r h1 => r = .inr "java/lang/IndexOutOfBoundsException" ∧ Q h1)) : Ct g yL_edits (.codeWith yL_edits cL_edits 4 (some .int) [(0, 9, 12, 27)]) (dz + 1) mz sz [vR 0, vI p0, vR 300] h (fun r h1 => r = .inl (some (vI 1)) ∧ Q h1) := by
  refine Ct.ofW (by decide) (Nat.le_of_ble_eq_true rfl) (fun x hg C F => ?_)
  subst hg
  show T x 0 [(0, vR 0), (1, vI p0), (2, vR 300)] [] h 0 0
  refine st_aload_n C 2 dL_edits_0 rfl rfl ?_
  refine st_iconst C dL_edits_1 (by decide) ?_
  refine st_aload_n C 0 dL_edits_2 rfl rfl ?_
  refine st_iload_n C 1 dL_edits_3 rfl rfl ?_
  refine st_callV (st := [vI 0, vR 300]) C dL_edits_4 [vI p0] hc h0 w_L_41 rfl (Nat.le_refl _) (by decide) (by omega) (by omega) (Nat.le_of_ble_eq_true rfl) (ko_gx (fun h1 hq9 => ?_))
  refine st_catch (nm := "java/lang/IndexOutOfBoundsException") (j := 3) (len := 1) C [] [] (0, 9, 12, 27) rfl (fun z hz => nomatch hz) ⟨_, rfl, by decide, by decide, rfl, cl_L_27⟩ ca_IOB (by decide) (Or.inr ⟨_, dL_edits_12, rfl, rfl⟩) [(0, vR 0), (1, vI p0)] rfl ?_
  show T x 13 [(0, vR 0), (1, vI p0)] [] _ _ _
  refine st_iconst C dL_edits_13 (by decide) ?_
  exact st_ireturn C F dL_edits_14 rfl ⟨rfl, hq9⟩ (by omega) (by omega)
set_option maxRecDepth 20000 in
set_option maxHeartbeats 4000000 in
theorem w_fullShare_ok {g : Gx} {h : HP} {Q : HP → Prop} {dz mz sz : Nat} {fs : List PV} {p0 : Int} {v : UInt32} {fo : Int → UInt64} (h0 : h 0 = some (oO 9 fs)) (hc : Ct g yX10_fullShare (.code yX10_fullShare cX10_fullShare 2 (some .float)) dz mz sz [vR 0, vI p0] h (fun r h1 => r = .inl (some (vF v)) ∧ Q h1)) (hq : ∀ h1, Q h1 → h1 301 = some (oD 1 fo)) (hn : vf_n64 (FP.f2d v)) : Ct g yL_fullShare (.codeWith yL_fullShare cL_fullShare 4 (some .int) [(0, 9, 12, 13)]) (dz + 1) mz sz [vR 0, vI p0, vR 301] h (fun r h1 => r = .inl (some (vI 0)) ∧ ∃ h2, Q h2 ∧ h1 = hput h2 301 (oD 1 (fput fo 0 (FP.f2d v)))) := by
  refine Ct.ofW (by decide) (Nat.le_of_ble_eq_true rfl) (fun x hg C F => ?_)
  subst hg
  show T x 0 [(0, vR 0), (1, vI p0), (2, vR 301)] [] h 0 0
  refine st_aload_n C 2 dL_fullShare_0 rfl rfl ?_
  refine st_iconst C dL_fullShare_1 (by decide) ?_
  refine st_aload_n C 0 dL_fullShare_2 rfl rfl ?_
  refine st_iload_n C 1 dL_fullShare_3 rfl rfl ?_
  refine st_callV (st := [vI 0, vR 301]) C dL_fullShare_4 [vI p0] hc h0 w_L_114 rfl (Nat.le_refl _) (by decide) (by omega) (by omega) (Nat.le_of_ble_eq_true rfl) (ko_ge (fun h1 hq9 => ?_))
  show T x 7 [(0, vR 0), (1, vI p0), (2, vR 301)] [vF v, vI 0, vR 301] _ _ _
  refine st_f2d C dL_fullShare_7 hn ?_
  refine st_dast C dL_fullShare_8 (hq h1 hq9) (by omega) (by omega) ?_
  refine st_goto (tgt := 15) C dL_fullShare_9 (by decide) ?_
  refine st_iconst C dL_fullShare_15 (by decide) ?_
  exact st_ireturn C F dL_fullShare_16 rfl ⟨rfl, h1, hq9, rfl⟩ (by omega) (by omega)
set_option maxRecDepth 20000 in
set_option maxHeartbeats 4000000 in
theorem w_fullShare_x1 {g : Gx} {h : HP} {Q : HP → Prop} {dz mz sz : Nat} {fs : List PV} {p0 : Int} (h0 : h 0 = some (oO 9 fs)) (hc : Ct g yX10_fullShare (.code yX10_fullShare cX10_fullShare 2 (some .float)) dz mz sz [vR 0, vI p0] h (fun r h1 => r = .inr "java/lang/IllegalArgumentException" ∧ Q h1)) : Ct g yL_fullShare (.codeWith yL_fullShare cL_fullShare 4 (some .int) [(0, 9, 12, 13)]) (dz + 1) mz sz [vR 0, vI p0, vR 301] h (fun r h1 => r = .inl (some (vI 1)) ∧ Q h1) := by
  refine Ct.ofW (by decide) (Nat.le_of_ble_eq_true rfl) (fun x hg C F => ?_)
  subst hg
  show T x 0 [(0, vR 0), (1, vI p0), (2, vR 301)] [] h 0 0
  refine st_aload_n C 2 dL_fullShare_0 rfl rfl ?_
  refine st_iconst C dL_fullShare_1 (by decide) ?_
  refine st_aload_n C 0 dL_fullShare_2 rfl rfl ?_
  refine st_iload_n C 1 dL_fullShare_3 rfl rfl ?_
  refine st_callV (st := [vI 0, vR 301]) C dL_fullShare_4 [vI p0] hc h0 w_L_114 rfl (Nat.le_refl _) (by decide) (by omega) (by omega) (Nat.le_of_ble_eq_true rfl) (ko_gx (fun h1 hq9 => ?_))
  refine st_catch (nm := "java/lang/IllegalArgumentException") (j := 3) (len := 1) C [] [] (0, 9, 12, 13) rfl (fun z hz => nomatch hz) ⟨_, rfl, by decide, by decide, rfl, cl_L_13⟩ ca_IAE (by decide) (Or.inr ⟨_, dL_fullShare_12, rfl, rfl⟩) [(0, vR 0), (1, vI p0)] rfl ?_
  show T x 13 [(0, vR 0), (1, vI p0)] [] _ _ _
  refine st_iconst C dL_fullShare_13 (by decide) ?_
  exact st_ireturn C F dL_fullShare_14 rfl ⟨rfl, hq9⟩ (by omega) (by omega)
set_option maxRecDepth 20000 in
set_option maxHeartbeats 4000000 in
theorem w_home_ok {g : Gx} {h : HP} {Q : HP → Prop} {dz mz sz : Nat} {fs : List PV} {p0 p1 p2 p3 : Int} {v : Int} {fo : Int → Int} (h0 : h 0 = some (oO 9 fs)) (hc : Ct g yX10_home (.code yX10_home cX10_home 7 (some .int)) dz mz sz [vR 0, vI p0, vI p1, vI p2, vI p3] h (fun r h1 => r = .inl (some (vI v)) ∧ Q h1)) (hq : ∀ h1, Q h1 → h1 300 = some (oJ 1 fo)) : Ct g yL_home (.codeWith yL_home cL_home 7 (some .int) [(0, 14, 17, 27), (0, 14, 21, 13)]) (dz + 1) mz sz [vR 0, vI p0, vI p1, vI p2, vI p3, vR 300] h (fun r h1 => r = .inl (some (vI 0)) ∧ ∃ h2, Q h2 ∧ h1 = hput h2 300 (oJ 1 (fput fo 0 v))) := by
  refine Ct.ofW (by decide) (Nat.le_of_ble_eq_true rfl) (fun x hg C F => ?_)
  subst hg
  show T x 0 [(0, vR 0), (1, vI p0), (2, vI p1), (3, vI p2), (4, vI p3), (5, vR 300)] [] h 0 0
  refine st_aload C dL_home_0 rfl ?_
  refine st_iconst C dL_home_2 (by decide) ?_
  refine st_aload_n C 0 dL_home_3 rfl rfl ?_
  refine st_iload_n C 1 dL_home_4 rfl rfl ?_
  refine st_iload_n C 2 dL_home_5 rfl rfl ?_
  refine st_iload_n C 3 dL_home_6 rfl rfl ?_
  refine st_iload C dL_home_7 rfl ?_
  refine st_callV (st := [vI 0, vR 300]) C dL_home_9 [vI p0, vI p1, vI p2, vI p3] hc h0 w_L_108 rfl (Nat.le_refl _) (by decide) (by omega) (by omega) (Nat.le_of_ble_eq_true rfl) (ko_ge (fun h1 hq9 => ?_))
  show T x 12 [(0, vR 0), (1, vI p0), (2, vI p1), (3, vI p2), (4, vI p3), (5, vR 300)] [vI v, vI 0, vR 300] _ _ _
  refine st_i2l C dL_home_12 ?_
  refine st_last C dL_home_13 (hq h1 hq9) (by omega) (by omega) ?_
  refine st_goto (tgt := 25) C dL_home_14 (by decide) ?_
  refine st_iconst C dL_home_25 (by decide) ?_
  exact st_ireturn C F dL_home_26 rfl ⟨rfl, h1, hq9, rfl⟩ (by omega) (by omega)
set_option maxRecDepth 20000 in
set_option maxHeartbeats 4000000 in
theorem w_home_x1 {g : Gx} {h : HP} {Q : HP → Prop} {dz mz sz : Nat} {fs : List PV} {p0 p1 p2 p3 : Int} (h0 : h 0 = some (oO 9 fs)) (hc : Ct g yX10_home (.code yX10_home cX10_home 7 (some .int)) dz mz sz [vR 0, vI p0, vI p1, vI p2, vI p3] h (fun r h1 => r = .inr "java/lang/IndexOutOfBoundsException" ∧ Q h1)) : Ct g yL_home (.codeWith yL_home cL_home 7 (some .int) [(0, 14, 17, 27), (0, 14, 21, 13)]) (dz + 1) mz sz [vR 0, vI p0, vI p1, vI p2, vI p3, vR 300] h (fun r h1 => r = .inl (some (vI 1)) ∧ Q h1) := by
  refine Ct.ofW (by decide) (Nat.le_of_ble_eq_true rfl) (fun x hg C F => ?_)
  subst hg
  show T x 0 [(0, vR 0), (1, vI p0), (2, vI p1), (3, vI p2), (4, vI p3), (5, vR 300)] [] h 0 0
  refine st_aload C dL_home_0 rfl ?_
  refine st_iconst C dL_home_2 (by decide) ?_
  refine st_aload_n C 0 dL_home_3 rfl rfl ?_
  refine st_iload_n C 1 dL_home_4 rfl rfl ?_
  refine st_iload_n C 2 dL_home_5 rfl rfl ?_
  refine st_iload_n C 3 dL_home_6 rfl rfl ?_
  refine st_iload C dL_home_7 rfl ?_
  refine st_callV (st := [vI 0, vR 300]) C dL_home_9 [vI p0, vI p1, vI p2, vI p3] hc h0 w_L_108 rfl (Nat.le_refl _) (by decide) (by omega) (by omega) (Nat.le_of_ble_eq_true rfl) (ko_gx (fun h1 hq9 => ?_))
  refine st_catch (nm := "java/lang/IndexOutOfBoundsException") (j := 6) (len := 2) C [] [(0, 14, 21, 13)] (0, 14, 17, 27) rfl (fun z hz => nomatch hz) ⟨_, rfl, by decide, by decide, rfl, cl_L_27⟩ ca_IOB (by decide) (Or.inl ⟨dL_home_17, rfl⟩) [(0, vR 0), (1, vI p0), (2, vI p1), (3, vI p2), (4, vI p3)] rfl ?_
  show T x 19 [(0, vR 0), (1, vI p0), (2, vI p1), (3, vI p2), (4, vI p3)] [] _ _ _
  refine st_iconst C dL_home_19 (by decide) ?_
  exact st_ireturn C F dL_home_20 rfl ⟨rfl, hq9⟩ (by omega) (by omega)
set_option maxRecDepth 20000 in
set_option maxHeartbeats 4000000 in
theorem w_home_x2 {g : Gx} {h : HP} {Q : HP → Prop} {dz mz sz : Nat} {fs : List PV} {p0 p1 p2 p3 : Int} (h0 : h 0 = some (oO 9 fs)) (hc : Ct g yX10_home (.code yX10_home cX10_home 7 (some .int)) dz mz sz [vR 0, vI p0, vI p1, vI p2, vI p3] h (fun r h1 => r = .inr "java/lang/IllegalArgumentException" ∧ Q h1)) : Ct g yL_home (.codeWith yL_home cL_home 7 (some .int) [(0, 14, 17, 27), (0, 14, 21, 13)]) (dz + 1) mz sz [vR 0, vI p0, vI p1, vI p2, vI p3, vR 300] h (fun r h1 => r = .inl (some (vI 2)) ∧ Q h1) := by
  refine Ct.ofW (by decide) (Nat.le_of_ble_eq_true rfl) (fun x hg C F => ?_)
  subst hg
  show T x 0 [(0, vR 0), (1, vI p0), (2, vI p1), (3, vI p2), (4, vI p3), (5, vR 300)] [] h 0 0
  refine st_aload C dL_home_0 rfl ?_
  refine st_iconst C dL_home_2 (by decide) ?_
  refine st_aload_n C 0 dL_home_3 rfl rfl ?_
  refine st_iload_n C 1 dL_home_4 rfl rfl ?_
  refine st_iload_n C 2 dL_home_5 rfl rfl ?_
  refine st_iload_n C 3 dL_home_6 rfl rfl ?_
  refine st_iload C dL_home_7 rfl ?_
  refine st_callV (st := [vI 0, vR 300]) C dL_home_9 [vI p0, vI p1, vI p2, vI p3] hc h0 w_L_108 rfl (Nat.le_refl _) (by decide) (by omega) (by omega) (Nat.le_of_ble_eq_true rfl) (ko_gx (fun h1 hq9 => ?_))
  refine st_catch (nm := "java/lang/IllegalArgumentException") (j := 6) (len := 2) C [(0, 14, 17, 27)] [] (0, 14, 21, 13) rfl (List.forall_mem_cons.mpr ⟨Or.inr ⟨by decide, "java/lang/IndexOutOfBoundsException", cl_L_27, by decide⟩, (fun z hz => nomatch hz)⟩) ⟨_, rfl, by decide, by decide, rfl, cl_L_13⟩ ca_IAE (by decide) (Or.inl ⟨dL_home_21, rfl⟩) [(0, vR 0), (1, vI p0), (2, vI p1), (3, vI p2), (4, vI p3)] rfl ?_
  show T x 23 [(0, vR 0), (1, vI p0), (2, vI p1), (3, vI p2), (4, vI p3)] [] _ _ _
  refine st_iconst C dL_home_23 (by decide) ?_
  exact st_ireturn C F dL_home_24 rfl ⟨rfl, hq9⟩ (by omega) (by omega)
set_option maxRecDepth 20000 in
set_option maxHeartbeats 4000000 in
theorem w_isKept_ok0 {g : Gx} {h : HP} {Q : HP → Prop} {dz mz sz : Nat} {fs : List PV} {p0 p1 p2 p3 : Int} {fo : Int → Int} (h0 : h 0 = some (oO 9 fs)) (hc : Ct g yX10_isKept (.code yX10_isKept cX10_isKept 5 (some .boolean)) dz mz sz [vR 0, vI p0, vI p1, vI p2, vI p3] h (fun r h1 => r = .inl (some (vI 0)) ∧ Q h1)) (hq : ∀ h1, Q h1 → h1 300 = some (oJ 1 fo)) : Ct g yL_isKept (.codeWith yL_isKept cL_isKept 7 (some .int) [(0, 21, 24, 13)]) (dz + 1) mz sz [vR 0, vI p0, vI p1, vI p2, vI p3, vR 300] h (fun r h1 => r = .inl (some (vI 0)) ∧ ∃ h2, Q h2 ∧ h1 = hput h2 300 (oJ 1 (fput fo 0 0))) := by
  refine Ct.ofW (by decide) (Nat.le_of_ble_eq_true rfl) (fun x hg C F => ?_)
  subst hg
  show T x 0 [(0, vR 0), (1, vI p0), (2, vI p1), (3, vI p2), (4, vI p3), (5, vR 300)] [] h 0 0
  refine st_aload C dL_isKept_0 rfl ?_
  refine st_iconst C dL_isKept_2 (by decide) ?_
  refine st_aload_n C 0 dL_isKept_3 rfl rfl ?_
  refine st_iload_n C 1 dL_isKept_4 rfl rfl ?_
  refine st_iload_n C 2 dL_isKept_5 rfl rfl ?_
  refine st_iload_n C 3 dL_isKept_6 rfl rfl ?_
  refine st_iload C dL_isKept_7 rfl ?_
  refine st_callV (st := [vI 0, vR 300]) C dL_isKept_9 [vI p0, vI p1, vI p2, vI p3] hc h0 w_L_82 rfl (Nat.le_refl _) (by decide) (by omega) (by omega) (Nat.le_of_ble_eq_true rfl) (ko_ge (fun h1 hq9 => ?_))
  show T x 12 [(0, vR 0), (1, vI p0), (2, vI p1), (3, vI p2), (4, vI p3), (5, vR 300)] [vI 0, vI 0, vR 300] _ _ _
  refine st_if_eq (tgt := 19) C dL_isKept_12 (by decide) (fun c_12 => ?_) (fun c_12 => by omega)
  refine st_lconst (a := 0) C dL_isKept_19 rfl ?_
  refine st_last C dL_isKept_20 (hq h1 hq9) (by omega) (by omega) ?_
  refine st_goto (tgt := 28) C dL_isKept_21 (by decide) ?_
  refine st_iconst C dL_isKept_28 (by decide) ?_
  exact st_ireturn C F dL_isKept_29 rfl ⟨rfl, h1, hq9, rfl⟩ (by omega) (by omega)
set_option maxRecDepth 20000 in
set_option maxHeartbeats 4000000 in
theorem w_isKept_ok1 {g : Gx} {h : HP} {Q : HP → Prop} {dz mz sz : Nat} {fs : List PV} {p0 p1 p2 p3 : Int} {fo : Int → Int} (h0 : h 0 = some (oO 9 fs)) (hc : Ct g yX10_isKept (.code yX10_isKept cX10_isKept 5 (some .boolean)) dz mz sz [vR 0, vI p0, vI p1, vI p2, vI p3] h (fun r h1 => r = .inl (some (vI 1)) ∧ Q h1)) (hq : ∀ h1, Q h1 → h1 300 = some (oJ 1 fo)) : Ct g yL_isKept (.codeWith yL_isKept cL_isKept 7 (some .int) [(0, 21, 24, 13)]) (dz + 1) mz sz [vR 0, vI p0, vI p1, vI p2, vI p3, vR 300] h (fun r h1 => r = .inl (some (vI 0)) ∧ ∃ h2, Q h2 ∧ h1 = hput h2 300 (oJ 1 (fput fo 0 1))) := by
  refine Ct.ofW (by decide) (Nat.le_of_ble_eq_true rfl) (fun x hg C F => ?_)
  subst hg
  show T x 0 [(0, vR 0), (1, vI p0), (2, vI p1), (3, vI p2), (4, vI p3), (5, vR 300)] [] h 0 0
  refine st_aload C dL_isKept_0 rfl ?_
  refine st_iconst C dL_isKept_2 (by decide) ?_
  refine st_aload_n C 0 dL_isKept_3 rfl rfl ?_
  refine st_iload_n C 1 dL_isKept_4 rfl rfl ?_
  refine st_iload_n C 2 dL_isKept_5 rfl rfl ?_
  refine st_iload_n C 3 dL_isKept_6 rfl rfl ?_
  refine st_iload C dL_isKept_7 rfl ?_
  refine st_callV (st := [vI 0, vR 300]) C dL_isKept_9 [vI p0, vI p1, vI p2, vI p3] hc h0 w_L_82 rfl (Nat.le_refl _) (by decide) (by omega) (by omega) (Nat.le_of_ble_eq_true rfl) (ko_ge (fun h1 hq9 => ?_))
  show T x 12 [(0, vR 0), (1, vI p0), (2, vI p1), (3, vI p2), (4, vI p3), (5, vR 300)] [vI 1, vI 0, vR 300] _ _ _
  refine st_if_eq (tgt := 19) C dL_isKept_12 (by decide) (fun c_12 => by omega) (fun c_12 => ?_)
  refine st_lconst (a := 1) C dL_isKept_15 rfl ?_
  refine st_goto (tgt := 20) C dL_isKept_16 (by decide) ?_
  refine st_last C dL_isKept_20 (hq h1 hq9) (by omega) (by omega) ?_
  refine st_goto (tgt := 28) C dL_isKept_21 (by decide) ?_
  refine st_iconst C dL_isKept_28 (by decide) ?_
  exact st_ireturn C F dL_isKept_29 rfl ⟨rfl, h1, hq9, rfl⟩ (by omega) (by omega)
set_option maxRecDepth 20000 in
set_option maxHeartbeats 4000000 in
theorem w_isKept_x1 {g : Gx} {h : HP} {Q : HP → Prop} {dz mz sz : Nat} {fs : List PV} {p0 p1 p2 p3 : Int} (h0 : h 0 = some (oO 9 fs)) (hc : Ct g yX10_isKept (.code yX10_isKept cX10_isKept 5 (some .boolean)) dz mz sz [vR 0, vI p0, vI p1, vI p2, vI p3] h (fun r h1 => r = .inr "java/lang/IllegalArgumentException" ∧ Q h1)) : Ct g yL_isKept (.codeWith yL_isKept cL_isKept 7 (some .int) [(0, 21, 24, 13)]) (dz + 1) mz sz [vR 0, vI p0, vI p1, vI p2, vI p3, vR 300] h (fun r h1 => r = .inl (some (vI 1)) ∧ Q h1) := by
  refine Ct.ofW (by decide) (Nat.le_of_ble_eq_true rfl) (fun x hg C F => ?_)
  subst hg
  show T x 0 [(0, vR 0), (1, vI p0), (2, vI p1), (3, vI p2), (4, vI p3), (5, vR 300)] [] h 0 0
  refine st_aload C dL_isKept_0 rfl ?_
  refine st_iconst C dL_isKept_2 (by decide) ?_
  refine st_aload_n C 0 dL_isKept_3 rfl rfl ?_
  refine st_iload_n C 1 dL_isKept_4 rfl rfl ?_
  refine st_iload_n C 2 dL_isKept_5 rfl rfl ?_
  refine st_iload_n C 3 dL_isKept_6 rfl rfl ?_
  refine st_iload C dL_isKept_7 rfl ?_
  refine st_callV (st := [vI 0, vR 300]) C dL_isKept_9 [vI p0, vI p1, vI p2, vI p3] hc h0 w_L_82 rfl (Nat.le_refl _) (by decide) (by omega) (by omega) (Nat.le_of_ble_eq_true rfl) (ko_gx (fun h1 hq9 => ?_))
  refine st_catch (nm := "java/lang/IllegalArgumentException") (j := 6) (len := 2) C [] [] (0, 21, 24, 13) rfl (fun z hz => nomatch hz) ⟨_, rfl, by decide, by decide, rfl, cl_L_13⟩ ca_IAE (by decide) (Or.inl ⟨dL_isKept_24, rfl⟩) [(0, vR 0), (1, vI p0), (2, vI p1), (3, vI p2), (4, vI p3)] rfl ?_
  show T x 26 [(0, vR 0), (1, vI p0), (2, vI p1), (3, vI p2), (4, vI p3)] [] _ _ _
  refine st_iconst C dL_isKept_26 (by decide) ?_
  exact st_ireturn C F dL_isKept_27 rfl ⟨rfl, hq9⟩ (by omega) (by omega)
set_option maxRecDepth 20000 in
set_option maxHeartbeats 4000000 in
theorem w_leaves_ok {g : Gx} {h : HP} {Q : HP → Prop} {dz mz sz : Nat} {fs : List PV} {p0 : Int} {v : Int} {fo : Int → Int} (h0 : h 0 = some (oO 9 fs)) (hc : Ct g yX10_leaves (.code yX10_leaves cX10_leaves 4 (some .int)) dz mz sz [vR 0, vI p0] h (fun r h1 => r = .inl (some (vI v)) ∧ Q h1)) (hq : ∀ h1, Q h1 → h1 300 = some (oJ 1 fo)) : Ct g yL_leaves (.codeWith yL_leaves cL_leaves 4 (some .int) [(0, 9, 12, 13)]) (dz + 1) mz sz [vR 0, vI p0, vR 300] h (fun r h1 => r = .inl (some (vI 0)) ∧ ∃ h2, Q h2 ∧ h1 = hput h2 300 (oJ 1 (fput fo 0 v))) := by
  refine Ct.ofW (by decide) (Nat.le_of_ble_eq_true rfl) (fun x hg C F => ?_)
  subst hg
  show T x 0 [(0, vR 0), (1, vI p0), (2, vR 300)] [] h 0 0
  refine st_aload_n C 2 dL_leaves_0 rfl rfl ?_
  refine st_iconst C dL_leaves_1 (by decide) ?_
  refine st_aload_n C 0 dL_leaves_2 rfl rfl ?_
  refine st_iload_n C 1 dL_leaves_3 rfl rfl ?_
  refine st_callV (st := [vI 0, vR 300]) C dL_leaves_4 [vI p0] hc h0 w_L_86 rfl (Nat.le_refl _) (by decide) (by omega) (by omega) (Nat.le_of_ble_eq_true rfl) (ko_ge (fun h1 hq9 => ?_))
  show T x 7 [(0, vR 0), (1, vI p0), (2, vR 300)] [vI v, vI 0, vR 300] _ _ _
  refine st_i2l C dL_leaves_7 ?_
  refine st_last C dL_leaves_8 (hq h1 hq9) (by omega) (by omega) ?_
  refine st_goto (tgt := 15) C dL_leaves_9 (by decide) ?_
  refine st_iconst C dL_leaves_15 (by decide) ?_
  exact st_ireturn C F dL_leaves_16 rfl ⟨rfl, h1, hq9, rfl⟩ (by omega) (by omega)
set_option maxRecDepth 20000 in
set_option maxHeartbeats 4000000 in
theorem w_leaves_x1 {g : Gx} {h : HP} {Q : HP → Prop} {dz mz sz : Nat} {fs : List PV} {p0 : Int} (h0 : h 0 = some (oO 9 fs)) (hc : Ct g yX10_leaves (.code yX10_leaves cX10_leaves 4 (some .int)) dz mz sz [vR 0, vI p0] h (fun r h1 => r = .inr "java/lang/IllegalArgumentException" ∧ Q h1)) : Ct g yL_leaves (.codeWith yL_leaves cL_leaves 4 (some .int) [(0, 9, 12, 13)]) (dz + 1) mz sz [vR 0, vI p0, vR 300] h (fun r h1 => r = .inl (some (vI 1)) ∧ Q h1) := by
  refine Ct.ofW (by decide) (Nat.le_of_ble_eq_true rfl) (fun x hg C F => ?_)
  subst hg
  show T x 0 [(0, vR 0), (1, vI p0), (2, vR 300)] [] h 0 0
  refine st_aload_n C 2 dL_leaves_0 rfl rfl ?_
  refine st_iconst C dL_leaves_1 (by decide) ?_
  refine st_aload_n C 0 dL_leaves_2 rfl rfl ?_
  refine st_iload_n C 1 dL_leaves_3 rfl rfl ?_
  refine st_callV (st := [vI 0, vR 300]) C dL_leaves_4 [vI p0] hc h0 w_L_86 rfl (Nat.le_refl _) (by decide) (by omega) (by omega) (Nat.le_of_ble_eq_true rfl) (ko_gx (fun h1 hq9 => ?_))
  refine st_catch (nm := "java/lang/IllegalArgumentException") (j := 3) (len := 1) C [] [] (0, 9, 12, 13) rfl (fun z hz => nomatch hz) ⟨_, rfl, by decide, by decide, rfl, cl_L_13⟩ ca_IAE (by decide) (Or.inr ⟨_, dL_leaves_12, rfl, rfl⟩) [(0, vR 0), (1, vI p0)] rfl ?_
  show T x 13 [(0, vR 0), (1, vI p0)] [] _ _ _
  refine st_iconst C dL_leaves_13 (by decide) ?_
  exact st_ireturn C F dL_leaves_14 rfl ⟨rfl, hq9⟩ (by omega) (by omega)
set_option maxRecDepth 20000 in
set_option maxHeartbeats 4000000 in
theorem w_meanSize_ok {g : Gx} {h : HP} {Q : HP → Prop} {dz mz sz : Nat} {fs : List PV} {p0 : Int} {v : UInt64} {fo : Int → UInt64} (h0 : h 0 = some (oO 9 fs)) (hc : Ct g yX10_meanSize (.code yX10_meanSize cX10_meanSize 4 (some .double)) dz mz sz [vR 0, vI p0] h (fun r h1 => r = .inl (some (vD v)) ∧ Q h1)) (hq : ∀ h1, Q h1 → h1 301 = some (oD 1 fo)) : Ct g yL_meanSize (.codeWith yL_meanSize cL_meanSize 4 (some .int) [(0, 8, 11, 13), (0, 8, 14, 122)]) (dz + 1) mz sz [vR 0, vI p0, vR 301] h (fun r h1 => r = .inl (some (vI 0)) ∧ ∃ h2, Q h2 ∧ h1 = hput h2 301 (oD 1 (fput fo 0 v))) := by
  refine Ct.ofW (by decide) (Nat.le_of_ble_eq_true rfl) (fun x hg C F => ?_)
  subst hg
  show T x 0 [(0, vR 0), (1, vI p0), (2, vR 301)] [] h 0 0
  refine st_aload_n C 2 dL_meanSize_0 rfl rfl ?_
  refine st_iconst C dL_meanSize_1 (by decide) ?_
  refine st_aload_n C 0 dL_meanSize_2 rfl rfl ?_
  refine st_iload_n C 1 dL_meanSize_3 rfl rfl ?_
  refine st_callV (st := [vI 0, vR 301]) C dL_meanSize_4 [vI p0] hc h0 w_L_118 rfl (Nat.le_refl _) (by decide) (by omega) (by omega) (Nat.le_of_ble_eq_true rfl) (ko_ge (fun h1 hq9 => ?_))
  show T x 7 [(0, vR 0), (1, vI p0), (2, vR 301)] [vD v, vI 0, vR 301] _ _ _
  refine st_dast C dL_meanSize_7 (hq h1 hq9) (by omega) (by omega) ?_
  refine st_goto (tgt := 17) C dL_meanSize_8 (by decide) ?_
  refine st_iconst C dL_meanSize_17 (by decide) ?_
  exact st_ireturn C F dL_meanSize_18 rfl ⟨rfl, h1, hq9, rfl⟩ (by omega) (by omega)
set_option maxRecDepth 20000 in
set_option maxHeartbeats 4000000 in
theorem w_meanSize_x1 {g : Gx} {h : HP} {Q : HP → Prop} {dz mz sz : Nat} {fs : List PV} {p0 : Int} (h0 : h 0 = some (oO 9 fs)) (hc : Ct g yX10_meanSize (.code yX10_meanSize cX10_meanSize 4 (some .double)) dz mz sz [vR 0, vI p0] h (fun r h1 => r = .inr "java/lang/IllegalArgumentException" ∧ Q h1)) : Ct g yL_meanSize (.codeWith yL_meanSize cL_meanSize 4 (some .int) [(0, 8, 11, 13), (0, 8, 14, 122)]) (dz + 1) mz sz [vR 0, vI p0, vR 301] h (fun r h1 => r = .inl (some (vI 1)) ∧ Q h1) := by
  refine Ct.ofW (by decide) (Nat.le_of_ble_eq_true rfl) (fun x hg C F => ?_)
  subst hg
  show T x 0 [(0, vR 0), (1, vI p0), (2, vR 301)] [] h 0 0
  refine st_aload_n C 2 dL_meanSize_0 rfl rfl ?_
  refine st_iconst C dL_meanSize_1 (by decide) ?_
  refine st_aload_n C 0 dL_meanSize_2 rfl rfl ?_
  refine st_iload_n C 1 dL_meanSize_3 rfl rfl ?_
  refine st_callV (st := [vI 0, vR 301]) C dL_meanSize_4 [vI p0] hc h0 w_L_118 rfl (Nat.le_refl _) (by decide) (by omega) (by omega) (Nat.le_of_ble_eq_true rfl) (ko_gx (fun h1 hq9 => ?_))
  refine st_catch (nm := "java/lang/IllegalArgumentException") (j := 3) (len := 1) C [] [(0, 8, 14, 122)] (0, 8, 11, 13) rfl (fun z hz => nomatch hz) ⟨_, rfl, by decide, by decide, rfl, cl_L_13⟩ ca_IAE (by decide) (Or.inr ⟨_, dL_meanSize_11, rfl, rfl⟩) [(0, vR 0), (1, vI p0)] rfl ?_
  show T x 12 [(0, vR 0), (1, vI p0)] [] _ _ _
  refine st_iconst C dL_meanSize_12 (by decide) ?_
  exact st_ireturn C F dL_meanSize_13 rfl ⟨rfl, hq9⟩ (by omega) (by omega)
set_option maxRecDepth 20000 in
set_option maxHeartbeats 4000000 in
theorem w_meanSize_x2 {g : Gx} {h : HP} {Q : HP → Prop} {dz mz sz : Nat} {fs : List PV} {p0 : Int} (h0 : h 0 = some (oO 9 fs)) (hc : Ct g yX10_meanSize (.code yX10_meanSize cX10_meanSize 4 (some .double)) dz mz sz [vR 0, vI p0] h (fun r h1 => r = .inr "java/lang/ArithmeticException" ∧ Q h1)) : Ct g yL_meanSize (.codeWith yL_meanSize cL_meanSize 4 (some .int) [(0, 8, 11, 13), (0, 8, 14, 122)]) (dz + 1) mz sz [vR 0, vI p0, vR 301] h (fun r h1 => r = .inl (some (vI 2)) ∧ Q h1) := by
  refine Ct.ofW (by decide) (Nat.le_of_ble_eq_true rfl) (fun x hg C F => ?_)
  subst hg
  show T x 0 [(0, vR 0), (1, vI p0), (2, vR 301)] [] h 0 0
  refine st_aload_n C 2 dL_meanSize_0 rfl rfl ?_
  refine st_iconst C dL_meanSize_1 (by decide) ?_
  refine st_aload_n C 0 dL_meanSize_2 rfl rfl ?_
  refine st_iload_n C 1 dL_meanSize_3 rfl rfl ?_
  refine st_callV (st := [vI 0, vR 301]) C dL_meanSize_4 [vI p0] hc h0 w_L_118 rfl (Nat.le_refl _) (by decide) (by omega) (by omega) (Nat.le_of_ble_eq_true rfl) (ko_gx (fun h1 hq9 => ?_))
  refine st_catch (nm := "java/lang/ArithmeticException") (j := 3) (len := 1) C [(0, 8, 11, 13)] [] (0, 8, 14, 122) rfl (List.forall_mem_cons.mpr ⟨Or.inr ⟨by decide, "java/lang/IllegalArgumentException", cl_L_13, by decide⟩, (fun z hz => nomatch hz)⟩) ⟨_, rfl, by decide, by decide, rfl, cl_L_122⟩ ca_ARE (by decide) (Or.inr ⟨_, dL_meanSize_14, rfl, rfl⟩) [(0, vR 0), (1, vI p0)] rfl ?_
  show T x 15 [(0, vR 0), (1, vI p0)] [] _ _ _
  refine st_iconst C dL_meanSize_15 (by decide) ?_
  exact st_ireturn C F dL_meanSize_16 rfl ⟨rfl, hq9⟩ (by omega) (by omega)
set_option maxRecDepth 20000 in
set_option maxHeartbeats 4000000 in
theorem w_merge_ok {g : Gx} {h : HP} {Q : HP → Prop} {dz mz sz : Nat} {fs : List PV} {p0 : Int} {v : Int} {fo : Int → Int} (h0 : h 0 = some (oO 9 fs)) (hc : Ct g yX10_merge (.code yX10_merge cX10_merge 4 (some .int)) dz mz sz [vR 0, vI p0] h (fun r h1 => r = .inl (some (vI v)) ∧ Q h1)) (hq : ∀ h1, Q h1 → h1 300 = some (oJ 1 fo)) : Ct g yL_merge (.codeWith yL_merge cL_merge 4 (some .int) [(0, 9, 12, 27), (0, 9, 15, 15), (0, 9, 18, 17)]) (dz + 1) mz sz [vR 0, vI p0, vR 300] h (fun r h1 => r = .inl (some (vI 0)) ∧ ∃ h2, Q h2 ∧ h1 = hput h2 300 (oJ 1 (fput fo 0 v))) := by
  refine Ct.ofW (by decide) (Nat.le_of_ble_eq_true rfl) (fun x hg C F => ?_)
  subst hg
  show T x 0 [(0, vR 0), (1, vI p0), (2, vR 300)] [] h 0 0
  refine st_aload_n C 2 dL_merge_0 rfl rfl ?_
  refine st_iconst C dL_merge_1 (by decide) ?_
  refine st_aload_n C 0 dL_merge_2 rfl rfl ?_
  refine st_iload_n C 1 dL_merge_3 rfl rfl ?_
  refine st_callV (st := [vI 0, vR 300]) C dL_merge_4 [vI p0] hc h0 w_L_59 rfl (Nat.le_refl _) (by decide) (by omega) (by omega) (Nat.le_of_ble_eq_true rfl) (ko_ge (fun h1 hq9 => ?_))
  show T x 7 [(0, vR 0), (1, vI p0), (2, vR 300)] [vI v, vI 0, vR 300] _ _ _
  refine st_i2l C dL_merge_7 ?_
  refine st_last C dL_merge_8 (hq h1 hq9) (by omega) (by omega) ?_
  refine st_goto (tgt := 21) C dL_merge_9 (by decide) ?_
  refine st_iconst C dL_merge_21 (by decide) ?_
  exact st_ireturn C F dL_merge_22 rfl ⟨rfl, h1, hq9, rfl⟩ (by omega) (by omega)
set_option maxRecDepth 20000 in
set_option maxHeartbeats 4000000 in
theorem w_merge_x1 {g : Gx} {h : HP} {Q : HP → Prop} {dz mz sz : Nat} {fs : List PV} {p0 : Int} (h0 : h 0 = some (oO 9 fs)) (hc : Ct g yX10_merge (.code yX10_merge cX10_merge 4 (some .int)) dz mz sz [vR 0, vI p0] h (fun r h1 => r = .inr "java/lang/IndexOutOfBoundsException" ∧ Q h1)) : Ct g yL_merge (.codeWith yL_merge cL_merge 4 (some .int) [(0, 9, 12, 27), (0, 9, 15, 15), (0, 9, 18, 17)]) (dz + 1) mz sz [vR 0, vI p0, vR 300] h (fun r h1 => r = .inl (some (vI 1)) ∧ Q h1) := by
  refine Ct.ofW (by decide) (Nat.le_of_ble_eq_true rfl) (fun x hg C F => ?_)
  subst hg
  show T x 0 [(0, vR 0), (1, vI p0), (2, vR 300)] [] h 0 0
  refine st_aload_n C 2 dL_merge_0 rfl rfl ?_
  refine st_iconst C dL_merge_1 (by decide) ?_
  refine st_aload_n C 0 dL_merge_2 rfl rfl ?_
  refine st_iload_n C 1 dL_merge_3 rfl rfl ?_
  refine st_callV (st := [vI 0, vR 300]) C dL_merge_4 [vI p0] hc h0 w_L_59 rfl (Nat.le_refl _) (by decide) (by omega) (by omega) (Nat.le_of_ble_eq_true rfl) (ko_gx (fun h1 hq9 => ?_))
  refine st_catch (nm := "java/lang/IndexOutOfBoundsException") (j := 3) (len := 1) C [] [(0, 9, 15, 15), (0, 9, 18, 17)] (0, 9, 12, 27) rfl (fun z hz => nomatch hz) ⟨_, rfl, by decide, by decide, rfl, cl_L_27⟩ ca_IOB (by decide) (Or.inr ⟨_, dL_merge_12, rfl, rfl⟩) [(0, vR 0), (1, vI p0)] rfl ?_
  show T x 13 [(0, vR 0), (1, vI p0)] [] _ _ _
  refine st_iconst C dL_merge_13 (by decide) ?_
  exact st_ireturn C F dL_merge_14 rfl ⟨rfl, hq9⟩ (by omega) (by omega)
set_option maxRecDepth 20000 in
set_option maxHeartbeats 4000000 in
theorem w_merge_x2 {g : Gx} {h : HP} {Q : HP → Prop} {dz mz sz : Nat} {fs : List PV} {p0 : Int} (h0 : h 0 = some (oO 9 fs)) (hc : Ct g yX10_merge (.code yX10_merge cX10_merge 4 (some .int)) dz mz sz [vR 0, vI p0] h (fun r h1 => r = .inr "java/lang/UnsupportedOperationException" ∧ Q h1)) : Ct g yL_merge (.codeWith yL_merge cL_merge 4 (some .int) [(0, 9, 12, 27), (0, 9, 15, 15), (0, 9, 18, 17)]) (dz + 1) mz sz [vR 0, vI p0, vR 300] h (fun r h1 => r = .inl (some (vI 2)) ∧ Q h1) := by
  refine Ct.ofW (by decide) (Nat.le_of_ble_eq_true rfl) (fun x hg C F => ?_)
  subst hg
  show T x 0 [(0, vR 0), (1, vI p0), (2, vR 300)] [] h 0 0
  refine st_aload_n C 2 dL_merge_0 rfl rfl ?_
  refine st_iconst C dL_merge_1 (by decide) ?_
  refine st_aload_n C 0 dL_merge_2 rfl rfl ?_
  refine st_iload_n C 1 dL_merge_3 rfl rfl ?_
  refine st_callV (st := [vI 0, vR 300]) C dL_merge_4 [vI p0] hc h0 w_L_59 rfl (Nat.le_refl _) (by decide) (by omega) (by omega) (Nat.le_of_ble_eq_true rfl) (ko_gx (fun h1 hq9 => ?_))
  refine st_catch (nm := "java/lang/UnsupportedOperationException") (j := 3) (len := 1) C [(0, 9, 12, 27)] [(0, 9, 18, 17)] (0, 9, 15, 15) rfl (List.forall_mem_cons.mpr ⟨Or.inr ⟨by decide, "java/lang/IndexOutOfBoundsException", cl_L_27, by decide⟩, (fun z hz => nomatch hz)⟩) ⟨_, rfl, by decide, by decide, rfl, cl_L_15⟩ ca_UOE (by decide) (Or.inr ⟨_, dL_merge_15, rfl, rfl⟩) [(0, vR 0), (1, vI p0)] rfl ?_
  show T x 16 [(0, vR 0), (1, vI p0)] [] _ _ _
  refine st_iconst C dL_merge_16 (by decide) ?_
  exact st_ireturn C F dL_merge_17 rfl ⟨rfl, hq9⟩ (by omega) (by omega)
set_option maxRecDepth 20000 in
set_option maxHeartbeats 4000000 in
theorem w_merge_x3 {g : Gx} {h : HP} {Q : HP → Prop} {dz mz sz : Nat} {fs : List PV} {p0 : Int} (h0 : h 0 = some (oO 9 fs)) (hc : Ct g yX10_merge (.code yX10_merge cX10_merge 4 (some .int)) dz mz sz [vR 0, vI p0] h (fun r h1 => r = .inr "java/lang/IllegalStateException" ∧ Q h1)) : Ct g yL_merge (.codeWith yL_merge cL_merge 4 (some .int) [(0, 9, 12, 27), (0, 9, 15, 15), (0, 9, 18, 17)]) (dz + 1) mz sz [vR 0, vI p0, vR 300] h (fun r h1 => r = .inl (some (vI 3)) ∧ Q h1) := by
  refine Ct.ofW (by decide) (Nat.le_of_ble_eq_true rfl) (fun x hg C F => ?_)
  subst hg
  show T x 0 [(0, vR 0), (1, vI p0), (2, vR 300)] [] h 0 0
  refine st_aload_n C 2 dL_merge_0 rfl rfl ?_
  refine st_iconst C dL_merge_1 (by decide) ?_
  refine st_aload_n C 0 dL_merge_2 rfl rfl ?_
  refine st_iload_n C 1 dL_merge_3 rfl rfl ?_
  refine st_callV (st := [vI 0, vR 300]) C dL_merge_4 [vI p0] hc h0 w_L_59 rfl (Nat.le_refl _) (by decide) (by omega) (by omega) (Nat.le_of_ble_eq_true rfl) (ko_gx (fun h1 hq9 => ?_))
  refine st_catch (nm := "java/lang/IllegalStateException") (j := 3) (len := 1) C [(0, 9, 12, 27), (0, 9, 15, 15)] [] (0, 9, 18, 17) rfl (List.forall_mem_cons.mpr ⟨Or.inr ⟨by decide, "java/lang/IndexOutOfBoundsException", cl_L_27, by decide⟩, (List.forall_mem_cons.mpr ⟨Or.inr ⟨by decide, "java/lang/UnsupportedOperationException", cl_L_15, by decide⟩, (fun z hz => nomatch hz)⟩)⟩) ⟨_, rfl, by decide, by decide, rfl, cl_L_17⟩ ca_ISE (by decide) (Or.inr ⟨_, dL_merge_18, rfl, rfl⟩) [(0, vR 0), (1, vI p0)] rfl ?_
  show T x 19 [(0, vR 0), (1, vI p0)] [] _ _ _
  refine st_iconst C dL_merge_19 (by decide) ?_
  exact st_ireturn C F dL_merge_20 rfl ⟨rfl, hq9⟩ (by omega) (by omega)
set_option maxRecDepth 20000 in
set_option maxHeartbeats 4000000 in
theorem w_next_ok {g : Gx} {h : HP} {Q : HP → Prop} {dz mz sz : Nat} {fs : List PV} {v : Int} {fo : Int → Int} (h0 : h 0 = some (oO 9 fs)) (hc : Ct g yX10_next (.code yX10_next cX10_next 2 (some .int)) dz mz sz [vR 0] h (fun r h1 => r = .inl (some (vI v)) ∧ Q h1)) (hq : ∀ h1, Q h1 → h1 300 = some (oJ 1 fo)) : Ct g yL_next (.codeWith yL_next cL_next 3 (some .int) [(0, 8, 11, 17), (0, 8, 14, 50)]) (dz + 1) mz sz [vR 0, vR 300] h (fun r h1 => r = .inl (some (vI 0)) ∧ ∃ h2, Q h2 ∧ h1 = hput h2 300 (oJ 1 (fput fo 0 v))) := by
  refine Ct.ofW (by decide) (Nat.le_of_ble_eq_true rfl) (fun x hg C F => ?_)
  subst hg
  show T x 0 [(0, vR 0), (1, vR 300)] [] h 0 0
  refine st_aload_n C 1 dL_next_0 rfl rfl ?_
  refine st_iconst C dL_next_1 (by decide) ?_
  refine st_aload_n C 0 dL_next_2 rfl rfl ?_
  refine st_callV (st := [vI 0, vR 300]) C dL_next_3 [] hc h0 w_L_98 rfl (Nat.le_refl _) (by decide) (by omega) (by omega) (Nat.le_of_ble_eq_true rfl) (ko_ge (fun h1 hq9 => ?_))
  show T x 6 [(0, vR 0), (1, vR 300)] [vI v, vI 0, vR 300] _ _ _
  refine st_i2l C dL_next_6 ?_
  refine st_last C dL_next_7 (hq h1 hq9) (by omega) (by omega) ?_
  refine st_goto (tgt := 17) C dL_next_8 (by decide) ?_
  refine st_iconst C dL_next_17 (by decide) ?_
  exact st_ireturn C F dL_next_18 rfl ⟨rfl, h1, hq9, rfl⟩ (by omega) (by omega)
set_option maxRecDepth 20000 in
set_option maxHeartbeats 4000000 in
theorem w_next_x1 {g : Gx} {h : HP} {Q : HP → Prop} {dz mz sz : Nat} {fs : List PV} (h0 : h 0 = some (oO 9 fs)) (hc : Ct g yX10_next (.code yX10_next cX10_next 2 (some .int)) dz mz sz [vR 0] h (fun r h1 => r = .inr "java/lang/IllegalStateException" ∧ Q h1)) : Ct g yL_next (.codeWith yL_next cL_next 3 (some .int) [(0, 8, 11, 17), (0, 8, 14, 50)]) (dz + 1) mz sz [vR 0, vR 300] h (fun r h1 => r = .inl (some (vI 1)) ∧ Q h1) := by
  refine Ct.ofW (by decide) (Nat.le_of_ble_eq_true rfl) (fun x hg C F => ?_)
  subst hg
  show T x 0 [(0, vR 0), (1, vR 300)] [] h 0 0
  refine st_aload_n C 1 dL_next_0 rfl rfl ?_
  refine st_iconst C dL_next_1 (by decide) ?_
  refine st_aload_n C 0 dL_next_2 rfl rfl ?_
  refine st_callV (st := [vI 0, vR 300]) C dL_next_3 [] hc h0 w_L_98 rfl (Nat.le_refl _) (by decide) (by omega) (by omega) (Nat.le_of_ble_eq_true rfl) (ko_gx (fun h1 hq9 => ?_))
  refine st_catch (nm := "java/lang/IllegalStateException") (j := 2) (len := 1) C [] [(0, 8, 14, 50)] (0, 8, 11, 17) rfl (fun z hz => nomatch hz) ⟨_, rfl, by decide, by decide, rfl, cl_L_17⟩ ca_ISE (by decide) (Or.inr ⟨_, dL_next_11, rfl, rfl⟩) [(0, vR 0)] rfl ?_
  show T x 12 [(0, vR 0)] [] _ _ _
  refine st_iconst C dL_next_12 (by decide) ?_
  exact st_ireturn C F dL_next_13 rfl ⟨rfl, hq9⟩ (by omega) (by omega)
set_option maxRecDepth 20000 in
set_option maxHeartbeats 4000000 in
theorem w_next_x2 {g : Gx} {h : HP} {Q : HP → Prop} {dz mz sz : Nat} {fs : List PV} (h0 : h 0 = some (oO 9 fs)) (hc : Ct g yX10_next (.code yX10_next cX10_next 2 (some .int)) dz mz sz [vR 0] h (fun r h1 => r = .inr "java/util/NoSuchElementException" ∧ Q h1)) : Ct g yL_next (.codeWith yL_next cL_next 3 (some .int) [(0, 8, 11, 17), (0, 8, 14, 50)]) (dz + 1) mz sz [vR 0, vR 300] h (fun r h1 => r = .inl (some (vI 2)) ∧ Q h1) := by
  refine Ct.ofW (by decide) (Nat.le_of_ble_eq_true rfl) (fun x hg C F => ?_)
  subst hg
  show T x 0 [(0, vR 0), (1, vR 300)] [] h 0 0
  refine st_aload_n C 1 dL_next_0 rfl rfl ?_
  refine st_iconst C dL_next_1 (by decide) ?_
  refine st_aload_n C 0 dL_next_2 rfl rfl ?_
  refine st_callV (st := [vI 0, vR 300]) C dL_next_3 [] hc h0 w_L_98 rfl (Nat.le_refl _) (by decide) (by omega) (by omega) (Nat.le_of_ble_eq_true rfl) (ko_gx (fun h1 hq9 => ?_))
  refine st_catch (nm := "java/util/NoSuchElementException") (j := 2) (len := 1) C [(0, 8, 11, 17)] [] (0, 8, 14, 50) rfl (List.forall_mem_cons.mpr ⟨Or.inr ⟨by decide, "java/lang/IllegalStateException", cl_L_17, by decide⟩, (fun z hz => nomatch hz)⟩) ⟨_, rfl, by decide, by decide, rfl, cl_L_50⟩ ca_NSE (by decide) (Or.inr ⟨_, dL_next_14, rfl, rfl⟩) [(0, vR 0)] rfl ?_
  show T x 15 [(0, vR 0)] [] _ _ _
  refine st_iconst C dL_next_15 (by decide) ?_
  exact st_ireturn C F dL_next_16 rfl ⟨rfl, hq9⟩ (by omega) (by omega)
set_option maxRecDepth 20000 in
set_option maxHeartbeats 4000000 in
theorem w_note_ok {g : Gx} {h : HP} {Q : HP → Prop} {dz mz sz : Nat} {fs : List PV} {p0 p1 p2 p3 p4 p5 : Int} {v : Int} {fo : Int → Int} (h0 : h 0 = some (oO 9 fs)) (hc : Ct g yX10_note (.code yX10_note cX10_note 8 (some .int)) dz mz sz [vR 0, vI p0, vI p1, vI p2, vI p3, vI p4, vI p5] h (fun r h1 => r = .inl (some (vI v)) ∧ Q h1)) (hq : ∀ h1, Q h1 → h1 300 = some (oJ 1 fo)) : Ct g yL_note (.codeWith yL_note cL_note 9 (some .int) [(0, 18, 21, 27), (0, 18, 25, 13), (0, 18, 29, 17)]) (dz + 1) mz sz [vR 0, vI p0, vI p1, vI p2, vI p3, vI p4, vI p5, vR 300] h (fun r h1 => r = .inl (some (vI 0)) ∧ ∃ h2, Q h2 ∧ h1 = hput h2 300 (oJ 1 (fput fo 0 v))) := by
  refine Ct.ofW (by decide) (Nat.le_of_ble_eq_true rfl) (fun x hg C F => ?_)
  subst hg
  show T x 0 [(0, vR 0), (1, vI p0), (2, vI p1), (3, vI p2), (4, vI p3), (5, vI p4), (6, vI p5), (7, vR 300)] [] h 0 0
  refine st_aload C dL_note_0 rfl ?_
  refine st_iconst C dL_note_2 (by decide) ?_
  refine st_aload_n C 0 dL_note_3 rfl rfl ?_
  refine st_iload_n C 1 dL_note_4 rfl rfl ?_
  refine st_iload_n C 2 dL_note_5 rfl rfl ?_
  refine st_iload_n C 3 dL_note_6 rfl rfl ?_
  refine st_iload C dL_note_7 rfl ?_
  refine st_iload C dL_note_9 rfl ?_
  refine st_iload C dL_note_11 rfl ?_
  refine st_callV (st := [vI 0, vR 300]) C dL_note_13 [vI p0, vI p1, vI p2, vI p3, vI p4, vI p5] hc h0 w_L_104 rfl (Nat.le_refl _) (by decide) (by omega) (by omega) (Nat.le_of_ble_eq_true rfl) (ko_ge (fun h1 hq9 => ?_))
  show T x 16 [(0, vR 0), (1, vI p0), (2, vI p1), (3, vI p2), (4, vI p3), (5, vI p4), (6, vI p5), (7, vR 300)] [vI v, vI 0, vR 300] _ _ _
  refine st_i2l C dL_note_16 ?_
  refine st_last C dL_note_17 (hq h1 hq9) (by omega) (by omega) ?_
  refine st_goto (tgt := 33) C dL_note_18 (by decide) ?_
  refine st_iconst C dL_note_33 (by decide) ?_
  exact st_ireturn C F dL_note_34 rfl ⟨rfl, h1, hq9, rfl⟩ (by omega) (by omega)
set_option maxRecDepth 20000 in
set_option maxHeartbeats 4000000 in
theorem w_note_x1 {g : Gx} {h : HP} {Q : HP → Prop} {dz mz sz : Nat} {fs : List PV} {p0 p1 p2 p3 p4 p5 : Int} (h0 : h 0 = some (oO 9 fs)) (hc : Ct g yX10_note (.code yX10_note cX10_note 8 (some .int)) dz mz sz [vR 0, vI p0, vI p1, vI p2, vI p3, vI p4, vI p5] h (fun r h1 => r = .inr "java/lang/IndexOutOfBoundsException" ∧ Q h1)) : Ct g yL_note (.codeWith yL_note cL_note 9 (some .int) [(0, 18, 21, 27), (0, 18, 25, 13), (0, 18, 29, 17)]) (dz + 1) mz sz [vR 0, vI p0, vI p1, vI p2, vI p3, vI p4, vI p5, vR 300] h (fun r h1 => r = .inl (some (vI 1)) ∧ Q h1) := by
  refine Ct.ofW (by decide) (Nat.le_of_ble_eq_true rfl) (fun x hg C F => ?_)
  subst hg
  show T x 0 [(0, vR 0), (1, vI p0), (2, vI p1), (3, vI p2), (4, vI p3), (5, vI p4), (6, vI p5), (7, vR 300)] [] h 0 0
  refine st_aload C dL_note_0 rfl ?_
  refine st_iconst C dL_note_2 (by decide) ?_
  refine st_aload_n C 0 dL_note_3 rfl rfl ?_
  refine st_iload_n C 1 dL_note_4 rfl rfl ?_
  refine st_iload_n C 2 dL_note_5 rfl rfl ?_
  refine st_iload_n C 3 dL_note_6 rfl rfl ?_
  refine st_iload C dL_note_7 rfl ?_
  refine st_iload C dL_note_9 rfl ?_
  refine st_iload C dL_note_11 rfl ?_
  refine st_callV (st := [vI 0, vR 300]) C dL_note_13 [vI p0, vI p1, vI p2, vI p3, vI p4, vI p5] hc h0 w_L_104 rfl (Nat.le_refl _) (by decide) (by omega) (by omega) (Nat.le_of_ble_eq_true rfl) (ko_gx (fun h1 hq9 => ?_))
  refine st_catch (nm := "java/lang/IndexOutOfBoundsException") (j := 8) (len := 2) C [] [(0, 18, 25, 13), (0, 18, 29, 17)] (0, 18, 21, 27) rfl (fun z hz => nomatch hz) ⟨_, rfl, by decide, by decide, rfl, cl_L_27⟩ ca_IOB (by decide) (Or.inl ⟨dL_note_21, rfl⟩) [(0, vR 0), (1, vI p0), (2, vI p1), (3, vI p2), (4, vI p3), (5, vI p4), (6, vI p5)] rfl ?_
  show T x 23 [(0, vR 0), (1, vI p0), (2, vI p1), (3, vI p2), (4, vI p3), (5, vI p4), (6, vI p5)] [] _ _ _
  refine st_iconst C dL_note_23 (by decide) ?_
  exact st_ireturn C F dL_note_24 rfl ⟨rfl, hq9⟩ (by omega) (by omega)
set_option maxRecDepth 20000 in
set_option maxHeartbeats 4000000 in
theorem w_note_x2 {g : Gx} {h : HP} {Q : HP → Prop} {dz mz sz : Nat} {fs : List PV} {p0 p1 p2 p3 p4 p5 : Int} (h0 : h 0 = some (oO 9 fs)) (hc : Ct g yX10_note (.code yX10_note cX10_note 8 (some .int)) dz mz sz [vR 0, vI p0, vI p1, vI p2, vI p3, vI p4, vI p5] h (fun r h1 => r = .inr "java/lang/IllegalArgumentException" ∧ Q h1)) : Ct g yL_note (.codeWith yL_note cL_note 9 (some .int) [(0, 18, 21, 27), (0, 18, 25, 13), (0, 18, 29, 17)]) (dz + 1) mz sz [vR 0, vI p0, vI p1, vI p2, vI p3, vI p4, vI p5, vR 300] h (fun r h1 => r = .inl (some (vI 2)) ∧ Q h1) := by
  refine Ct.ofW (by decide) (Nat.le_of_ble_eq_true rfl) (fun x hg C F => ?_)
  subst hg
  show T x 0 [(0, vR 0), (1, vI p0), (2, vI p1), (3, vI p2), (4, vI p3), (5, vI p4), (6, vI p5), (7, vR 300)] [] h 0 0
  refine st_aload C dL_note_0 rfl ?_
  refine st_iconst C dL_note_2 (by decide) ?_
  refine st_aload_n C 0 dL_note_3 rfl rfl ?_
  refine st_iload_n C 1 dL_note_4 rfl rfl ?_
  refine st_iload_n C 2 dL_note_5 rfl rfl ?_
  refine st_iload_n C 3 dL_note_6 rfl rfl ?_
  refine st_iload C dL_note_7 rfl ?_
  refine st_iload C dL_note_9 rfl ?_
  refine st_iload C dL_note_11 rfl ?_
  refine st_callV (st := [vI 0, vR 300]) C dL_note_13 [vI p0, vI p1, vI p2, vI p3, vI p4, vI p5] hc h0 w_L_104 rfl (Nat.le_refl _) (by decide) (by omega) (by omega) (Nat.le_of_ble_eq_true rfl) (ko_gx (fun h1 hq9 => ?_))
  refine st_catch (nm := "java/lang/IllegalArgumentException") (j := 8) (len := 2) C [(0, 18, 21, 27)] [(0, 18, 29, 17)] (0, 18, 25, 13) rfl (List.forall_mem_cons.mpr ⟨Or.inr ⟨by decide, "java/lang/IndexOutOfBoundsException", cl_L_27, by decide⟩, (fun z hz => nomatch hz)⟩) ⟨_, rfl, by decide, by decide, rfl, cl_L_13⟩ ca_IAE (by decide) (Or.inl ⟨dL_note_25, rfl⟩) [(0, vR 0), (1, vI p0), (2, vI p1), (3, vI p2), (4, vI p3), (5, vI p4), (6, vI p5)] rfl ?_
  show T x 27 [(0, vR 0), (1, vI p0), (2, vI p1), (3, vI p2), (4, vI p3), (5, vI p4), (6, vI p5)] [] _ _ _
  refine st_iconst C dL_note_27 (by decide) ?_
  exact st_ireturn C F dL_note_28 rfl ⟨rfl, hq9⟩ (by omega) (by omega)
set_option maxRecDepth 20000 in
set_option maxHeartbeats 4000000 in
theorem w_note_x3 {g : Gx} {h : HP} {Q : HP → Prop} {dz mz sz : Nat} {fs : List PV} {p0 p1 p2 p3 p4 p5 : Int} (h0 : h 0 = some (oO 9 fs)) (hc : Ct g yX10_note (.code yX10_note cX10_note 8 (some .int)) dz mz sz [vR 0, vI p0, vI p1, vI p2, vI p3, vI p4, vI p5] h (fun r h1 => r = .inr "java/lang/IllegalStateException" ∧ Q h1)) : Ct g yL_note (.codeWith yL_note cL_note 9 (some .int) [(0, 18, 21, 27), (0, 18, 25, 13), (0, 18, 29, 17)]) (dz + 1) mz sz [vR 0, vI p0, vI p1, vI p2, vI p3, vI p4, vI p5, vR 300] h (fun r h1 => r = .inl (some (vI 3)) ∧ Q h1) := by
  refine Ct.ofW (by decide) (Nat.le_of_ble_eq_true rfl) (fun x hg C F => ?_)
  subst hg
  show T x 0 [(0, vR 0), (1, vI p0), (2, vI p1), (3, vI p2), (4, vI p3), (5, vI p4), (6, vI p5), (7, vR 300)] [] h 0 0
  refine st_aload C dL_note_0 rfl ?_
  refine st_iconst C dL_note_2 (by decide) ?_
  refine st_aload_n C 0 dL_note_3 rfl rfl ?_
  refine st_iload_n C 1 dL_note_4 rfl rfl ?_
  refine st_iload_n C 2 dL_note_5 rfl rfl ?_
  refine st_iload_n C 3 dL_note_6 rfl rfl ?_
  refine st_iload C dL_note_7 rfl ?_
  refine st_iload C dL_note_9 rfl ?_
  refine st_iload C dL_note_11 rfl ?_
  refine st_callV (st := [vI 0, vR 300]) C dL_note_13 [vI p0, vI p1, vI p2, vI p3, vI p4, vI p5] hc h0 w_L_104 rfl (Nat.le_refl _) (by decide) (by omega) (by omega) (Nat.le_of_ble_eq_true rfl) (ko_gx (fun h1 hq9 => ?_))
  refine st_catch (nm := "java/lang/IllegalStateException") (j := 8) (len := 2) C [(0, 18, 21, 27), (0, 18, 25, 13)] [] (0, 18, 29, 17) rfl (List.forall_mem_cons.mpr ⟨Or.inr ⟨by decide, "java/lang/IndexOutOfBoundsException", cl_L_27, by decide⟩, (List.forall_mem_cons.mpr ⟨Or.inr ⟨by decide, "java/lang/IllegalArgumentException", cl_L_13, by decide⟩, (fun z hz => nomatch hz)⟩)⟩) ⟨_, rfl, by decide, by decide, rfl, cl_L_17⟩ ca_ISE (by decide) (Or.inl ⟨dL_note_29, rfl⟩) [(0, vR 0), (1, vI p0), (2, vI p1), (3, vI p2), (4, vI p3), (5, vI p4), (6, vI p5)] rfl ?_
  show T x 31 [(0, vR 0), (1, vI p0), (2, vI p1), (3, vI p2), (4, vI p3), (5, vI p4), (6, vI p5)] [] _ _ _
  refine st_iconst C dL_note_31 (by decide) ?_
  exact st_ireturn C F dL_note_32 rfl ⟨rfl, hq9⟩ (by omega) (by omega)
set_option maxRecDepth 20000 in
set_option maxHeartbeats 4000000 in
theorem w_open_ok {g : Gx} {h : HP} {Q : HP → Prop} {dz mz sz : Nat} {fs : List PV} {v : Int} {fo : Int → Int} (h0 : h 0 = some (oO 9 fs)) (hc : Ct g yX10_open (.code yX10_open cX10_open 3 (some .int)) dz mz sz [vR 0] h (fun r h1 => r = .inl (some (vI v)) ∧ Q h1)) (hq : ∀ h1, Q h1 → h1 300 = some (oJ 1 fo)) : Ct g yL_open (.codeWith yL_open cL_open 3 (some .int) [(0, 8, 11, 17)]) (dz + 1) mz sz [vR 0, vR 300] h (fun r h1 => r = .inl (some (vI 0)) ∧ ∃ h2, Q h2 ∧ h1 = hput h2 300 (oJ 1 (fput fo 0 v))) := by
  refine Ct.ofW (by decide) (Nat.le_of_ble_eq_true rfl) (fun x hg C F => ?_)
  subst hg
  show T x 0 [(0, vR 0), (1, vR 300)] [] h 0 0
  refine st_aload_n C 1 dL_open_0 rfl rfl ?_
  refine st_iconst C dL_open_1 (by decide) ?_
  refine st_aload_n C 0 dL_open_2 rfl rfl ?_
  refine st_callV (st := [vI 0, vR 300]) C dL_open_3 [] hc h0 w_L_19 rfl (Nat.le_refl _) (by decide) (by omega) (by omega) (Nat.le_of_ble_eq_true rfl) (ko_ge (fun h1 hq9 => ?_))
  show T x 6 [(0, vR 0), (1, vR 300)] [vI v, vI 0, vR 300] _ _ _
  refine st_i2l C dL_open_6 ?_
  refine st_last C dL_open_7 (hq h1 hq9) (by omega) (by omega) ?_
  refine st_goto (tgt := 14) C dL_open_8 (by decide) ?_
  refine st_iconst C dL_open_14 (by decide) ?_
  exact st_ireturn C F dL_open_15 rfl ⟨rfl, h1, hq9, rfl⟩ (by omega) (by omega)
set_option maxRecDepth 20000 in
set_option maxHeartbeats 4000000 in
theorem w_open_x1 {g : Gx} {h : HP} {Q : HP → Prop} {dz mz sz : Nat} {fs : List PV} (h0 : h 0 = some (oO 9 fs)) (hc : Ct g yX10_open (.code yX10_open cX10_open 3 (some .int)) dz mz sz [vR 0] h (fun r h1 => r = .inr "java/lang/IllegalStateException" ∧ Q h1)) : Ct g yL_open (.codeWith yL_open cL_open 3 (some .int) [(0, 8, 11, 17)]) (dz + 1) mz sz [vR 0, vR 300] h (fun r h1 => r = .inl (some (vI 1)) ∧ Q h1) := by
  refine Ct.ofW (by decide) (Nat.le_of_ble_eq_true rfl) (fun x hg C F => ?_)
  subst hg
  show T x 0 [(0, vR 0), (1, vR 300)] [] h 0 0
  refine st_aload_n C 1 dL_open_0 rfl rfl ?_
  refine st_iconst C dL_open_1 (by decide) ?_
  refine st_aload_n C 0 dL_open_2 rfl rfl ?_
  refine st_callV (st := [vI 0, vR 300]) C dL_open_3 [] hc h0 w_L_19 rfl (Nat.le_refl _) (by decide) (by omega) (by omega) (Nat.le_of_ble_eq_true rfl) (ko_gx (fun h1 hq9 => ?_))
  refine st_catch (nm := "java/lang/IllegalStateException") (j := 2) (len := 1) C [] [] (0, 8, 11, 17) rfl (fun z hz => nomatch hz) ⟨_, rfl, by decide, by decide, rfl, cl_L_17⟩ ca_ISE (by decide) (Or.inr ⟨_, dL_open_11, rfl, rfl⟩) [(0, vR 0)] rfl ?_
  show T x 12 [(0, vR 0)] [] _ _ _
  refine st_iconst C dL_open_12 (by decide) ?_
  exact st_ireturn C F dL_open_13 rfl ⟨rfl, hq9⟩ (by omega) (by omega)
set_option maxRecDepth 20000 in
set_option maxHeartbeats 4000000 in
theorem w_paint_ok {g : Gx} {h : HP} {Q : HP → Prop} {dz mz sz : Nat} {fs : List PV} {p0 p1 p2 p3 p4 : Int} {v : Int} {fo : Int → Int} (h0 : h 0 = some (oO 9 fs)) (hc : Ct g yX10_paint (.code yX10_paint cX10_paint 7 (some .int)) dz mz sz [vR 0, vI p0, vI p1, vI p2, vI p3, vI p4] h (fun r h1 => r = .inl (some (vI v)) ∧ Q h1)) (hq : ∀ h1, Q h1 → h1 300 = some (oJ 1 fo)) : Ct g yL_paint (.codeWith yL_paint cL_paint 8 (some .int) [(0, 16, 19, 27), (0, 16, 23, 13)]) (dz + 1) mz sz [vR 0, vI p0, vI p1, vI p2, vI p3, vI p4, vR 300] h (fun r h1 => r = .inl (some (vI 0)) ∧ ∃ h2, Q h2 ∧ h1 = hput h2 300 (oJ 1 (fput fo 0 v))) := by
  refine Ct.ofW (by decide) (Nat.le_of_ble_eq_true rfl) (fun x hg C F => ?_)
  subst hg
  show T x 0 [(0, vR 0), (1, vI p0), (2, vI p1), (3, vI p2), (4, vI p3), (5, vI p4), (6, vR 300)] [] h 0 0
  refine st_aload C dL_paint_0 rfl ?_
  refine st_iconst C dL_paint_2 (by decide) ?_
  refine st_aload_n C 0 dL_paint_3 rfl rfl ?_
  refine st_iload_n C 1 dL_paint_4 rfl rfl ?_
  refine st_iload_n C 2 dL_paint_5 rfl rfl ?_
  refine st_iload_n C 3 dL_paint_6 rfl rfl ?_
  refine st_iload C dL_paint_7 rfl ?_
  refine st_iload C dL_paint_9 rfl ?_
  refine st_callV (st := [vI 0, vR 300]) C dL_paint_11 [vI p0, vI p1, vI p2, vI p3, vI p4] hc h0 w_L_29 rfl (Nat.le_refl _) (by decide) (by omega) (by omega) (Nat.le_of_ble_eq_true rfl) (ko_ge (fun h1 hq9 => ?_))
  show T x 14 [(0, vR 0), (1, vI p0), (2, vI p1), (3, vI p2), (4, vI p3), (5, vI p4), (6, vR 300)] [vI v, vI 0, vR 300] _ _ _
  refine st_i2l C dL_paint_14 ?_
  refine st_last C dL_paint_15 (hq h1 hq9) (by omega) (by omega) ?_
  refine st_goto (tgt := 27) C dL_paint_16 (by decide) ?_
  refine st_iconst C dL_paint_27 (by decide) ?_
  exact st_ireturn C F dL_paint_28 rfl ⟨rfl, h1, hq9, rfl⟩ (by omega) (by omega)
set_option maxRecDepth 20000 in
set_option maxHeartbeats 4000000 in
theorem w_paint_x1 {g : Gx} {h : HP} {Q : HP → Prop} {dz mz sz : Nat} {fs : List PV} {p0 p1 p2 p3 p4 : Int} (h0 : h 0 = some (oO 9 fs)) (hc : Ct g yX10_paint (.code yX10_paint cX10_paint 7 (some .int)) dz mz sz [vR 0, vI p0, vI p1, vI p2, vI p3, vI p4] h (fun r h1 => r = .inr "java/lang/IndexOutOfBoundsException" ∧ Q h1)) : Ct g yL_paint (.codeWith yL_paint cL_paint 8 (some .int) [(0, 16, 19, 27), (0, 16, 23, 13)]) (dz + 1) mz sz [vR 0, vI p0, vI p1, vI p2, vI p3, vI p4, vR 300] h (fun r h1 => r = .inl (some (vI 1)) ∧ Q h1) := by
  refine Ct.ofW (by decide) (Nat.le_of_ble_eq_true rfl) (fun x hg C F => ?_)
  subst hg
  show T x 0 [(0, vR 0), (1, vI p0), (2, vI p1), (3, vI p2), (4, vI p3), (5, vI p4), (6, vR 300)] [] h 0 0
  refine st_aload C dL_paint_0 rfl ?_
  refine st_iconst C dL_paint_2 (by decide) ?_
  refine st_aload_n C 0 dL_paint_3 rfl rfl ?_
  refine st_iload_n C 1 dL_paint_4 rfl rfl ?_
  refine st_iload_n C 2 dL_paint_5 rfl rfl ?_
  refine st_iload_n C 3 dL_paint_6 rfl rfl ?_
  refine st_iload C dL_paint_7 rfl ?_
  refine st_iload C dL_paint_9 rfl ?_
  refine st_callV (st := [vI 0, vR 300]) C dL_paint_11 [vI p0, vI p1, vI p2, vI p3, vI p4] hc h0 w_L_29 rfl (Nat.le_refl _) (by decide) (by omega) (by omega) (Nat.le_of_ble_eq_true rfl) (ko_gx (fun h1 hq9 => ?_))
  refine st_catch (nm := "java/lang/IndexOutOfBoundsException") (j := 7) (len := 2) C [] [(0, 16, 23, 13)] (0, 16, 19, 27) rfl (fun z hz => nomatch hz) ⟨_, rfl, by decide, by decide, rfl, cl_L_27⟩ ca_IOB (by decide) (Or.inl ⟨dL_paint_19, rfl⟩) [(0, vR 0), (1, vI p0), (2, vI p1), (3, vI p2), (4, vI p3), (5, vI p4)] rfl ?_
  show T x 21 [(0, vR 0), (1, vI p0), (2, vI p1), (3, vI p2), (4, vI p3), (5, vI p4)] [] _ _ _
  refine st_iconst C dL_paint_21 (by decide) ?_
  exact st_ireturn C F dL_paint_22 rfl ⟨rfl, hq9⟩ (by omega) (by omega)
set_option maxRecDepth 20000 in
set_option maxHeartbeats 4000000 in
theorem w_paint_x2 {g : Gx} {h : HP} {Q : HP → Prop} {dz mz sz : Nat} {fs : List PV} {p0 p1 p2 p3 p4 : Int} (h0 : h 0 = some (oO 9 fs)) (hc : Ct g yX10_paint (.code yX10_paint cX10_paint 7 (some .int)) dz mz sz [vR 0, vI p0, vI p1, vI p2, vI p3, vI p4] h (fun r h1 => r = .inr "java/lang/IllegalArgumentException" ∧ Q h1)) : Ct g yL_paint (.codeWith yL_paint cL_paint 8 (some .int) [(0, 16, 19, 27), (0, 16, 23, 13)]) (dz + 1) mz sz [vR 0, vI p0, vI p1, vI p2, vI p3, vI p4, vR 300] h (fun r h1 => r = .inl (some (vI 2)) ∧ Q h1) := by
  refine Ct.ofW (by decide) (Nat.le_of_ble_eq_true rfl) (fun x hg C F => ?_)
  subst hg
  show T x 0 [(0, vR 0), (1, vI p0), (2, vI p1), (3, vI p2), (4, vI p3), (5, vI p4), (6, vR 300)] [] h 0 0
  refine st_aload C dL_paint_0 rfl ?_
  refine st_iconst C dL_paint_2 (by decide) ?_
  refine st_aload_n C 0 dL_paint_3 rfl rfl ?_
  refine st_iload_n C 1 dL_paint_4 rfl rfl ?_
  refine st_iload_n C 2 dL_paint_5 rfl rfl ?_
  refine st_iload_n C 3 dL_paint_6 rfl rfl ?_
  refine st_iload C dL_paint_7 rfl ?_
  refine st_iload C dL_paint_9 rfl ?_
  refine st_callV (st := [vI 0, vR 300]) C dL_paint_11 [vI p0, vI p1, vI p2, vI p3, vI p4] hc h0 w_L_29 rfl (Nat.le_refl _) (by decide) (by omega) (by omega) (Nat.le_of_ble_eq_true rfl) (ko_gx (fun h1 hq9 => ?_))
  refine st_catch (nm := "java/lang/IllegalArgumentException") (j := 7) (len := 2) C [(0, 16, 19, 27)] [] (0, 16, 23, 13) rfl (List.forall_mem_cons.mpr ⟨Or.inr ⟨by decide, "java/lang/IndexOutOfBoundsException", cl_L_27, by decide⟩, (fun z hz => nomatch hz)⟩) ⟨_, rfl, by decide, by decide, rfl, cl_L_13⟩ ca_IAE (by decide) (Or.inl ⟨dL_paint_23, rfl⟩) [(0, vR 0), (1, vI p0), (2, vI p1), (3, vI p2), (4, vI p3), (5, vI p4)] rfl ?_
  show T x 25 [(0, vR 0), (1, vI p0), (2, vI p1), (3, vI p2), (4, vI p3), (5, vI p4)] [] _ _ _
  refine st_iconst C dL_paint_25 (by decide) ?_
  exact st_ireturn C F dL_paint_26 rfl ⟨rfl, hq9⟩ (by omega) (by omega)
set_option maxRecDepth 20000 in
set_option maxHeartbeats 4000000 in
theorem w_road_ok {g : Gx} {h : HP} {Q : HP → Prop} {dz mz sz : Nat} {fs : List PV} {p0 p1 p2 p3 p4 : Int} {v : Int} {fo : Int → Int} (h0 : h 0 = some (oO 9 fs)) (hc : Ct g yX10_road (.code yX10_road cX10_road 7 (some .int)) dz mz sz [vR 0, vI p0, vI p1, vI p2, vI p3, vI p4] h (fun r h1 => r = .inl (some (vI v)) ∧ Q h1)) (hq : ∀ h1, Q h1 → h1 300 = some (oJ 1 fo)) : Ct g yL_road (.codeWith yL_road cL_road 8 (some .int) [(0, 16, 19, 27), (0, 16, 23, 13)]) (dz + 1) mz sz [vR 0, vI p0, vI p1, vI p2, vI p3, vI p4, vR 300] h (fun r h1 => r = .inl (some (vI 0)) ∧ ∃ h2, Q h2 ∧ h1 = hput h2 300 (oJ 1 (fput fo 0 v))) := by
  refine Ct.ofW (by decide) (Nat.le_of_ble_eq_true rfl) (fun x hg C F => ?_)
  subst hg
  show T x 0 [(0, vR 0), (1, vI p0), (2, vI p1), (3, vI p2), (4, vI p3), (5, vI p4), (6, vR 300)] [] h 0 0
  refine st_aload C dL_road_0 rfl ?_
  refine st_iconst C dL_road_2 (by decide) ?_
  refine st_aload_n C 0 dL_road_3 rfl rfl ?_
  refine st_iload_n C 1 dL_road_4 rfl rfl ?_
  refine st_iload_n C 2 dL_road_5 rfl rfl ?_
  refine st_iload_n C 3 dL_road_6 rfl rfl ?_
  refine st_iload C dL_road_7 rfl ?_
  refine st_iload C dL_road_9 rfl ?_
  refine st_callV (st := [vI 0, vR 300]) C dL_road_11 [vI p0, vI p1, vI p2, vI p3, vI p4] hc h0 w_L_33 rfl (Nat.le_refl _) (by decide) (by omega) (by omega) (Nat.le_of_ble_eq_true rfl) (ko_ge (fun h1 hq9 => ?_))
  show T x 14 [(0, vR 0), (1, vI p0), (2, vI p1), (3, vI p2), (4, vI p3), (5, vI p4), (6, vR 300)] [vI v, vI 0, vR 300] _ _ _
  refine st_i2l C dL_road_14 ?_
  refine st_last C dL_road_15 (hq h1 hq9) (by omega) (by omega) ?_
  refine st_goto (tgt := 27) C dL_road_16 (by decide) ?_
  refine st_iconst C dL_road_27 (by decide) ?_
  exact st_ireturn C F dL_road_28 rfl ⟨rfl, h1, hq9, rfl⟩ (by omega) (by omega)
set_option maxRecDepth 20000 in
set_option maxHeartbeats 4000000 in
theorem w_road_x1 {g : Gx} {h : HP} {Q : HP → Prop} {dz mz sz : Nat} {fs : List PV} {p0 p1 p2 p3 p4 : Int} (h0 : h 0 = some (oO 9 fs)) (hc : Ct g yX10_road (.code yX10_road cX10_road 7 (some .int)) dz mz sz [vR 0, vI p0, vI p1, vI p2, vI p3, vI p4] h (fun r h1 => r = .inr "java/lang/IndexOutOfBoundsException" ∧ Q h1)) : Ct g yL_road (.codeWith yL_road cL_road 8 (some .int) [(0, 16, 19, 27), (0, 16, 23, 13)]) (dz + 1) mz sz [vR 0, vI p0, vI p1, vI p2, vI p3, vI p4, vR 300] h (fun r h1 => r = .inl (some (vI 1)) ∧ Q h1) := by
  refine Ct.ofW (by decide) (Nat.le_of_ble_eq_true rfl) (fun x hg C F => ?_)
  subst hg
  show T x 0 [(0, vR 0), (1, vI p0), (2, vI p1), (3, vI p2), (4, vI p3), (5, vI p4), (6, vR 300)] [] h 0 0
  refine st_aload C dL_road_0 rfl ?_
  refine st_iconst C dL_road_2 (by decide) ?_
  refine st_aload_n C 0 dL_road_3 rfl rfl ?_
  refine st_iload_n C 1 dL_road_4 rfl rfl ?_
  refine st_iload_n C 2 dL_road_5 rfl rfl ?_
  refine st_iload_n C 3 dL_road_6 rfl rfl ?_
  refine st_iload C dL_road_7 rfl ?_
  refine st_iload C dL_road_9 rfl ?_
  refine st_callV (st := [vI 0, vR 300]) C dL_road_11 [vI p0, vI p1, vI p2, vI p3, vI p4] hc h0 w_L_33 rfl (Nat.le_refl _) (by decide) (by omega) (by omega) (Nat.le_of_ble_eq_true rfl) (ko_gx (fun h1 hq9 => ?_))
  refine st_catch (nm := "java/lang/IndexOutOfBoundsException") (j := 7) (len := 2) C [] [(0, 16, 23, 13)] (0, 16, 19, 27) rfl (fun z hz => nomatch hz) ⟨_, rfl, by decide, by decide, rfl, cl_L_27⟩ ca_IOB (by decide) (Or.inl ⟨dL_road_19, rfl⟩) [(0, vR 0), (1, vI p0), (2, vI p1), (3, vI p2), (4, vI p3), (5, vI p4)] rfl ?_
  show T x 21 [(0, vR 0), (1, vI p0), (2, vI p1), (3, vI p2), (4, vI p3), (5, vI p4)] [] _ _ _
  refine st_iconst C dL_road_21 (by decide) ?_
  exact st_ireturn C F dL_road_22 rfl ⟨rfl, hq9⟩ (by omega) (by omega)
set_option maxRecDepth 20000 in
set_option maxHeartbeats 4000000 in
theorem w_road_x2 {g : Gx} {h : HP} {Q : HP → Prop} {dz mz sz : Nat} {fs : List PV} {p0 p1 p2 p3 p4 : Int} (h0 : h 0 = some (oO 9 fs)) (hc : Ct g yX10_road (.code yX10_road cX10_road 7 (some .int)) dz mz sz [vR 0, vI p0, vI p1, vI p2, vI p3, vI p4] h (fun r h1 => r = .inr "java/lang/IllegalArgumentException" ∧ Q h1)) : Ct g yL_road (.codeWith yL_road cL_road 8 (some .int) [(0, 16, 19, 27), (0, 16, 23, 13)]) (dz + 1) mz sz [vR 0, vI p0, vI p1, vI p2, vI p3, vI p4, vR 300] h (fun r h1 => r = .inl (some (vI 2)) ∧ Q h1) := by
  refine Ct.ofW (by decide) (Nat.le_of_ble_eq_true rfl) (fun x hg C F => ?_)
  subst hg
  show T x 0 [(0, vR 0), (1, vI p0), (2, vI p1), (3, vI p2), (4, vI p3), (5, vI p4), (6, vR 300)] [] h 0 0
  refine st_aload C dL_road_0 rfl ?_
  refine st_iconst C dL_road_2 (by decide) ?_
  refine st_aload_n C 0 dL_road_3 rfl rfl ?_
  refine st_iload_n C 1 dL_road_4 rfl rfl ?_
  refine st_iload_n C 2 dL_road_5 rfl rfl ?_
  refine st_iload_n C 3 dL_road_6 rfl rfl ?_
  refine st_iload C dL_road_7 rfl ?_
  refine st_iload C dL_road_9 rfl ?_
  refine st_callV (st := [vI 0, vR 300]) C dL_road_11 [vI p0, vI p1, vI p2, vI p3, vI p4] hc h0 w_L_33 rfl (Nat.le_refl _) (by decide) (by omega) (by omega) (Nat.le_of_ble_eq_true rfl) (ko_gx (fun h1 hq9 => ?_))
  refine st_catch (nm := "java/lang/IllegalArgumentException") (j := 7) (len := 2) C [(0, 16, 19, 27)] [] (0, 16, 23, 13) rfl (List.forall_mem_cons.mpr ⟨Or.inr ⟨by decide, "java/lang/IndexOutOfBoundsException", cl_L_27, by decide⟩, (fun z hz => nomatch hz)⟩) ⟨_, rfl, by decide, by decide, rfl, cl_L_13⟩ ca_IAE (by decide) (Or.inl ⟨dL_road_23, rfl⟩) [(0, vR 0), (1, vI p0), (2, vI p1), (3, vI p2), (4, vI p3), (5, vI p4)] rfl ?_
  show T x 25 [(0, vR 0), (1, vI p0), (2, vI p1), (3, vI p2), (4, vI p3), (5, vI p4)] [] _ _ _
  refine st_iconst C dL_road_25 (by decide) ?_
  exact st_ireturn C F dL_road_26 rfl ⟨rfl, hq9⟩ (by omega) (by omega)
set_option maxRecDepth 20000 in
set_option maxHeartbeats 4000000 in
theorem w_route_ok {g : Gx} {h : HP} {Q : HP → Prop} {dz mz sz : Nat} {fs : List PV} {p0 p1 p2 : Int} {v : Int} {fo : Int → Int} (h0 : h 0 = some (oO 9 fs)) (hc : Ct g yX10_route (.code yX10_route cX10_route 5 (some .int)) dz mz sz [vR 0, vI p0, vI p1, vI p2] h (fun r h1 => r = .inl (some (vI v)) ∧ Q h1)) (hq : ∀ h1, Q h1 → h1 300 = some (oJ 1 fo)) : Ct g yL_route (.codeWith yL_route cL_route 6 (some .int) [(0, 12, 15, 13), (0, 12, 19, 50)]) (dz + 1) mz sz [vR 0, vI p0, vI p1, vI p2, vR 300] h (fun r h1 => r = .inl (some (vI 0)) ∧ ∃ h2, Q h2 ∧ h1 = hput h2 300 (oJ 1 (fput fo 0 v))) := by
  refine Ct.ofW (by decide) (Nat.le_of_ble_eq_true rfl) (fun x hg C F => ?_)
  subst hg
  show T x 0 [(0, vR 0), (1, vI p0), (2, vI p1), (3, vI p2), (4, vR 300)] [] h 0 0
  refine st_aload C dL_route_0 rfl ?_
  refine st_iconst C dL_route_2 (by decide) ?_
  refine st_aload_n C 0 dL_route_3 rfl rfl ?_
  refine st_iload_n C 1 dL_route_4 rfl rfl ?_
  refine st_iload_n C 2 dL_route_5 rfl rfl ?_
  refine st_iload_n C 3 dL_route_6 rfl rfl ?_
  refine st_callV (st := [vI 0, vR 300]) C dL_route_7 [vI p0, vI p1, vI p2] hc h0 w_L_74 rfl (Nat.le_refl _) (by decide) (by omega) (by omega) (Nat.le_of_ble_eq_true rfl) (ko_ge (fun h1 hq9 => ?_))
  show T x 10 [(0, vR 0), (1, vI p0), (2, vI p1), (3, vI p2), (4, vR 300)] [vI v, vI 0, vR 300] _ _ _
  refine st_i2l C dL_route_10 ?_
  refine st_last C dL_route_11 (hq h1 hq9) (by omega) (by omega) ?_
  refine st_goto (tgt := 23) C dL_route_12 (by decide) ?_
  refine st_iconst C dL_route_23 (by decide) ?_
  exact st_ireturn C F dL_route_24 rfl ⟨rfl, h1, hq9, rfl⟩ (by omega) (by omega)
set_option maxRecDepth 20000 in
set_option maxHeartbeats 4000000 in
theorem w_route_x1 {g : Gx} {h : HP} {Q : HP → Prop} {dz mz sz : Nat} {fs : List PV} {p0 p1 p2 : Int} (h0 : h 0 = some (oO 9 fs)) (hc : Ct g yX10_route (.code yX10_route cX10_route 5 (some .int)) dz mz sz [vR 0, vI p0, vI p1, vI p2] h (fun r h1 => r = .inr "java/lang/IllegalArgumentException" ∧ Q h1)) : Ct g yL_route (.codeWith yL_route cL_route 6 (some .int) [(0, 12, 15, 13), (0, 12, 19, 50)]) (dz + 1) mz sz [vR 0, vI p0, vI p1, vI p2, vR 300] h (fun r h1 => r = .inl (some (vI 1)) ∧ Q h1) := by
  refine Ct.ofW (by decide) (Nat.le_of_ble_eq_true rfl) (fun x hg C F => ?_)
  subst hg
  show T x 0 [(0, vR 0), (1, vI p0), (2, vI p1), (3, vI p2), (4, vR 300)] [] h 0 0
  refine st_aload C dL_route_0 rfl ?_
  refine st_iconst C dL_route_2 (by decide) ?_
  refine st_aload_n C 0 dL_route_3 rfl rfl ?_
  refine st_iload_n C 1 dL_route_4 rfl rfl ?_
  refine st_iload_n C 2 dL_route_5 rfl rfl ?_
  refine st_iload_n C 3 dL_route_6 rfl rfl ?_
  refine st_callV (st := [vI 0, vR 300]) C dL_route_7 [vI p0, vI p1, vI p2] hc h0 w_L_74 rfl (Nat.le_refl _) (by decide) (by omega) (by omega) (Nat.le_of_ble_eq_true rfl) (ko_gx (fun h1 hq9 => ?_))
  refine st_catch (nm := "java/lang/IllegalArgumentException") (j := 5) (len := 2) C [] [(0, 12, 19, 50)] (0, 12, 15, 13) rfl (fun z hz => nomatch hz) ⟨_, rfl, by decide, by decide, rfl, cl_L_13⟩ ca_IAE (by decide) (Or.inl ⟨dL_route_15, rfl⟩) [(0, vR 0), (1, vI p0), (2, vI p1), (3, vI p2)] rfl ?_
  show T x 17 [(0, vR 0), (1, vI p0), (2, vI p1), (3, vI p2)] [] _ _ _
  refine st_iconst C dL_route_17 (by decide) ?_
  exact st_ireturn C F dL_route_18 rfl ⟨rfl, hq9⟩ (by omega) (by omega)
set_option maxRecDepth 20000 in
set_option maxHeartbeats 4000000 in
theorem w_route_x2 {g : Gx} {h : HP} {Q : HP → Prop} {dz mz sz : Nat} {fs : List PV} {p0 p1 p2 : Int} (h0 : h 0 = some (oO 9 fs)) (hc : Ct g yX10_route (.code yX10_route cX10_route 5 (some .int)) dz mz sz [vR 0, vI p0, vI p1, vI p2] h (fun r h1 => r = .inr "java/util/NoSuchElementException" ∧ Q h1)) : Ct g yL_route (.codeWith yL_route cL_route 6 (some .int) [(0, 12, 15, 13), (0, 12, 19, 50)]) (dz + 1) mz sz [vR 0, vI p0, vI p1, vI p2, vR 300] h (fun r h1 => r = .inl (some (vI 2)) ∧ Q h1) := by
  refine Ct.ofW (by decide) (Nat.le_of_ble_eq_true rfl) (fun x hg C F => ?_)
  subst hg
  show T x 0 [(0, vR 0), (1, vI p0), (2, vI p1), (3, vI p2), (4, vR 300)] [] h 0 0
  refine st_aload C dL_route_0 rfl ?_
  refine st_iconst C dL_route_2 (by decide) ?_
  refine st_aload_n C 0 dL_route_3 rfl rfl ?_
  refine st_iload_n C 1 dL_route_4 rfl rfl ?_
  refine st_iload_n C 2 dL_route_5 rfl rfl ?_
  refine st_iload_n C 3 dL_route_6 rfl rfl ?_
  refine st_callV (st := [vI 0, vR 300]) C dL_route_7 [vI p0, vI p1, vI p2] hc h0 w_L_74 rfl (Nat.le_refl _) (by decide) (by omega) (by omega) (Nat.le_of_ble_eq_true rfl) (ko_gx (fun h1 hq9 => ?_))
  refine st_catch (nm := "java/util/NoSuchElementException") (j := 5) (len := 2) C [(0, 12, 15, 13)] [] (0, 12, 19, 50) rfl (List.forall_mem_cons.mpr ⟨Or.inr ⟨by decide, "java/lang/IllegalArgumentException", cl_L_13, by decide⟩, (fun z hz => nomatch hz)⟩) ⟨_, rfl, by decide, by decide, rfl, cl_L_50⟩ ca_NSE (by decide) (Or.inl ⟨dL_route_19, rfl⟩) [(0, vR 0), (1, vI p0), (2, vI p1), (3, vI p2)] rfl ?_
  show T x 21 [(0, vR 0), (1, vI p0), (2, vI p1), (3, vI p2)] [] _ _ _
  refine st_iconst C dL_route_21 (by decide) ?_
  exact st_ireturn C F dL_route_22 rfl ⟨rfl, hq9⟩ (by omega) (by omega)
set_option maxRecDepth 20000 in
set_option maxHeartbeats 4000000 in
theorem w_rule_ok {g : Gx} {h : HP} {Q : HP → Prop} {dz mz sz : Nat} {fs : List PV} {p0 p1 p2 : Int} {v : Int} {fo : Int → Int} (h0 : h 0 = some (oO 9 fs)) (hc : Ct g yX10_rule (.code yX10_rule cX10_rule 5 (some .int)) dz mz sz [vR 0, vI p0, vI p1, vI p2] h (fun r h1 => r = .inl (some (vI v)) ∧ Q h1)) (hq : ∀ h1, Q h1 → h1 300 = some (oJ 1 fo)) : Ct g yL_rule (.codeWith yL_rule cL_rule 6 (some .int) [(0, 12, 15, 13), (0, 12, 19, 15), (0, 12, 23, 17)]) (dz + 1) mz sz [vR 0, vI p0, vI p1, vI p2, vR 300] h (fun r h1 => r = .inl (some (vI 0)) ∧ ∃ h2, Q h2 ∧ h1 = hput h2 300 (oJ 1 (fput fo 0 v))) := by
  refine Ct.ofW (by decide) (Nat.le_of_ble_eq_true rfl) (fun x hg C F => ?_)
  subst hg
  show T x 0 [(0, vR 0), (1, vI p0), (2, vI p1), (3, vI p2), (4, vR 300)] [] h 0 0
  refine st_aload C dL_rule_0 rfl ?_
  refine st_iconst C dL_rule_2 (by decide) ?_
  refine st_aload_n C 0 dL_rule_3 rfl rfl ?_
  refine st_iload_n C 1 dL_rule_4 rfl rfl ?_
  refine st_iload_n C 2 dL_rule_5 rfl rfl ?_
  refine st_iload_n C 3 dL_rule_6 rfl rfl ?_
  refine st_callV (st := [vI 0, vR 300]) C dL_rule_7 [vI p0, vI p1, vI p2] hc h0 w_L_7 rfl (Nat.le_refl _) (by decide) (by omega) (by omega) (Nat.le_of_ble_eq_true rfl) (ko_ge (fun h1 hq9 => ?_))
  show T x 10 [(0, vR 0), (1, vI p0), (2, vI p1), (3, vI p2), (4, vR 300)] [vI v, vI 0, vR 300] _ _ _
  refine st_i2l C dL_rule_10 ?_
  refine st_last C dL_rule_11 (hq h1 hq9) (by omega) (by omega) ?_
  refine st_goto (tgt := 27) C dL_rule_12 (by decide) ?_
  refine st_iconst C dL_rule_27 (by decide) ?_
  exact st_ireturn C F dL_rule_28 rfl ⟨rfl, h1, hq9, rfl⟩ (by omega) (by omega)
set_option maxRecDepth 20000 in
set_option maxHeartbeats 4000000 in
theorem w_rule_x1 {g : Gx} {h : HP} {Q : HP → Prop} {dz mz sz : Nat} {fs : List PV} {p0 p1 p2 : Int} (h0 : h 0 = some (oO 9 fs)) (hc : Ct g yX10_rule (.code yX10_rule cX10_rule 5 (some .int)) dz mz sz [vR 0, vI p0, vI p1, vI p2] h (fun r h1 => r = .inr "java/lang/IllegalArgumentException" ∧ Q h1)) : Ct g yL_rule (.codeWith yL_rule cL_rule 6 (some .int) [(0, 12, 15, 13), (0, 12, 19, 15), (0, 12, 23, 17)]) (dz + 1) mz sz [vR 0, vI p0, vI p1, vI p2, vR 300] h (fun r h1 => r = .inl (some (vI 1)) ∧ Q h1) := by
  refine Ct.ofW (by decide) (Nat.le_of_ble_eq_true rfl) (fun x hg C F => ?_)
  subst hg
  show T x 0 [(0, vR 0), (1, vI p0), (2, vI p1), (3, vI p2), (4, vR 300)] [] h 0 0
  refine st_aload C dL_rule_0 rfl ?_
  refine st_iconst C dL_rule_2 (by decide) ?_
  refine st_aload_n C 0 dL_rule_3 rfl rfl ?_
  refine st_iload_n C 1 dL_rule_4 rfl rfl ?_
  refine st_iload_n C 2 dL_rule_5 rfl rfl ?_
  refine st_iload_n C 3 dL_rule_6 rfl rfl ?_
  refine st_callV (st := [vI 0, vR 300]) C dL_rule_7 [vI p0, vI p1, vI p2] hc h0 w_L_7 rfl (Nat.le_refl _) (by decide) (by omega) (by omega) (Nat.le_of_ble_eq_true rfl) (ko_gx (fun h1 hq9 => ?_))
  refine st_catch (nm := "java/lang/IllegalArgumentException") (j := 5) (len := 2) C [] [(0, 12, 19, 15), (0, 12, 23, 17)] (0, 12, 15, 13) rfl (fun z hz => nomatch hz) ⟨_, rfl, by decide, by decide, rfl, cl_L_13⟩ ca_IAE (by decide) (Or.inl ⟨dL_rule_15, rfl⟩) [(0, vR 0), (1, vI p0), (2, vI p1), (3, vI p2)] rfl ?_
  show T x 17 [(0, vR 0), (1, vI p0), (2, vI p1), (3, vI p2)] [] _ _ _
  refine st_iconst C dL_rule_17 (by decide) ?_
  exact st_ireturn C F dL_rule_18 rfl ⟨rfl, hq9⟩ (by omega) (by omega)
set_option maxRecDepth 20000 in
set_option maxHeartbeats 4000000 in
theorem w_rule_x2 {g : Gx} {h : HP} {Q : HP → Prop} {dz mz sz : Nat} {fs : List PV} {p0 p1 p2 : Int} (h0 : h 0 = some (oO 9 fs)) (hc : Ct g yX10_rule (.code yX10_rule cX10_rule 5 (some .int)) dz mz sz [vR 0, vI p0, vI p1, vI p2] h (fun r h1 => r = .inr "java/lang/UnsupportedOperationException" ∧ Q h1)) : Ct g yL_rule (.codeWith yL_rule cL_rule 6 (some .int) [(0, 12, 15, 13), (0, 12, 19, 15), (0, 12, 23, 17)]) (dz + 1) mz sz [vR 0, vI p0, vI p1, vI p2, vR 300] h (fun r h1 => r = .inl (some (vI 2)) ∧ Q h1) := by
  refine Ct.ofW (by decide) (Nat.le_of_ble_eq_true rfl) (fun x hg C F => ?_)
  subst hg
  show T x 0 [(0, vR 0), (1, vI p0), (2, vI p1), (3, vI p2), (4, vR 300)] [] h 0 0
  refine st_aload C dL_rule_0 rfl ?_
  refine st_iconst C dL_rule_2 (by decide) ?_
  refine st_aload_n C 0 dL_rule_3 rfl rfl ?_
  refine st_iload_n C 1 dL_rule_4 rfl rfl ?_
  refine st_iload_n C 2 dL_rule_5 rfl rfl ?_
  refine st_iload_n C 3 dL_rule_6 rfl rfl ?_
  refine st_callV (st := [vI 0, vR 300]) C dL_rule_7 [vI p0, vI p1, vI p2] hc h0 w_L_7 rfl (Nat.le_refl _) (by decide) (by omega) (by omega) (Nat.le_of_ble_eq_true rfl) (ko_gx (fun h1 hq9 => ?_))
  refine st_catch (nm := "java/lang/UnsupportedOperationException") (j := 5) (len := 2) C [(0, 12, 15, 13)] [(0, 12, 23, 17)] (0, 12, 19, 15) rfl (List.forall_mem_cons.mpr ⟨Or.inr ⟨by decide, "java/lang/IllegalArgumentException", cl_L_13, by decide⟩, (fun z hz => nomatch hz)⟩) ⟨_, rfl, by decide, by decide, rfl, cl_L_15⟩ ca_UOE (by decide) (Or.inl ⟨dL_rule_19, rfl⟩) [(0, vR 0), (1, vI p0), (2, vI p1), (3, vI p2)] rfl ?_
  show T x 21 [(0, vR 0), (1, vI p0), (2, vI p1), (3, vI p2)] [] _ _ _
  refine st_iconst C dL_rule_21 (by decide) ?_
  exact st_ireturn C F dL_rule_22 rfl ⟨rfl, hq9⟩ (by omega) (by omega)
set_option maxRecDepth 20000 in
set_option maxHeartbeats 4000000 in
theorem w_rule_x3 {g : Gx} {h : HP} {Q : HP → Prop} {dz mz sz : Nat} {fs : List PV} {p0 p1 p2 : Int} (h0 : h 0 = some (oO 9 fs)) (hc : Ct g yX10_rule (.code yX10_rule cX10_rule 5 (some .int)) dz mz sz [vR 0, vI p0, vI p1, vI p2] h (fun r h1 => r = .inr "java/lang/IllegalStateException" ∧ Q h1)) : Ct g yL_rule (.codeWith yL_rule cL_rule 6 (some .int) [(0, 12, 15, 13), (0, 12, 19, 15), (0, 12, 23, 17)]) (dz + 1) mz sz [vR 0, vI p0, vI p1, vI p2, vR 300] h (fun r h1 => r = .inl (some (vI 3)) ∧ Q h1) := by
  refine Ct.ofW (by decide) (Nat.le_of_ble_eq_true rfl) (fun x hg C F => ?_)
  subst hg
  show T x 0 [(0, vR 0), (1, vI p0), (2, vI p1), (3, vI p2), (4, vR 300)] [] h 0 0
  refine st_aload C dL_rule_0 rfl ?_
  refine st_iconst C dL_rule_2 (by decide) ?_
  refine st_aload_n C 0 dL_rule_3 rfl rfl ?_
  refine st_iload_n C 1 dL_rule_4 rfl rfl ?_
  refine st_iload_n C 2 dL_rule_5 rfl rfl ?_
  refine st_iload_n C 3 dL_rule_6 rfl rfl ?_
  refine st_callV (st := [vI 0, vR 300]) C dL_rule_7 [vI p0, vI p1, vI p2] hc h0 w_L_7 rfl (Nat.le_refl _) (by decide) (by omega) (by omega) (Nat.le_of_ble_eq_true rfl) (ko_gx (fun h1 hq9 => ?_))
  refine st_catch (nm := "java/lang/IllegalStateException") (j := 5) (len := 2) C [(0, 12, 15, 13), (0, 12, 19, 15)] [] (0, 12, 23, 17) rfl (List.forall_mem_cons.mpr ⟨Or.inr ⟨by decide, "java/lang/IllegalArgumentException", cl_L_13, by decide⟩, (List.forall_mem_cons.mpr ⟨Or.inr ⟨by decide, "java/lang/UnsupportedOperationException", cl_L_15, by decide⟩, (fun z hz => nomatch hz)⟩)⟩) ⟨_, rfl, by decide, by decide, rfl, cl_L_17⟩ ca_ISE (by decide) (Or.inl ⟨dL_rule_23, rfl⟩) [(0, vR 0), (1, vI p0), (2, vI p1), (3, vI p2)] rfl ?_
  show T x 25 [(0, vR 0), (1, vI p0), (2, vI p1), (3, vI p2)] [] _ _ _
  refine st_iconst C dL_rule_25 (by decide) ?_
  exact st_ireturn C F dL_rule_26 rfl ⟨rfl, hq9⟩ (by omega) (by omega)
set_option maxRecDepth 20000 in
set_option maxHeartbeats 4000000 in
theorem w_seen_ok {g : Gx} {h : HP} {Q : HP → Prop} {dz mz sz : Nat} {fs : List PV} {p0 p1 : Int} {v : Int} {fo : Int → Int} (h0 : h 0 = some (oO 9 fs)) (hc : Ct g yX10_seen (.code yX10_seen cX10_seen 4 (some .int)) dz mz sz [vR 0, vI p0, vI p1] h (fun r h1 => r = .inl (some (vI v)) ∧ Q h1)) (hq : ∀ h1, Q h1 → h1 300 = some (oJ 1 fo)) : Ct g yL_seen (.codeWith yL_seen cL_seen 5 (some .int) [(0, 10, 13, 27), (0, 10, 17, 13)]) (dz + 1) mz sz [vR 0, vI p0, vI p1, vR 300] h (fun r h1 => r = .inl (some (vI 0)) ∧ ∃ h2, Q h2 ∧ h1 = hput h2 300 (oJ 1 (fput fo 0 v))) := by
  refine Ct.ofW (by decide) (Nat.le_of_ble_eq_true rfl) (fun x hg C F => ?_)
  subst hg
  show T x 0 [(0, vR 0), (1, vI p0), (2, vI p1), (3, vR 300)] [] h 0 0
  refine st_aload_n C 3 dL_seen_0 rfl rfl ?_
  refine st_iconst C dL_seen_1 (by decide) ?_
  refine st_aload_n C 0 dL_seen_2 rfl rfl ?_
  refine st_iload_n C 1 dL_seen_3 rfl rfl ?_
  refine st_iload_n C 2 dL_seen_4 rfl rfl ?_
  refine st_callV (st := [vI 0, vR 300]) C dL_seen_5 [vI p0, vI p1] hc h0 w_L_37 rfl (Nat.le_refl _) (by decide) (by omega) (by omega) (Nat.le_of_ble_eq_true rfl) (ko_ge (fun h1 hq9 => ?_))
  show T x 8 [(0, vR 0), (1, vI p0), (2, vI p1), (3, vR 300)] [vI v, vI 0, vR 300] _ _ _
  refine st_i2l C dL_seen_8 ?_
  refine st_last C dL_seen_9 (hq h1 hq9) (by omega) (by omega) ?_
  refine st_goto (tgt := 21) C dL_seen_10 (by decide) ?_
  refine st_iconst C dL_seen_21 (by decide) ?_
  exact st_ireturn C F dL_seen_22 rfl ⟨rfl, h1, hq9, rfl⟩ (by omega) (by omega)
set_option maxRecDepth 20000 in
set_option maxHeartbeats 4000000 in
theorem w_seen_x1 {g : Gx} {h : HP} {Q : HP → Prop} {dz mz sz : Nat} {fs : List PV} {p0 p1 : Int} (h0 : h 0 = some (oO 9 fs)) (hc : Ct g yX10_seen (.code yX10_seen cX10_seen 4 (some .int)) dz mz sz [vR 0, vI p0, vI p1] h (fun r h1 => r = .inr "java/lang/IndexOutOfBoundsException" ∧ Q h1)) : Ct g yL_seen (.codeWith yL_seen cL_seen 5 (some .int) [(0, 10, 13, 27), (0, 10, 17, 13)]) (dz + 1) mz sz [vR 0, vI p0, vI p1, vR 300] h (fun r h1 => r = .inl (some (vI 1)) ∧ Q h1) := by
  refine Ct.ofW (by decide) (Nat.le_of_ble_eq_true rfl) (fun x hg C F => ?_)
  subst hg
  show T x 0 [(0, vR 0), (1, vI p0), (2, vI p1), (3, vR 300)] [] h 0 0
  refine st_aload_n C 3 dL_seen_0 rfl rfl ?_
  refine st_iconst C dL_seen_1 (by decide) ?_
  refine st_aload_n C 0 dL_seen_2 rfl rfl ?_
  refine st_iload_n C 1 dL_seen_3 rfl rfl ?_
  refine st_iload_n C 2 dL_seen_4 rfl rfl ?_
  refine st_callV (st := [vI 0, vR 300]) C dL_seen_5 [vI p0, vI p1] hc h0 w_L_37 rfl (Nat.le_refl _) (by decide) (by omega) (by omega) (Nat.le_of_ble_eq_true rfl) (ko_gx (fun h1 hq9 => ?_))
  refine st_catch (nm := "java/lang/IndexOutOfBoundsException") (j := 4) (len := 2) C [] [(0, 10, 17, 13)] (0, 10, 13, 27) rfl (fun z hz => nomatch hz) ⟨_, rfl, by decide, by decide, rfl, cl_L_27⟩ ca_IOB (by decide) (Or.inl ⟨dL_seen_13, rfl⟩) [(0, vR 0), (1, vI p0), (2, vI p1)] rfl ?_
  show T x 15 [(0, vR 0), (1, vI p0), (2, vI p1)] [] _ _ _
  refine st_iconst C dL_seen_15 (by decide) ?_
  exact st_ireturn C F dL_seen_16 rfl ⟨rfl, hq9⟩ (by omega) (by omega)
set_option maxRecDepth 20000 in
set_option maxHeartbeats 4000000 in
theorem w_seen_x2 {g : Gx} {h : HP} {Q : HP → Prop} {dz mz sz : Nat} {fs : List PV} {p0 p1 : Int} (h0 : h 0 = some (oO 9 fs)) (hc : Ct g yX10_seen (.code yX10_seen cX10_seen 4 (some .int)) dz mz sz [vR 0, vI p0, vI p1] h (fun r h1 => r = .inr "java/lang/IllegalArgumentException" ∧ Q h1)) : Ct g yL_seen (.codeWith yL_seen cL_seen 5 (some .int) [(0, 10, 13, 27), (0, 10, 17, 13)]) (dz + 1) mz sz [vR 0, vI p0, vI p1, vR 300] h (fun r h1 => r = .inl (some (vI 2)) ∧ Q h1) := by
  refine Ct.ofW (by decide) (Nat.le_of_ble_eq_true rfl) (fun x hg C F => ?_)
  subst hg
  show T x 0 [(0, vR 0), (1, vI p0), (2, vI p1), (3, vR 300)] [] h 0 0
  refine st_aload_n C 3 dL_seen_0 rfl rfl ?_
  refine st_iconst C dL_seen_1 (by decide) ?_
  refine st_aload_n C 0 dL_seen_2 rfl rfl ?_
  refine st_iload_n C 1 dL_seen_3 rfl rfl ?_
  refine st_iload_n C 2 dL_seen_4 rfl rfl ?_
  refine st_callV (st := [vI 0, vR 300]) C dL_seen_5 [vI p0, vI p1] hc h0 w_L_37 rfl (Nat.le_refl _) (by decide) (by omega) (by omega) (Nat.le_of_ble_eq_true rfl) (ko_gx (fun h1 hq9 => ?_))
  refine st_catch (nm := "java/lang/IllegalArgumentException") (j := 4) (len := 2) C [(0, 10, 13, 27)] [] (0, 10, 17, 13) rfl (List.forall_mem_cons.mpr ⟨Or.inr ⟨by decide, "java/lang/IndexOutOfBoundsException", cl_L_27, by decide⟩, (fun z hz => nomatch hz)⟩) ⟨_, rfl, by decide, by decide, rfl, cl_L_13⟩ ca_IAE (by decide) (Or.inl ⟨dL_seen_17, rfl⟩) [(0, vR 0), (1, vI p0), (2, vI p1)] rfl ?_
  show T x 19 [(0, vR 0), (1, vI p0), (2, vI p1)] [] _ _ _
  refine st_iconst C dL_seen_19 (by decide) ?_
  exact st_ireturn C F dL_seen_20 rfl ⟨rfl, hq9⟩ (by omega) (by omega)
set_option maxRecDepth 20000 in
set_option maxHeartbeats 4000000 in
theorem w_settle_ok {g : Gx} {h : HP} {Q : HP → Prop} {dz mz sz : Nat} {fs : List PV} {p0 p1 p2 : Int} {v : Int} {fo : Int → Int} (h0 : h 0 = some (oO 9 fs)) (hc : Ct g yX10_settle (.code yX10_settle cX10_settle 5 (some .int)) dz mz sz [vR 0, vI p0, vI p1, vI p2] h (fun r h1 => r = .inl (some (vI v)) ∧ Q h1)) (hq : ∀ h1, Q h1 → h1 300 = some (oJ 1 fo)) : Ct g yL_settle (.codeWith yL_settle cL_settle 6 (some .int) [(0, 12, 15, 27), (0, 12, 19, 13), (0, 12, 23, 15)]) (dz + 1) mz sz [vR 0, vI p0, vI p1, vI p2, vR 300] h (fun r h1 => r = .inl (some (vI 0)) ∧ ∃ h2, Q h2 ∧ h1 = hput h2 300 (oJ 1 (fput fo 0 v))) := by
  refine Ct.ofW (by decide) (Nat.le_of_ble_eq_true rfl) (fun x hg C F => ?_)
  subst hg
  show T x 0 [(0, vR 0), (1, vI p0), (2, vI p1), (3, vI p2), (4, vR 300)] [] h 0 0
  refine st_aload C dL_settle_0 rfl ?_
  refine st_iconst C dL_settle_2 (by decide) ?_
  refine st_aload_n C 0 dL_settle_3 rfl rfl ?_
  refine st_iload_n C 1 dL_settle_4 rfl rfl ?_
  refine st_iload_n C 2 dL_settle_5 rfl rfl ?_
  refine st_iload_n C 3 dL_settle_6 rfl rfl ?_
  refine st_callV (st := [vI 0, vR 300]) C dL_settle_7 [vI p0, vI p1, vI p2] hc h0 w_L_52 rfl (Nat.le_refl _) (by decide) (by omega) (by omega) (Nat.le_of_ble_eq_true rfl) (ko_ge (fun h1 hq9 => ?_))
  show T x 10 [(0, vR 0), (1, vI p0), (2, vI p1), (3, vI p2), (4, vR 300)] [vI v, vI 0, vR 300] _ _ _
  refine st_i2l C dL_settle_10 ?_
  refine st_last C dL_settle_11 (hq h1 hq9) (by omega) (by omega) ?_
  refine st_goto (tgt := 27) C dL_settle_12 (by decide) ?_
  refine st_iconst C dL_settle_27 (by decide) ?_
  exact st_ireturn C F dL_settle_28 rfl ⟨rfl, h1, hq9, rfl⟩ (by omega) (by omega)
set_option maxRecDepth 20000 in
set_option maxHeartbeats 4000000 in
theorem w_settle_x1 {g : Gx} {h : HP} {Q : HP → Prop} {dz mz sz : Nat} {fs : List PV} {p0 p1 p2 : Int} (h0 : h 0 = some (oO 9 fs)) (hc : Ct g yX10_settle (.code yX10_settle cX10_settle 5 (some .int)) dz mz sz [vR 0, vI p0, vI p1, vI p2] h (fun r h1 => r = .inr "java/lang/IndexOutOfBoundsException" ∧ Q h1)) : Ct g yL_settle (.codeWith yL_settle cL_settle 6 (some .int) [(0, 12, 15, 27), (0, 12, 19, 13), (0, 12, 23, 15)]) (dz + 1) mz sz [vR 0, vI p0, vI p1, vI p2, vR 300] h (fun r h1 => r = .inl (some (vI 1)) ∧ Q h1) := by
  refine Ct.ofW (by decide) (Nat.le_of_ble_eq_true rfl) (fun x hg C F => ?_)
  subst hg
  show T x 0 [(0, vR 0), (1, vI p0), (2, vI p1), (3, vI p2), (4, vR 300)] [] h 0 0
  refine st_aload C dL_settle_0 rfl ?_
  refine st_iconst C dL_settle_2 (by decide) ?_
  refine st_aload_n C 0 dL_settle_3 rfl rfl ?_
  refine st_iload_n C 1 dL_settle_4 rfl rfl ?_
  refine st_iload_n C 2 dL_settle_5 rfl rfl ?_
  refine st_iload_n C 3 dL_settle_6 rfl rfl ?_
  refine st_callV (st := [vI 0, vR 300]) C dL_settle_7 [vI p0, vI p1, vI p2] hc h0 w_L_52 rfl (Nat.le_refl _) (by decide) (by omega) (by omega) (Nat.le_of_ble_eq_true rfl) (ko_gx (fun h1 hq9 => ?_))
  refine st_catch (nm := "java/lang/IndexOutOfBoundsException") (j := 5) (len := 2) C [] [(0, 12, 19, 13), (0, 12, 23, 15)] (0, 12, 15, 27) rfl (fun z hz => nomatch hz) ⟨_, rfl, by decide, by decide, rfl, cl_L_27⟩ ca_IOB (by decide) (Or.inl ⟨dL_settle_15, rfl⟩) [(0, vR 0), (1, vI p0), (2, vI p1), (3, vI p2)] rfl ?_
  show T x 17 [(0, vR 0), (1, vI p0), (2, vI p1), (3, vI p2)] [] _ _ _
  refine st_iconst C dL_settle_17 (by decide) ?_
  exact st_ireturn C F dL_settle_18 rfl ⟨rfl, hq9⟩ (by omega) (by omega)
set_option maxRecDepth 20000 in
set_option maxHeartbeats 4000000 in
theorem w_settle_x2 {g : Gx} {h : HP} {Q : HP → Prop} {dz mz sz : Nat} {fs : List PV} {p0 p1 p2 : Int} (h0 : h 0 = some (oO 9 fs)) (hc : Ct g yX10_settle (.code yX10_settle cX10_settle 5 (some .int)) dz mz sz [vR 0, vI p0, vI p1, vI p2] h (fun r h1 => r = .inr "java/lang/IllegalArgumentException" ∧ Q h1)) : Ct g yL_settle (.codeWith yL_settle cL_settle 6 (some .int) [(0, 12, 15, 27), (0, 12, 19, 13), (0, 12, 23, 15)]) (dz + 1) mz sz [vR 0, vI p0, vI p1, vI p2, vR 300] h (fun r h1 => r = .inl (some (vI 2)) ∧ Q h1) := by
  refine Ct.ofW (by decide) (Nat.le_of_ble_eq_true rfl) (fun x hg C F => ?_)
  subst hg
  show T x 0 [(0, vR 0), (1, vI p0), (2, vI p1), (3, vI p2), (4, vR 300)] [] h 0 0
  refine st_aload C dL_settle_0 rfl ?_
  refine st_iconst C dL_settle_2 (by decide) ?_
  refine st_aload_n C 0 dL_settle_3 rfl rfl ?_
  refine st_iload_n C 1 dL_settle_4 rfl rfl ?_
  refine st_iload_n C 2 dL_settle_5 rfl rfl ?_
  refine st_iload_n C 3 dL_settle_6 rfl rfl ?_
  refine st_callV (st := [vI 0, vR 300]) C dL_settle_7 [vI p0, vI p1, vI p2] hc h0 w_L_52 rfl (Nat.le_refl _) (by decide) (by omega) (by omega) (Nat.le_of_ble_eq_true rfl) (ko_gx (fun h1 hq9 => ?_))
  refine st_catch (nm := "java/lang/IllegalArgumentException") (j := 5) (len := 2) C [(0, 12, 15, 27)] [(0, 12, 23, 15)] (0, 12, 19, 13) rfl (List.forall_mem_cons.mpr ⟨Or.inr ⟨by decide, "java/lang/IndexOutOfBoundsException", cl_L_27, by decide⟩, (fun z hz => nomatch hz)⟩) ⟨_, rfl, by decide, by decide, rfl, cl_L_13⟩ ca_IAE (by decide) (Or.inl ⟨dL_settle_19, rfl⟩) [(0, vR 0), (1, vI p0), (2, vI p1), (3, vI p2)] rfl ?_
  show T x 21 [(0, vR 0), (1, vI p0), (2, vI p1), (3, vI p2)] [] _ _ _
  refine st_iconst C dL_settle_21 (by decide) ?_
  exact st_ireturn C F dL_settle_22 rfl ⟨rfl, hq9⟩ (by omega) (by omega)
set_option maxRecDepth 20000 in
set_option maxHeartbeats 4000000 in
theorem w_settle_x3 {g : Gx} {h : HP} {Q : HP → Prop} {dz mz sz : Nat} {fs : List PV} {p0 p1 p2 : Int} (h0 : h 0 = some (oO 9 fs)) (hc : Ct g yX10_settle (.code yX10_settle cX10_settle 5 (some .int)) dz mz sz [vR 0, vI p0, vI p1, vI p2] h (fun r h1 => r = .inr "java/lang/UnsupportedOperationException" ∧ Q h1)) : Ct g yL_settle (.codeWith yL_settle cL_settle 6 (some .int) [(0, 12, 15, 27), (0, 12, 19, 13), (0, 12, 23, 15)]) (dz + 1) mz sz [vR 0, vI p0, vI p1, vI p2, vR 300] h (fun r h1 => r = .inl (some (vI 3)) ∧ Q h1) := by
  refine Ct.ofW (by decide) (Nat.le_of_ble_eq_true rfl) (fun x hg C F => ?_)
  subst hg
  show T x 0 [(0, vR 0), (1, vI p0), (2, vI p1), (3, vI p2), (4, vR 300)] [] h 0 0
  refine st_aload C dL_settle_0 rfl ?_
  refine st_iconst C dL_settle_2 (by decide) ?_
  refine st_aload_n C 0 dL_settle_3 rfl rfl ?_
  refine st_iload_n C 1 dL_settle_4 rfl rfl ?_
  refine st_iload_n C 2 dL_settle_5 rfl rfl ?_
  refine st_iload_n C 3 dL_settle_6 rfl rfl ?_
  refine st_callV (st := [vI 0, vR 300]) C dL_settle_7 [vI p0, vI p1, vI p2] hc h0 w_L_52 rfl (Nat.le_refl _) (by decide) (by omega) (by omega) (Nat.le_of_ble_eq_true rfl) (ko_gx (fun h1 hq9 => ?_))
  refine st_catch (nm := "java/lang/UnsupportedOperationException") (j := 5) (len := 2) C [(0, 12, 15, 27), (0, 12, 19, 13)] [] (0, 12, 23, 15) rfl (List.forall_mem_cons.mpr ⟨Or.inr ⟨by decide, "java/lang/IndexOutOfBoundsException", cl_L_27, by decide⟩, (List.forall_mem_cons.mpr ⟨Or.inr ⟨by decide, "java/lang/IllegalArgumentException", cl_L_13, by decide⟩, (fun z hz => nomatch hz)⟩)⟩) ⟨_, rfl, by decide, by decide, rfl, cl_L_15⟩ ca_UOE (by decide) (Or.inl ⟨dL_settle_23, rfl⟩) [(0, vR 0), (1, vI p0), (2, vI p1), (3, vI p2)] rfl ?_
  show T x 25 [(0, vR 0), (1, vI p0), (2, vI p1), (3, vI p2)] [] _ _ _
  refine st_iconst C dL_settle_25 (by decide) ?_
  exact st_ireturn C F dL_settle_26 rfl ⟨rfl, hq9⟩ (by omega) (by omega)
set_option maxRecDepth 20000 in
set_option maxHeartbeats 4000000 in
theorem w_size_ok {g : Gx} {h : HP} {Q : HP → Prop} {dz mz sz : Nat} {fs : List PV} {p0 p1 : Int} {v : Int} {fo : Int → Int} (h0 : h 0 = some (oO 9 fs)) (hc : Ct g yX10_size (.code yX10_size cX10_size 3 (some .int)) dz mz sz [vR 0, vI p0, vI p1] h (fun r h1 => r = .inl (some (vI v)) ∧ Q h1)) (hq : ∀ h1, Q h1 → h1 300 = some (oJ 1 fo)) : Ct g yL_size (.codeWith yL_size cL_size 5 (some .int) [(0, 10, 13, 13)]) (dz + 1) mz sz [vR 0, vI p0, vI p1, vR 300] h (fun r h1 => r = .inl (some (vI 0)) ∧ ∃ h2, Q h2 ∧ h1 = hput h2 300 (oJ 1 (fput fo 0 v))) := by
  refine Ct.ofW (by decide) (Nat.le_of_ble_eq_true rfl) (fun x hg C F => ?_)
  subst hg
  show T x 0 [(0, vR 0), (1, vI p0), (2, vI p1), (3, vR 300)] [] h 0 0
  refine st_aload_n C 3 dL_size_0 rfl rfl ?_
  refine st_iconst C dL_size_1 (by decide) ?_
  refine st_aload_n C 0 dL_size_2 rfl rfl ?_
  refine st_iload_n C 1 dL_size_3 rfl rfl ?_
  refine st_iload_n C 2 dL_size_4 rfl rfl ?_
  refine st_callV (st := [vI 0, vR 300]) C dL_size_5 [vI p0, vI p1] hc h0 w_L_92 rfl (Nat.le_refl _) (by decide) (by omega) (by omega) (Nat.le_of_ble_eq_true rfl) (ko_ge (fun h1 hq9 => ?_))
  show T x 8 [(0, vR 0), (1, vI p0), (2, vI p1), (3, vR 300)] [vI v, vI 0, vR 300] _ _ _
  refine st_i2l C dL_size_8 ?_
  refine st_last C dL_size_9 (hq h1 hq9) (by omega) (by omega) ?_
  refine st_goto (tgt := 17) C dL_size_10 (by decide) ?_
  refine st_iconst C dL_size_17 (by decide) ?_
  exact st_ireturn C F dL_size_18 rfl ⟨rfl, h1, hq9, rfl⟩ (by omega) (by omega)
set_option maxRecDepth 20000 in
set_option maxHeartbeats 4000000 in
theorem w_size_x1 {g : Gx} {h : HP} {Q : HP → Prop} {dz mz sz : Nat} {fs : List PV} {p0 p1 : Int} (h0 : h 0 = some (oO 9 fs)) (hc : Ct g yX10_size (.code yX10_size cX10_size 3 (some .int)) dz mz sz [vR 0, vI p0, vI p1] h (fun r h1 => r = .inr "java/lang/IllegalArgumentException" ∧ Q h1)) : Ct g yL_size (.codeWith yL_size cL_size 5 (some .int) [(0, 10, 13, 13)]) (dz + 1) mz sz [vR 0, vI p0, vI p1, vR 300] h (fun r h1 => r = .inl (some (vI 1)) ∧ Q h1) := by
  refine Ct.ofW (by decide) (Nat.le_of_ble_eq_true rfl) (fun x hg C F => ?_)
  subst hg
  show T x 0 [(0, vR 0), (1, vI p0), (2, vI p1), (3, vR 300)] [] h 0 0
  refine st_aload_n C 3 dL_size_0 rfl rfl ?_
  refine st_iconst C dL_size_1 (by decide) ?_
  refine st_aload_n C 0 dL_size_2 rfl rfl ?_
  refine st_iload_n C 1 dL_size_3 rfl rfl ?_
  refine st_iload_n C 2 dL_size_4 rfl rfl ?_
  refine st_callV (st := [vI 0, vR 300]) C dL_size_5 [vI p0, vI p1] hc h0 w_L_92 rfl (Nat.le_refl _) (by decide) (by omega) (by omega) (Nat.le_of_ble_eq_true rfl) (ko_gx (fun h1 hq9 => ?_))
  refine st_catch (nm := "java/lang/IllegalArgumentException") (j := 4) (len := 2) C [] [] (0, 10, 13, 13) rfl (fun z hz => nomatch hz) ⟨_, rfl, by decide, by decide, rfl, cl_L_13⟩ ca_IAE (by decide) (Or.inl ⟨dL_size_13, rfl⟩) [(0, vR 0), (1, vI p0), (2, vI p1)] rfl ?_
  show T x 15 [(0, vR 0), (1, vI p0), (2, vI p1)] [] _ _ _
  refine st_iconst C dL_size_15 (by decide) ?_
  exact st_ireturn C F dL_size_16 rfl ⟨rfl, hq9⟩ (by omega) (by omega)
set_option maxRecDepth 20000 in
set_option maxHeartbeats 4000000 in
theorem w_tile_ok {g : Gx} {h : HP} {Q : HP → Prop} {dz mz sz : Nat} {fs : List PV} {p0 p1 p2 p3 : Int} {v : Int} {fo : Int → Int} (h0 : h 0 = some (oO 9 fs)) (hc : Ct g yX10_tile (.code yX10_tile cX10_tile 5 (some .int)) dz mz sz [vR 0, vI p0, vI p1, vI p2, vI p3] h (fun r h1 => r = .inl (some (vI v)) ∧ Q h1)) (hq : ∀ h1, Q h1 → h1 300 = some (oJ 1 fo)) : Ct g yL_tile (.codeWith yL_tile cL_tile 7 (some .int) [(0, 14, 17, 13)]) (dz + 1) mz sz [vR 0, vI p0, vI p1, vI p2, vI p3, vR 300] h (fun r h1 => r = .inl (some (vI 0)) ∧ ∃ h2, Q h2 ∧ h1 = hput h2 300 (oJ 1 (fput fo 0 v))) := by
  refine Ct.ofW (by decide) (Nat.le_of_ble_eq_true rfl) (fun x hg C F => ?_)
  subst hg
  show T x 0 [(0, vR 0), (1, vI p0), (2, vI p1), (3, vI p2), (4, vI p3), (5, vR 300)] [] h 0 0
  refine st_aload C dL_tile_0 rfl ?_
  refine st_iconst C dL_tile_2 (by decide) ?_
  refine st_aload_n C 0 dL_tile_3 rfl rfl ?_
  refine st_iload_n C 1 dL_tile_4 rfl rfl ?_
  refine st_iload_n C 2 dL_tile_5 rfl rfl ?_
  refine st_iload_n C 3 dL_tile_6 rfl rfl ?_
  refine st_iload C dL_tile_7 rfl ?_
  refine st_callV (st := [vI 0, vR 300]) C dL_tile_9 [vI p0, vI p1, vI p2, vI p3] hc h0 w_L_78 rfl (Nat.le_refl _) (by decide) (by omega) (by omega) (Nat.le_of_ble_eq_true rfl) (ko_ge (fun h1 hq9 => ?_))
  show T x 12 [(0, vR 0), (1, vI p0), (2, vI p1), (3, vI p2), (4, vI p3), (5, vR 300)] [vI v, vI 0, vR 300] _ _ _
  refine st_i2l C dL_tile_12 ?_
  refine st_last C dL_tile_13 (hq h1 hq9) (by omega) (by omega) ?_
  refine st_goto (tgt := 21) C dL_tile_14 (by decide) ?_
  refine st_iconst C dL_tile_21 (by decide) ?_
  exact st_ireturn C F dL_tile_22 rfl ⟨rfl, h1, hq9, rfl⟩ (by omega) (by omega)
set_option maxRecDepth 20000 in
set_option maxHeartbeats 4000000 in
theorem w_tile_x1 {g : Gx} {h : HP} {Q : HP → Prop} {dz mz sz : Nat} {fs : List PV} {p0 p1 p2 p3 : Int} (h0 : h 0 = some (oO 9 fs)) (hc : Ct g yX10_tile (.code yX10_tile cX10_tile 5 (some .int)) dz mz sz [vR 0, vI p0, vI p1, vI p2, vI p3] h (fun r h1 => r = .inr "java/lang/IllegalArgumentException" ∧ Q h1)) : Ct g yL_tile (.codeWith yL_tile cL_tile 7 (some .int) [(0, 14, 17, 13)]) (dz + 1) mz sz [vR 0, vI p0, vI p1, vI p2, vI p3, vR 300] h (fun r h1 => r = .inl (some (vI 1)) ∧ Q h1) := by
  refine Ct.ofW (by decide) (Nat.le_of_ble_eq_true rfl) (fun x hg C F => ?_)
  subst hg
  show T x 0 [(0, vR 0), (1, vI p0), (2, vI p1), (3, vI p2), (4, vI p3), (5, vR 300)] [] h 0 0
  refine st_aload C dL_tile_0 rfl ?_
  refine st_iconst C dL_tile_2 (by decide) ?_
  refine st_aload_n C 0 dL_tile_3 rfl rfl ?_
  refine st_iload_n C 1 dL_tile_4 rfl rfl ?_
  refine st_iload_n C 2 dL_tile_5 rfl rfl ?_
  refine st_iload_n C 3 dL_tile_6 rfl rfl ?_
  refine st_iload C dL_tile_7 rfl ?_
  refine st_callV (st := [vI 0, vR 300]) C dL_tile_9 [vI p0, vI p1, vI p2, vI p3] hc h0 w_L_78 rfl (Nat.le_refl _) (by decide) (by omega) (by omega) (Nat.le_of_ble_eq_true rfl) (ko_gx (fun h1 hq9 => ?_))
  refine st_catch (nm := "java/lang/IllegalArgumentException") (j := 6) (len := 2) C [] [] (0, 14, 17, 13) rfl (fun z hz => nomatch hz) ⟨_, rfl, by decide, by decide, rfl, cl_L_13⟩ ca_IAE (by decide) (Or.inl ⟨dL_tile_17, rfl⟩) [(0, vR 0), (1, vI p0), (2, vI p1), (3, vI p2), (4, vI p3)] rfl ?_
  show T x 19 [(0, vR 0), (1, vI p0), (2, vI p1), (3, vI p2), (4, vI p3)] [] _ _ _
  refine st_iconst C dL_tile_19 (by decide) ?_
  exact st_ireturn C F dL_tile_20 rfl ⟨rfl, hq9⟩ (by omega) (by omega)
set_option maxRecDepth 20000 in
set_option maxHeartbeats 4000000 in
theorem w_undo_ok {g : Gx} {h : HP} {Q : HP → Prop} {dz mz sz : Nat} {fs : List PV} {v : Int} {fo : Int → Int} (h0 : h 0 = some (oO 9 fs)) (hc : Ct g yX10_undo (.code yX10_undo cX10_undo 3 (some .int)) dz mz sz [vR 0] h (fun r h1 => r = .inl (some (vI v)) ∧ Q h1)) (hq : ∀ h1, Q h1 → h1 300 = some (oJ 1 fo)) : Ct g yL_undo (.codeWith yL_undo cL_undo 3 (some .int) [(0, 8, 11, 50), (0, 8, 14, 15), (0, 8, 17, 17)]) (dz + 1) mz sz [vR 0, vR 300] h (fun r h1 => r = .inl (some (vI 0)) ∧ ∃ h2, Q h2 ∧ h1 = hput h2 300 (oJ 1 (fput fo 0 v))) := by
  refine Ct.ofW (by decide) (Nat.le_of_ble_eq_true rfl) (fun x hg C F => ?_)
  subst hg
  show T x 0 [(0, vR 0), (1, vR 300)] [] h 0 0
  refine st_aload_n C 1 dL_undo_0 rfl rfl ?_
  refine st_iconst C dL_undo_1 (by decide) ?_
  refine st_aload_n C 0 dL_undo_2 rfl rfl ?_
  refine st_callV (st := [vI 0, vR 300]) C dL_undo_3 [] hc h0 w_L_62 rfl (Nat.le_refl _) (by decide) (by omega) (by omega) (Nat.le_of_ble_eq_true rfl) (ko_ge (fun h1 hq9 => ?_))
  show T x 6 [(0, vR 0), (1, vR 300)] [vI v, vI 0, vR 300] _ _ _
  refine st_i2l C dL_undo_6 ?_
  refine st_last C dL_undo_7 (hq h1 hq9) (by omega) (by omega) ?_
  refine st_goto (tgt := 20) C dL_undo_8 (by decide) ?_
  refine st_iconst C dL_undo_20 (by decide) ?_
  exact st_ireturn C F dL_undo_21 rfl ⟨rfl, h1, hq9, rfl⟩ (by omega) (by omega)
set_option maxRecDepth 20000 in
set_option maxHeartbeats 4000000 in
theorem w_undo_x1 {g : Gx} {h : HP} {Q : HP → Prop} {dz mz sz : Nat} {fs : List PV} (h0 : h 0 = some (oO 9 fs)) (hc : Ct g yX10_undo (.code yX10_undo cX10_undo 3 (some .int)) dz mz sz [vR 0] h (fun r h1 => r = .inr "java/util/NoSuchElementException" ∧ Q h1)) : Ct g yL_undo (.codeWith yL_undo cL_undo 3 (some .int) [(0, 8, 11, 50), (0, 8, 14, 15), (0, 8, 17, 17)]) (dz + 1) mz sz [vR 0, vR 300] h (fun r h1 => r = .inl (some (vI 1)) ∧ Q h1) := by
  refine Ct.ofW (by decide) (Nat.le_of_ble_eq_true rfl) (fun x hg C F => ?_)
  subst hg
  show T x 0 [(0, vR 0), (1, vR 300)] [] h 0 0
  refine st_aload_n C 1 dL_undo_0 rfl rfl ?_
  refine st_iconst C dL_undo_1 (by decide) ?_
  refine st_aload_n C 0 dL_undo_2 rfl rfl ?_
  refine st_callV (st := [vI 0, vR 300]) C dL_undo_3 [] hc h0 w_L_62 rfl (Nat.le_refl _) (by decide) (by omega) (by omega) (Nat.le_of_ble_eq_true rfl) (ko_gx (fun h1 hq9 => ?_))
  refine st_catch (nm := "java/util/NoSuchElementException") (j := 2) (len := 1) C [] [(0, 8, 14, 15), (0, 8, 17, 17)] (0, 8, 11, 50) rfl (fun z hz => nomatch hz) ⟨_, rfl, by decide, by decide, rfl, cl_L_50⟩ ca_NSE (by decide) (Or.inr ⟨_, dL_undo_11, rfl, rfl⟩) [(0, vR 0)] rfl ?_
  show T x 12 [(0, vR 0)] [] _ _ _
  refine st_iconst C dL_undo_12 (by decide) ?_
  exact st_ireturn C F dL_undo_13 rfl ⟨rfl, hq9⟩ (by omega) (by omega)
set_option maxRecDepth 20000 in
set_option maxHeartbeats 4000000 in
theorem w_undo_x2 {g : Gx} {h : HP} {Q : HP → Prop} {dz mz sz : Nat} {fs : List PV} (h0 : h 0 = some (oO 9 fs)) (hc : Ct g yX10_undo (.code yX10_undo cX10_undo 3 (some .int)) dz mz sz [vR 0] h (fun r h1 => r = .inr "java/lang/UnsupportedOperationException" ∧ Q h1)) : Ct g yL_undo (.codeWith yL_undo cL_undo 3 (some .int) [(0, 8, 11, 50), (0, 8, 14, 15), (0, 8, 17, 17)]) (dz + 1) mz sz [vR 0, vR 300] h (fun r h1 => r = .inl (some (vI 2)) ∧ Q h1) := by
  refine Ct.ofW (by decide) (Nat.le_of_ble_eq_true rfl) (fun x hg C F => ?_)
  subst hg
  show T x 0 [(0, vR 0), (1, vR 300)] [] h 0 0
  refine st_aload_n C 1 dL_undo_0 rfl rfl ?_
  refine st_iconst C dL_undo_1 (by decide) ?_
  refine st_aload_n C 0 dL_undo_2 rfl rfl ?_
  refine st_callV (st := [vI 0, vR 300]) C dL_undo_3 [] hc h0 w_L_62 rfl (Nat.le_refl _) (by decide) (by omega) (by omega) (Nat.le_of_ble_eq_true rfl) (ko_gx (fun h1 hq9 => ?_))
  refine st_catch (nm := "java/lang/UnsupportedOperationException") (j := 2) (len := 1) C [(0, 8, 11, 50)] [(0, 8, 17, 17)] (0, 8, 14, 15) rfl (List.forall_mem_cons.mpr ⟨Or.inr ⟨by decide, "java/util/NoSuchElementException", cl_L_50, by decide⟩, (fun z hz => nomatch hz)⟩) ⟨_, rfl, by decide, by decide, rfl, cl_L_15⟩ ca_UOE (by decide) (Or.inr ⟨_, dL_undo_14, rfl, rfl⟩) [(0, vR 0)] rfl ?_
  show T x 15 [(0, vR 0)] [] _ _ _
  refine st_iconst C dL_undo_15 (by decide) ?_
  exact st_ireturn C F dL_undo_16 rfl ⟨rfl, hq9⟩ (by omega) (by omega)
set_option maxRecDepth 20000 in
set_option maxHeartbeats 4000000 in
theorem w_undo_x3 {g : Gx} {h : HP} {Q : HP → Prop} {dz mz sz : Nat} {fs : List PV} (h0 : h 0 = some (oO 9 fs)) (hc : Ct g yX10_undo (.code yX10_undo cX10_undo 3 (some .int)) dz mz sz [vR 0] h (fun r h1 => r = .inr "java/lang/IllegalStateException" ∧ Q h1)) : Ct g yL_undo (.codeWith yL_undo cL_undo 3 (some .int) [(0, 8, 11, 50), (0, 8, 14, 15), (0, 8, 17, 17)]) (dz + 1) mz sz [vR 0, vR 300] h (fun r h1 => r = .inl (some (vI 3)) ∧ Q h1) := by
  refine Ct.ofW (by decide) (Nat.le_of_ble_eq_true rfl) (fun x hg C F => ?_)
  subst hg
  show T x 0 [(0, vR 0), (1, vR 300)] [] h 0 0
  refine st_aload_n C 1 dL_undo_0 rfl rfl ?_
  refine st_iconst C dL_undo_1 (by decide) ?_
  refine st_aload_n C 0 dL_undo_2 rfl rfl ?_
  refine st_callV (st := [vI 0, vR 300]) C dL_undo_3 [] hc h0 w_L_62 rfl (Nat.le_refl _) (by decide) (by omega) (by omega) (Nat.le_of_ble_eq_true rfl) (ko_gx (fun h1 hq9 => ?_))
  refine st_catch (nm := "java/lang/IllegalStateException") (j := 2) (len := 1) C [(0, 8, 11, 50), (0, 8, 14, 15)] [] (0, 8, 17, 17) rfl (List.forall_mem_cons.mpr ⟨Or.inr ⟨by decide, "java/util/NoSuchElementException", cl_L_50, by decide⟩, (List.forall_mem_cons.mpr ⟨Or.inr ⟨by decide, "java/lang/UnsupportedOperationException", cl_L_15, by decide⟩, (fun z hz => nomatch hz)⟩)⟩) ⟨_, rfl, by decide, by decide, rfl, cl_L_17⟩ ca_ISE (by decide) (Or.inr ⟨_, dL_undo_17, rfl, rfl⟩) [(0, vR 0)] rfl ?_
  show T x 18 [(0, vR 0)] [] _ _ _
  refine st_iconst C dL_undo_18 (by decide) ?_
  exact st_ireturn C F dL_undo_19 rfl ⟨rfl, hq9⟩ (by omega) (by omega)
set_option maxRecDepth 20000 in
set_option maxHeartbeats 4000000 in
theorem w_value_ok {g : Gx} {h : HP} {Q : HP → Prop} {dz mz sz : Nat} {fs : List PV} {p0 p1 : Int} {v : Int} {fo : Int → Int} (h0 : h 0 = some (oO 9 fs)) (hc : Ct g yX10_value (.code yX10_value cX10_value 3 (some .int)) dz mz sz [vR 0, vI p0, vI p1] h (fun r h1 => r = .inl (some (vI v)) ∧ Q h1)) (hq : ∀ h1, Q h1 → h1 300 = some (oJ 1 fo)) : Ct g yL_value (.codeWith yL_value cL_value 5 (some .int) [(0, 10, 13, 13)]) (dz + 1) mz sz [vR 0, vI p0, vI p1, vR 300] h (fun r h1 => r = .inl (some (vI 0)) ∧ ∃ h2, Q h2 ∧ h1 = hput h2 300 (oJ 1 (fput fo 0 v))) := by
  refine Ct.ofW (by decide) (Nat.le_of_ble_eq_true rfl) (fun x hg C F => ?_)
  subst hg
  show T x 0 [(0, vR 0), (1, vI p0), (2, vI p1), (3, vR 300)] [] h 0 0
  refine st_aload_n C 3 dL_value_0 rfl rfl ?_
  refine st_iconst C dL_value_1 (by decide) ?_
  refine st_aload_n C 0 dL_value_2 rfl rfl ?_
  refine st_iload_n C 1 dL_value_3 rfl rfl ?_
  refine st_iload_n C 2 dL_value_4 rfl rfl ?_
  refine st_callV (st := [vI 0, vR 300]) C dL_value_5 [vI p0, vI p1] hc h0 w_L_65 rfl (Nat.le_refl _) (by decide) (by omega) (by omega) (Nat.le_of_ble_eq_true rfl) (ko_ge (fun h1 hq9 => ?_))
  show T x 8 [(0, vR 0), (1, vI p0), (2, vI p1), (3, vR 300)] [vI v, vI 0, vR 300] _ _ _
  refine st_i2l C dL_value_8 ?_
  refine st_last C dL_value_9 (hq h1 hq9) (by omega) (by omega) ?_
  refine st_goto (tgt := 17) C dL_value_10 (by decide) ?_
  refine st_iconst C dL_value_17 (by decide) ?_
  exact st_ireturn C F dL_value_18 rfl ⟨rfl, h1, hq9, rfl⟩ (by omega) (by omega)
set_option maxRecDepth 20000 in
set_option maxHeartbeats 4000000 in
theorem w_value_x1 {g : Gx} {h : HP} {Q : HP → Prop} {dz mz sz : Nat} {fs : List PV} {p0 p1 : Int} (h0 : h 0 = some (oO 9 fs)) (hc : Ct g yX10_value (.code yX10_value cX10_value 3 (some .int)) dz mz sz [vR 0, vI p0, vI p1] h (fun r h1 => r = .inr "java/lang/IllegalArgumentException" ∧ Q h1)) : Ct g yL_value (.codeWith yL_value cL_value 5 (some .int) [(0, 10, 13, 13)]) (dz + 1) mz sz [vR 0, vI p0, vI p1, vR 300] h (fun r h1 => r = .inl (some (vI 1)) ∧ Q h1) := by
  refine Ct.ofW (by decide) (Nat.le_of_ble_eq_true rfl) (fun x hg C F => ?_)
  subst hg
  show T x 0 [(0, vR 0), (1, vI p0), (2, vI p1), (3, vR 300)] [] h 0 0
  refine st_aload_n C 3 dL_value_0 rfl rfl ?_
  refine st_iconst C dL_value_1 (by decide) ?_
  refine st_aload_n C 0 dL_value_2 rfl rfl ?_
  refine st_iload_n C 1 dL_value_3 rfl rfl ?_
  refine st_iload_n C 2 dL_value_4 rfl rfl ?_
  refine st_callV (st := [vI 0, vR 300]) C dL_value_5 [vI p0, vI p1] hc h0 w_L_65 rfl (Nat.le_refl _) (by decide) (by omega) (by omega) (Nat.le_of_ble_eq_true rfl) (ko_gx (fun h1 hq9 => ?_))
  refine st_catch (nm := "java/lang/IllegalArgumentException") (j := 4) (len := 2) C [] [] (0, 10, 13, 13) rfl (fun z hz => nomatch hz) ⟨_, rfl, by decide, by decide, rfl, cl_L_13⟩ ca_IAE (by decide) (Or.inl ⟨dL_value_13, rfl⟩) [(0, vR 0), (1, vI p0), (2, vI p1)] rfl ?_
  show T x 15 [(0, vR 0), (1, vI p0), (2, vI p1)] [] _ _ _
  refine st_iconst C dL_value_15 (by decide) ?_
  exact st_ireturn C F dL_value_16 rfl ⟨rfl, hq9⟩ (by omega) (by omega)
set_option maxRecDepth 20000 in
set_option maxHeartbeats 4000000 in
theorem w_walk_ok {g : Gx} {h : HP} {Q : HP → Prop} {dz mz sz : Nat} {fs : List PV} {p0 p1 : Int} {v : Int} {fo : Int → Int} (h0 : h 0 = some (oO 9 fs)) (hc : Ct g yX10_walk (.code yX10_walk cX10_walk 3 (some .int)) dz mz sz [vR 0, vI p0, vI p1] h (fun r h1 => r = .inl (some (vI v)) ∧ Q h1)) (hq : ∀ h1, Q h1 → h1 300 = some (oJ 1 fo)) : Ct g yL_walk (.codeWith yL_walk cL_walk 5 (some .int) [(0, 10, 13, 13)]) (dz + 1) mz sz [vR 0, vI p0, vI p1, vR 300] h (fun r h1 => r = .inl (some (vI 0)) ∧ ∃ h2, Q h2 ∧ h1 = hput h2 300 (oJ 1 (fput fo 0 v))) := by
  refine Ct.ofW (by decide) (Nat.le_of_ble_eq_true rfl) (fun x hg C F => ?_)
  subst hg
  show T x 0 [(0, vR 0), (1, vI p0), (2, vI p1), (3, vR 300)] [] h 0 0
  refine st_aload_n C 3 dL_walk_0 rfl rfl ?_
  refine st_iconst C dL_walk_1 (by decide) ?_
  refine st_aload_n C 0 dL_walk_2 rfl rfl ?_
  refine st_iload_n C 1 dL_walk_3 rfl rfl ?_
  refine st_iload_n C 2 dL_walk_4 rfl rfl ?_
  refine st_callV (st := [vI 0, vR 300]) C dL_walk_5 [vI p0, vI p1] hc h0 w_L_95 rfl (Nat.le_refl _) (by decide) (by omega) (by omega) (Nat.le_of_ble_eq_true rfl) (ko_ge (fun h1 hq9 => ?_))
  show T x 8 [(0, vR 0), (1, vI p0), (2, vI p1), (3, vR 300)] [vI v, vI 0, vR 300] _ _ _
  refine st_i2l C dL_walk_8 ?_
  refine st_last C dL_walk_9 (hq h1 hq9) (by omega) (by omega) ?_
  refine st_goto (tgt := 17) C dL_walk_10 (by decide) ?_
  refine st_iconst C dL_walk_17 (by decide) ?_
  exact st_ireturn C F dL_walk_18 rfl ⟨rfl, h1, hq9, rfl⟩ (by omega) (by omega)
set_option maxRecDepth 20000 in
set_option maxHeartbeats 4000000 in
theorem w_walk_x1 {g : Gx} {h : HP} {Q : HP → Prop} {dz mz sz : Nat} {fs : List PV} {p0 p1 : Int} (h0 : h 0 = some (oO 9 fs)) (hc : Ct g yX10_walk (.code yX10_walk cX10_walk 3 (some .int)) dz mz sz [vR 0, vI p0, vI p1] h (fun r h1 => r = .inr "java/lang/IllegalArgumentException" ∧ Q h1)) : Ct g yL_walk (.codeWith yL_walk cL_walk 5 (some .int) [(0, 10, 13, 13)]) (dz + 1) mz sz [vR 0, vI p0, vI p1, vR 300] h (fun r h1 => r = .inl (some (vI 1)) ∧ Q h1) := by
  refine Ct.ofW (by decide) (Nat.le_of_ble_eq_true rfl) (fun x hg C F => ?_)
  subst hg
  show T x 0 [(0, vR 0), (1, vI p0), (2, vI p1), (3, vR 300)] [] h 0 0
  refine st_aload_n C 3 dL_walk_0 rfl rfl ?_
  refine st_iconst C dL_walk_1 (by decide) ?_
  refine st_aload_n C 0 dL_walk_2 rfl rfl ?_
  refine st_iload_n C 1 dL_walk_3 rfl rfl ?_
  refine st_iload_n C 2 dL_walk_4 rfl rfl ?_
  refine st_callV (st := [vI 0, vR 300]) C dL_walk_5 [vI p0, vI p1] hc h0 w_L_95 rfl (Nat.le_refl _) (by decide) (by omega) (by omega) (Nat.le_of_ble_eq_true rfl) (ko_gx (fun h1 hq9 => ?_))
  refine st_catch (nm := "java/lang/IllegalArgumentException") (j := 4) (len := 2) C [] [] (0, 10, 13, 13) rfl (fun z hz => nomatch hz) ⟨_, rfl, by decide, by decide, rfl, cl_L_13⟩ ca_IAE (by decide) (Or.inl ⟨dL_walk_13, rfl⟩) [(0, vR 0), (1, vI p0), (2, vI p1)] rfl ?_
  show T x 15 [(0, vR 0), (1, vI p0), (2, vI p1)] [] _ _ _
  refine st_iconst C dL_walk_15 (by decide) ?_
  exact st_ireturn C F dL_walk_16 rfl ⟨rfl, hq9⟩ (by omega) (by omega)
