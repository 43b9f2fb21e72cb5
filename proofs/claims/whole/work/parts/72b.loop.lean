/-! the law's loop over its script -/
theorem JW.mono {N N2 k : Int} {h : HP} (hJ : JW N k h) (h1 : N ≤ N2) (h2 : N2 ≤ 1000) : JW N2 k h := by
  obtain ⟨nw, rc, dc, mcn, mk, bg, la, ly, ar, mwl, mwa, mwp, mf, mm, c1, c2, c3, c4, c5, c6, c7, c8, c9, c10, c11, c12, -⟩ := hJ
  exact ⟨nw, rc, dc, mcn, mk, bg, la, ly, ar, mwl, mwa, mwp, mf, mm, c1, c2, c3, c4, c5, c6, c7, c8, c9, c10, c11, Int.le_trans c12 h1, h2⟩
abbrev lsL (i : Int) : List (Nat × PV) := [(1, vR 0), (2, vR 200), (3, vR 300), (4, vR 301), (5, vI i)]
section LL
variable {x : Cx} {bL : Nat} {nm ds : String} {ret : Option FieldType} {tb : List (Nat × Nat × Nat × Nat)} {h : HP} {cl sl : Nat}
theorem law_head (C : Fr x ⟨RL, nm, ds⟩ cL_law 9 ret tb 10 603072 7190634) {L : Nat} {xs : Nat → Int32} (hX : Scr x bL L xs) (hL : L ≤ 3584) {i : Int} (hi : 0 ≤ i ∧ i ≤ 10000) (kt : (L : Int) - 7 < i → TL x bL 2438 (lsL i) [] h cl sl) (kf : i ≤ (L : Int) - 7 → TL x bL 38 (lsL i) [] h cl sl) : TL x bL 28 (lsL i) [] h cl sl := by
  refine tl_iload C dL_law_28 (a := i) rfl ?_
  refine tl_slen C hX dL_law_30 dL_law_31 ?_
  refine tl_bipush C dL_law_32 (by decide) (by decide) ?_
  refine tl_isub C dL_law_34 ⟨by omega, by omega⟩ ?_
  exact tl_icmp_gt C dL_law_35 (tgt := 2438) (by decide) kt kf
set_option maxHeartbeats 4000000 in
theorem law_body (C : Fr x ⟨RL, nm, ds⟩ cL_law 9 ret tb 10 603072 7190634) {L : Nat} {xs : Nat → Int32} (hX : Scr x bL L xs) (hL : L ≤ 3584) {i : Int} (hi : 0 ≤ i) (hiL : i ≤ (L : Int) - 7) {N k0 : Int} (hJ : JW N k0 h) (hN1 : N ≤ 999) (hcl : cl + 5 ≤ 603072) (hsl : sl + 330 ≤ 7190634) (kk : ∀ (h2 : HP) (k2 : Int), JW (N + 1) k2 h2 → TL x bL 28 (lsL (i + 7)) [] h2 (cl + 5) (sl + 330)) : TL x bL 38 (lsL i) [] h cl sl := by
  have hi1 : 0 ≤ i ∧ i ≤ 10000 := ⟨hi, by omega⟩
  have hiL1 : i + 7 ≤ (L : Int) := by omega
  have k2 : ∀ (h2 : HP) (k2 : Int), JW (N + 1) k2 h2 → TL x bL 2432 [(1, vR 0), (2, vR 200), (3, vR 300), (4, vR 301), (5, vI i)] [] h2 (cl + 5) (sl + 330) := fun h2 k2 hJ2 => by
    refine tl_iinc C dL_law_2432 (a := i) rfl (by decide) (by decide) rfl ⟨by omega, by omega⟩ ?_
    show TL x bL 2435 (lsL (i + 7)) [] h2 (cl + 5) (sl + 330)
    exact tl_goto C dL_law_2435 (tgt := 28) (by decide) (kk h2 k2 hJ2)
  refine tl_scr0 C hX (i := i) rfl hi1 (by omega) dL_law_38 dL_law_39 dL_law_41 ?_
  refine tl_bipush C dL_law_42 (by decide) (by decide) ?_
  refine tl_iand C dL_law_44 ?_
  generalize (Int32.ofInt (sx xs i) &&& Int32.ofInt 63).toInt = c
  show TL x bL 45 (lsL i) [vI c] h cl sl
  by_cases hc : 0 ≤ c ∧ c ≤ 34
  · rcases (show c = 0 ∨ c = 1 ∨ c = 2 ∨ c = 3 ∨ c = 4 ∨ c = 5 ∨ c = 6 ∨ c = 7 ∨ c = 8 ∨ c = 9 ∨ c = 10 ∨ c = 11 ∨ c = 12 ∨ c = 13 ∨ c = 14 ∨ c = 15 ∨ c = 16 ∨ c = 17 ∨ c = 18 ∨ c = 19 ∨ c = 20 ∨ c = 21 ∨ c = 22 ∨ c = 23 ∨ c = 24 ∨ c = 25 ∨ c = 26 ∨ c = 27 ∨ c = 28 ∨ c = 29 ∨ c = 30 ∨ c = 31 ∨ c = 32 ∨ c = 33 ∨ c = 34 by omega) with rfl | rfl | rfl | rfl | rfl | rfl | rfl | rfl | rfl | rfl | rfl | rfl | rfl | rfl | rfl | rfl | rfl | rfl | rfl | rfl | rfl | rfl | rfl | rfl | rfl | rfl | rfl | rfl | rfl | rfl | rfl | rfl | rfl | rfl | rfl
    · exact tl_tabI C dL_law_45 (off := 155) (tgt := 200) (by decide) (by decide) (by decide) (by decide) (lc_0 C hX hi1 hiL1 hJ hN1 hcl hsl k2)
    · exact tl_tabI C dL_law_45 (off := 237) (tgt := 282) (by decide) (by decide) (by decide) (by decide) (lc_1 C hX hi1 hiL1 hJ hN1 hcl hsl k2)
    · exact tl_tabI C dL_law_45 (off := 281) (tgt := 326) (by decide) (by decide) (by decide) (by decide) (lc_2 C hX hi1 hiL1 hJ hN1 hcl hsl k2)
    · exact tl_tabI C dL_law_45 (off := 337) (tgt := 382) (by decide) (by decide) (by decide) (by decide) (lc_3 C hX hi1 hiL1 hJ hN1 hcl hsl k2)
    · exact tl_tabI C dL_law_45 (off := 441) (tgt := 486) (by decide) (by decide) (by decide) (by decide) (lc_4 C hX hi1 hiL1 hJ hN1 hcl hsl k2)
    · exact tl_tabI C dL_law_45 (off := 577) (tgt := 622) (by decide) (by decide) (by decide) (by decide) (lc_5 C hX hi1 hiL1 hJ hN1 hcl hsl k2)
    · exact tl_tabI C dL_law_45 (off := 645) (tgt := 690) (by decide) (by decide) (by decide) (by decide) (lc_6 C hX hi1 hiL1 hJ hN1 hcl hsl k2)
    · exact tl_tabI C dL_law_45 (off := 701) (tgt := 746) (by decide) (by decide) (by decide) (by decide) (lc_7 C hX hi1 hiL1 hJ hN1 hcl hsl k2)
    · exact tl_tabI C dL_law_45 (off := 757) (tgt := 802) (by decide) (by decide) (by decide) (by decide) (lc_8 C hX hi1 hiL1 hJ hN1 hcl hsl k2)
    · exact tl_tabI C dL_law_45 (off := 825) (tgt := 870) (by decide) (by decide) (by decide) (by decide) (lc_9 C hX hi1 hiL1 hJ hN1 hcl hsl k2)
    · exact tl_tabI C dL_law_45 (off := 921) (tgt := 966) (by decide) (by decide) (by decide) (by decide) (lc_10 C hX hi1 hiL1 hJ hN1 hcl hsl k2)
    · exact tl_tabI C dL_law_45 (off := 977) (tgt := 1022) (by decide) (by decide) (by decide) (by decide) (lc_11 C hX hi1 hiL1 hJ hN1 hcl hsl k2)
    · exact tl_tabI C dL_law_45 (off := 1033) (tgt := 1078) (by decide) (by decide) (by decide) (by decide) (lc_12 C hX hi1 hiL1 hJ hN1 hcl hsl k2)
    · exact tl_tabI C dL_law_45 (off := 1077) (tgt := 1122) (by decide) (by decide) (by decide) (by decide) (lc_13 C hX hi1 hiL1 hJ hN1 hcl hsl k2)
    · exact tl_tabI C dL_law_45 (off := 1090) (tgt := 1135) (by decide) (by decide) (by decide) (by decide) (lc_14 C hX hi1 hiL1 hJ hN1 hcl hsl k2)
    · exact tl_tabI C dL_law_45 (off := 1158) (tgt := 1203) (by decide) (by decide) (by decide) (by decide) (lc_15 C hX hi1 hiL1 hJ hN1 hcl hsl k2)
    · exact tl_tabI C dL_law_45 (off := 1214) (tgt := 1259) (by decide) (by decide) (by decide) (by decide) (lc_16 C hX hi1 hiL1 hJ hN1 hcl hsl k2)
    · exact tl_tabI C dL_law_45 (off := 1282) (tgt := 1327) (by decide) (by decide) (by decide) (by decide) (lc_17 C hX hi1 hiL1 hJ hN1 hcl hsl k2)
    · exact tl_tabI C dL_law_45 (off := 1362) (tgt := 1407) (by decide) (by decide) (by decide) (by decide) (lc_18 C hX hi1 hiL1 hJ hN1 hcl hsl k2)
    · exact tl_tabI C dL_law_45 (off := 1454) (tgt := 1499) (by decide) (by decide) (by decide) (by decide) (lc_19 C hX hi1 hiL1 hJ hN1 hcl hsl k2)
    · exact tl_tabI C dL_law_45 (off := 1553) (tgt := 1598) (by decide) (by decide) (by decide) (by decide) (lc_20 C hX hi1 hiL1 hJ hN1 hcl hsl k2)
    · exact tl_tabI C dL_law_45 (off := 1566) (tgt := 1611) (by decide) (by decide) (by decide) (by decide) (lc_21 C hX hi1 hiL1 hJ hN1 hcl hsl k2)
    · exact tl_tabI C dL_law_45 (off := 1622) (tgt := 1667) (by decide) (by decide) (by decide) (by decide) (lc_22 C hX hi1 hiL1 hJ hN1 hcl hsl k2)
    · exact tl_tabI C dL_law_45 (off := 1702) (tgt := 1747) (by decide) (by decide) (by decide) (by decide) (lc_23 C hX hi1 hiL1 hJ hN1 hcl hsl k2)
    · exact tl_tabI C dL_law_45 (off := 1770) (tgt := 1815) (by decide) (by decide) (by decide) (by decide) (lc_24 C hX hi1 hiL1 hJ hN1 hcl hsl k2)
    · exact tl_tabI C dL_law_45 (off := 1838) (tgt := 1883) (by decide) (by decide) (by decide) (by decide) (lc_25 C hX hi1 hiL1 hJ hN1 hcl hsl k2)
    · exact tl_tabI C dL_law_45 (off := 1851) (tgt := 1896) (by decide) (by decide) (by decide) (by decide) (lc_26 C hX hi1 hiL1 hJ hN1 hcl hsl k2)
    · exact tl_tabI C dL_law_45 (off := 1895) (tgt := 1940) (by decide) (by decide) (by decide) (by decide) (lc_27 C hX hi1 hiL1 hJ hN1 hcl hsl k2)
    · exact tl_tabI C dL_law_45 (off := 1939) (tgt := 1984) (by decide) (by decide) (by decide) (by decide) (lc_28 C hX hi1 hiL1 hJ hN1 hcl hsl k2)
    · exact tl_tabI C dL_law_45 (off := 2057) (tgt := 2102) (by decide) (by decide) (by decide) (by decide) (lc_29 C hX hi1 hiL1 hJ hN1 hcl hsl k2)
    · exact tl_tabI C dL_law_45 (off := 2149) (tgt := 2194) (by decide) (by decide) (by decide) (by decide) (lc_30 C hX hi1 hiL1 hJ hN1 hcl hsl k2)
    · exact tl_tabI C dL_law_45 (off := 2205) (tgt := 2250) (by decide) (by decide) (by decide) (by decide) (lc_31 C hX hi1 hiL1 hJ hN1 hcl hsl k2)
    · exact tl_tabI C dL_law_45 (off := 2283) (tgt := 2328) (by decide) (by decide) (by decide) (by decide) (lc_32 C hX hi1 hiL1 hJ hN1 hcl hsl k2)
    · exact tl_tabI C dL_law_45 (off := 2360) (tgt := 2405) (by decide) (by decide) (by decide) (by decide) (lc_33 C hX hi1 hiL1 hJ hN1 hcl hsl k2)
    · exact tl_tabI C dL_law_45 (off := 2374) (tgt := 2419) (by decide) (by decide) (by decide) (by decide) (lc_34 C hX hi1 hiL1 hJ hN1 hcl hsl k2)
  · exact tl_tabO C dL_law_45 (by omega) (tgt := 2432) (by decide) (tl_wide (cl' := cl + 5) (sl' := sl + 330) (by omega) (by omega) (k2 h k0 (hJ.mono (by omega) (by omega))))
theorem law_loop (C : Fr x ⟨RL, nm, ds⟩ cL_law 9 ret tb 10 603072 7190634) {L : Nat} {xs : Nat → Int32} (hX : Scr x bL L xs) (hL : L ≤ 3584) (hend : ∀ (i : Int) (h : HP), TL x bL 2438 (lsL i) [] h 603072 7190634) : ∀ (n : Nat) {h : HP} {i N k0 : Int} {cl sl : Nat}, (L : Int) < i + 7 * (n : Int) → 0 ≤ N ∧ N ≤ 512 → i = 7 * N → JW N k0 h → cl + 5 * n ≤ 603072 → sl + 330 * n ≤ 7190634 → TL x bL 28 (lsL i) [] h cl sl := by
  intro n
  induction n with
  | zero =>
    intro h i N k0 cl sl h1 h2 h3 hJ h5 h6
    exact law_head C hX hL ⟨by omega, by omega⟩ (fun _ => tl_wide (by omega) (by omega) (hend i h)) (fun q => absurd q (by omega))
  | succ n ih =>
    intro h i N k0 cl sl h1 h2 h3 hJ h5 h6
    have a1 : cl ≤ 603072 := Nat.le_trans (Nat.le_add_right _ _) h5
    have a2 : sl ≤ 7190634 := Nat.le_trans (Nat.le_add_right _ _) h6
    have b1 : cl + 5 + 5 * n ≤ 603072 := by rw [Nat.mul_succ] at h5; rw [Nat.add_assoc, Nat.add_comm 5]; exact h5
    have b2 : sl + 330 + 330 * n ≤ 7190634 := by rw [Nat.mul_succ] at h6; rw [Nat.add_assoc, Nat.add_comm 330]; exact h6
    have c1 : cl + 5 ≤ 603072 := Nat.le_trans (Nat.le_add_right _ _) b1
    have c2 : sl + 330 ≤ 7190634 := Nat.le_trans (Nat.le_add_right _ _) b2
    clear h5 h6
    refine law_head C hX hL ⟨by omega, by omega⟩ (fun _ => tl_wide a1 a2 (hend i h)) (fun q => ?_)
    have d1 : N + 1 ≤ 512 := by omega
    refine law_body C hX hL (by omega) q hJ (by omega) c1 c2 (fun h2 k2 hJ2 => ?_)
    exact ih (i := i + 7) (N := N + 1) (k0 := k2) (by omega) ⟨by omega, d1⟩ (by omega) hJ2 b1 b2
end LL
