/-! the heap at the start -/
theorem iniH_o {h : HP} {j : Nat} (hj : 17 ≤ j ∧ j < 20 ∨ 40 ≤ j) : iniH h j = h j := by
  unfold iniH
  repeat refine hput_o (by omega) ?_
  rfl
theorem iniM0_o {h : HP} {j : Nat} (hj : j < 200 ∨ 219 ≤ j) : iniM0 h j = h j := by
  unfold iniM0
  repeat refine hput_o (by omega) ?_
  rfl
theorem ih_0 {h : HP} : iniH h 0 = some (oO 9 [vR 1, vR 2, vR 3, vI 0, vR 4, vR 5, vI 0, vR 6, vR 7, vR 8, vR 9, vR 10]) := by
  unfold iniH
  repeat first | exact hput_s | refine hput_o (by decide) ?_
theorem ih_1 {h : HP} : iniH h 1 = some (oI 304 (fun _ => 0)) := by
  unfold iniH
  repeat first | exact hput_s | refine hput_o (by decide) ?_
theorem ih_2 {h : HP} : iniH h 2 = some (oI 304 (fun _ => 0)) := by
  unfold iniH
  repeat first | exact hput_s | refine hput_o (by decide) ?_
theorem ih_3 {h : HP} : iniH h 3 = some (oA 4 6 (fun _ => none)) := by
  unfold iniH
  repeat first | exact hput_s | refine hput_o (by decide) ?_
theorem ih_4 {h : HP} : iniH h 4 = some (oA 5 4 (fput (fput (fput (fput (fun _ => none) 0 (some 20)) 1 (some 25)) 2 (some 30)) 3 (some 35))) := by
  unfold iniH
  repeat first | exact hput_s | refine hput_o (by decide) ?_
theorem ih_5 {h : HP} : iniH h 5 = some (oA 6 3 (fun _ => none)) := by
  unfold iniH
  repeat first | exact hput_s | refine hput_o (by decide) ?_
theorem ih_6 {h : HP} : iniH h 6 = some (oO 2 [vI 0, vR 11, vR 12, vI 0]) := by
  unfold iniH
  repeat first | exact hput_s | refine hput_o (by decide) ?_
theorem ih_7 {h : HP} : iniH h 7 = some (oO 7 [vI 0, vR 13]) := by
  unfold iniH
  repeat first | exact hput_s | refine hput_o (by decide) ?_
theorem ih_8 {h : HP} : iniH h 8 = some (oO 8 [vI 0, vI (-1), vI 0, vI 0]) := by
  unfold iniH
  repeat first | exact hput_s | refine hput_o (by decide) ?_
theorem ih_9 {h : HP} : iniH h 9 = some (oO 5 [vR 14, vR 15]) := by
  unfold iniH
  repeat first | exact hput_s | refine hput_o (by decide) ?_
theorem ih_10 {h : HP} : iniH h 10 = some (oO 3 [vR 16]) := by
  unfold iniH
  repeat first | exact hput_s | refine hput_o (by decide) ?_
theorem ih_11 {h : HP} : iniH h 11 = some (oA 7 41 (fun _ => none)) := by
  unfold iniH
  repeat first | exact hput_s | refine hput_o (by decide) ?_
theorem ih_12 {h : HP} : iniH h 12 = some (oI 40 (fun _ => 0)) := by
  unfold iniH
  repeat first | exact hput_s | refine hput_o (by decide) ?_
theorem ih_13 {h : HP} : iniH h 13 = some (oI 255 (fmix (fun _ => (-1)) (fun _ => 0) 255)) := by
  unfold iniH
  repeat first | exact hput_s | refine hput_o (by decide) ?_
theorem ih_14 {h : HP} : iniH h 14 = some (oI 64 (fun _ => 0)) := by
  unfold iniH
  repeat first | exact hput_s | refine hput_o (by decide) ?_
theorem ih_15 {h : HP} : iniH h 15 = some (oI 64 (fun _ => 0)) := by
  unfold iniH
  repeat first | exact hput_s | refine hput_o (by decide) ?_
theorem ih_16 {h : HP} : iniH h 16 = some (oI 64 (fun _ => 0)) := by
  unfold iniH
  repeat first | exact hput_s | refine hput_o (by decide) ?_
theorem ih_20 {h : HP} : iniH h 20 = some (oO 0 [vI 0, vR (20 + 1), vR (20 + 2), vR (20 + 3), vR (20 + 4)]) := by
  unfold iniH
  repeat first | exact hput_s | refine hput_o (by decide) ?_
theorem ih_21 {h : HP} : iniH h 21 = some (oI 304 (fun _ => 0)) := by
  unfold iniH
  repeat first | exact hput_s | refine hput_o (by decide) ?_
theorem ih_22 {h : HP} : iniH h 22 = some (oI 304 (fun _ => 0)) := by
  unfold iniH
  repeat first | exact hput_s | refine hput_o (by decide) ?_
theorem ih_23 {h : HP} : iniH h 23 = some (oI 304 (fun _ => 0)) := by
  unfold iniH
  repeat first | exact hput_s | refine hput_o (by decide) ?_
theorem ih_24 {h : HP} : iniH h 24 = some (oI 304 (fun _ => 0)) := by
  unfold iniH
  repeat first | exact hput_s | refine hput_o (by decide) ?_
theorem ih_25 {h : HP} : iniH h 25 = some (oO 0 [vI 0, vR (25 + 1), vR (25 + 2), vR (25 + 3), vR (25 + 4)]) := by
  unfold iniH
  repeat first | exact hput_s | refine hput_o (by decide) ?_
theorem ih_26 {h : HP} : iniH h 26 = some (oI 304 (fun _ => 0)) := by
  unfold iniH
  repeat first | exact hput_s | refine hput_o (by decide) ?_
theorem ih_27 {h : HP} : iniH h 27 = some (oI 304 (fun _ => 0)) := by
  unfold iniH
  repeat first | exact hput_s | refine hput_o (by decide) ?_
theorem ih_28 {h : HP} : iniH h 28 = some (oI 304 (fun _ => 0)) := by
  unfold iniH
  repeat first | exact hput_s | refine hput_o (by decide) ?_
theorem ih_29 {h : HP} : iniH h 29 = some (oI 304 (fun _ => 0)) := by
  unfold iniH
  repeat first | exact hput_s | refine hput_o (by decide) ?_
theorem ih_30 {h : HP} : iniH h 30 = some (oO 0 [vI 0, vR (30 + 1), vR (30 + 2), vR (30 + 3), vR (30 + 4)]) := by
  unfold iniH
  repeat first | exact hput_s | refine hput_o (by decide) ?_
theorem ih_31 {h : HP} : iniH h 31 = some (oI 304 (fun _ => 0)) := by
  unfold iniH
  repeat first | exact hput_s | refine hput_o (by decide) ?_
theorem ih_32 {h : HP} : iniH h 32 = some (oI 304 (fun _ => 0)) := by
  unfold iniH
  repeat first | exact hput_s | refine hput_o (by decide) ?_
theorem ih_33 {h : HP} : iniH h 33 = some (oI 304 (fun _ => 0)) := by
  unfold iniH
  repeat first | exact hput_s | refine hput_o (by decide) ?_
theorem ih_34 {h : HP} : iniH h 34 = some (oI 304 (fun _ => 0)) := by
  unfold iniH
  repeat first | exact hput_s | refine hput_o (by decide) ?_
theorem ih_35 {h : HP} : iniH h 35 = some (oO 0 [vI 0, vR (35 + 1), vR (35 + 2), vR (35 + 3), vR (35 + 4)]) := by
  unfold iniH
  repeat first | exact hput_s | refine hput_o (by decide) ?_
theorem ih_36 {h : HP} : iniH h 36 = some (oI 304 (fun _ => 0)) := by
  unfold iniH
  repeat first | exact hput_s | refine hput_o (by decide) ?_
theorem ih_37 {h : HP} : iniH h 37 = some (oI 304 (fun _ => 0)) := by
  unfold iniH
  repeat first | exact hput_s | refine hput_o (by decide) ?_
theorem ih_38 {h : HP} : iniH h 38 = some (oI 304 (fun _ => 0)) := by
  unfold iniH
  repeat first | exact hput_s | refine hput_o (by decide) ?_
theorem ih_39 {h : HP} : iniH h 39 = some (oI 304 (fun _ => 0)) := by
  unfold iniH
  repeat first | exact hput_s | refine hput_o (by decide) ?_
theorem im_200 {h : HP} : iniM0 h 200 = some (oO 10 [vR 201, vR 202, vR 203, vR 204, vR 205, vR 206, vR 207, vR 208, vR 209, vR 210, vR 211, vR 212, vR 213, vR 214, vR 215, vR 216, vR 217, vR 218, vI 0, vI 0, vI 0, vI 0, vI 0, vI (-1), vI 0, vI 0, vI 0]) := by
  unfold iniM0
  repeat first | exact hput_s | refine hput_o (by decide) ?_
theorem im_201 {h : HP} : iniM0 h 201 = some (oI 12464 (fun _ => 0)) := by
  unfold iniM0
  repeat first | exact hput_s | refine hput_o (by decide) ?_
theorem im_202 {h : HP} : iniM0 h 202 = some (oI 304 (fun _ => 0)) := by
  unfold iniM0
  repeat first | exact hput_s | refine hput_o (by decide) ?_
theorem im_203 {h : HP} : iniM0 h 203 = some (oI 6 (fun _ => 0)) := by
  unfold iniM0
  repeat first | exact hput_s | refine hput_o (by decide) ?_
theorem im_204 {h : HP} : iniM0 h 204 = some (oI 6 (fun _ => 0)) := by
  unfold iniM0
  repeat first | exact hput_s | refine hput_o (by decide) ?_
theorem im_205 {h : HP} : iniM0 h 205 = some (oI 6 (fun _ => 0)) := by
  unfold iniM0
  repeat first | exact hput_s | refine hput_o (by decide) ?_
theorem im_206 {h : HP} : iniM0 h 206 = some (oZ 4 (fun _ => 0)) := by
  unfold iniM0
  repeat first | exact hput_s | refine hput_o (by decide) ?_
theorem im_207 {h : HP} : iniM0 h 207 = some (oI 1216 (fun _ => 0)) := by
  unfold iniM0
  repeat first | exact hput_s | refine hput_o (by decide) ?_
theorem im_208 {h : HP} : iniM0 h 208 = some (oI 1216 (fun _ => 0)) := by
  unfold iniM0
  repeat first | exact hput_s | refine hput_o (by decide) ?_
theorem im_209 {h : HP} : iniM0 h 209 = some (oI 1216 (fun _ => 0)) := by
  unfold iniM0
  repeat first | exact hput_s | refine hput_o (by decide) ?_
theorem im_210 {h : HP} : iniM0 h 210 = some (oI 1216 (fun _ => 0)) := by
  unfold iniM0
  repeat first | exact hput_s | refine hput_o (by decide) ?_
theorem im_211 {h : HP} : iniM0 h 211 = some (oI 41 (fun _ => 0)) := by
  unfold iniM0
  repeat first | exact hput_s | refine hput_o (by decide) ?_
theorem im_213 {h : HP} : iniM0 h 213 = some (oI 180 (fun _ => 0)) := by
  unfold iniM0
  repeat first | exact hput_s | refine hput_o (by decide) ?_
theorem im_214 {h : HP} : iniM0 h 214 = some (oI 3 (fun _ => 0)) := by
  unfold iniM0
  repeat first | exact hput_s | refine hput_o (by decide) ?_
theorem im_215 {h : HP} : iniM0 h 215 = some (oI 3 (fun _ => 0)) := by
  unfold iniM0
  repeat first | exact hput_s | refine hput_o (by decide) ?_
theorem im_216 {h : HP} : iniM0 h 216 = some (oZ 64 (fun _ => 0)) := by
  unfold iniM0
  repeat first | exact hput_s | refine hput_o (by decide) ?_
theorem im_217 {h : HP} : iniM0 h 217 = some (oI 64 (fun _ => 0)) := by
  unfold iniM0
  repeat first | exact hput_s | refine hput_o (by decide) ?_
theorem im_218 {h : HP} : iniM0 h 218 = some (oI 10 (fun _ => 0)) := by
  unfold iniM0
  repeat first | exact hput_s | refine hput_o (by decide) ?_
def h1S : HP := hput (fun _ => none) 0 (oO 9 [vN, vN, vN, vI 0, vN, vN, vI 0, vN, vN, vN, vN, vN])
def h2S : HP := hput (iniH h1S) 200 (oO 10 [vN, vN, vN, vN, vN, vN, vN, vN, vN, vN, vN, vN, vN, vN, vN, vN, vN, vN, vI 0, vI 0, vI 0, vI 0, vI 0, vI 0, vI 0, vI 0, vI 0])
def h3S : HP := hput (iniM0 h2S) 212 (oI 768 (fmix (fun _ => -1) (fun _ => 0) 768))
def h4S : HP := hput (hput h3S 300 (oJ 1 (fun _ => 0))) 301 (oD 1 (fun _ => 0))
theorem h1S_n {j : Nat} (hj : 0 < j) : h1S j = none := hput_o (by omega) rfl
theorem h2S_n {j : Nat} (hj : 200 < j) : h2S j = none := by
  unfold h2S
  exact hput_o (by omega) ((iniH_o (by omega)).trans (h1S_n (by omega)))
theorem h2S_f : ∀ j, 200 < j → j < 219 → h2S j = none := fun j h1 _ => h2S_n h1
theorem h3S_n {j : Nat} (hj : 219 ≤ j) : h3S j = none := by
  unfold h3S
  exact hput_o (by omega) ((iniM0_o (by omega)).trans (h2S_n (by omega)))
theorem h4S_a {j : Nat} {e : Option PE} (hj : j < 17 ∨ 20 ≤ j ∧ j < 40) (q : iniH h1S j = e) : h4S j = e := by
  unfold h4S h3S
  refine hput_o (by omega) (hput_o (by omega) (hput_o (by omega) ((iniM0_o (by omega)).trans ?_)))
  unfold h2S
  exact hput_o (by omega) q
theorem h4S_b {j : Nat} {e : Option PE} (hj : 200 ≤ j ∧ j < 219 ∧ j ≠ 212) (q : iniM0 h2S j = e) : h4S j = e := by
  unfold h4S h3S
  exact hput_o (by omega) (hput_o (by omega) (hput_o (by omega) q))
theorem h4S_c : h4S 212 = some (oI 768 (fmix (fun _ => -1) (fun _ => 0) 768)) := by
  unfold h4S h3S
  exact hput_o (by decide) (hput_o (by decide) hput_s)
theorem h4S_n {j : Nat} (hj : 17 ≤ j ∧ j < 20 ∨ 40 ≤ j ∧ j < 200) : h4S j = none := by
  unfold h4S h3S
  refine hput_o (by omega) (hput_o (by omega) (hput_o (by omega) ((iniM0_o (by omega)).trans ?_)))
  unfold h2S
  exact hput_o (by omega) ((iniH_o (by omega)).trans (h1S_n (by omega)))
theorem h4S_tl : TlR (fmix (fun _ => (-1)) (fun _ => 0) 255) (fmix (fun _ => -1) (fun _ => 0) 768) := by
  intro l l1 l2
  have key : ∀ fs n d : Int, 0 ≤ fs → (n = 8 ∧ fs = 0 ∧ d = 0 ∨ n = 4 ∧ fs = 64 ∧ d = 1 ∨ n = 2 ∧ fs = 80 ∧ d = 2 ∨ n = 1 ∧ fs = 84 ∧ d = 3) → TlS (fmix (fun _ => (-1)) (fun _ => 0) 255) (fmix (fun _ => -1) (fun _ => 0) 768) fs n d l := by
    intro fs n d _ hh x y x1 x2 y1 y2
    unfold slV fmix
    have e : 0 ≤ n * y ∧ n * y + x ≤ n * n - 1 := by
      rcases hh with ⟨rfl, -, -⟩ | ⟨rfl, -, -⟩ | ⟨rfl, -, -⟩ | ⟨rfl, -, -⟩ <;> omega
    have e2 : 0 ≤ 85 * l + fs + n * y + x ∧ 85 * l + fs + n * y + x < 255 := by
      rcases hh with ⟨rfl, rfl, rfl⟩ | ⟨rfl, rfl, rfl⟩ | ⟨rfl, rfl, rfl⟩ | ⟨rfl, rfl, rfl⟩ <;> omega
    have e3 : 0 ≤ 192 * d + 64 * l + 8 * y + x ∧ 192 * d + 64 * l + 8 * y + x < 768 := by
      rcases hh with ⟨rfl, rfl, rfl⟩ | ⟨rfl, rfl, rfl⟩ | ⟨rfl, rfl, rfl⟩ | ⟨rfl, rfl, rfl⟩ <;> omega
    rw [if_pos e2, if_pos e3]
    exact ⟨rfl, Int.le_refl (-1)⟩
  exact ⟨key 0 8 0 (by decide) (by decide), key 64 4 1 (by decide) (by decide), key 80 2 2 (by decide) (by decide), key 84 1 3 (by decide) (by decide)⟩
theorem h4S_ti {mf : Int → Int} : TilR (fmix (fun _ => (-1)) (fun _ => 0) 255) mf := by
  intro l l1 l2
  have key : ∀ fs n s : Int, (n = 8 ∧ fs = 0 ∨ n = 4 ∧ fs = 64 ∨ n = 2 ∧ fs = 80 ∨ n = 1 ∧ fs = 84) → TR (fmix (fun _ => (-1)) (fun _ => 0) 255) mf fs n s l := by
    intro fs n s hh x y x1 x2 y1 y2 q
    exfalso
    apply q
    unfold slV fmix
    have e2 : 0 ≤ 85 * l + fs + n * y + x ∧ 85 * l + fs + n * y + x < 255 := by
      rcases hh with ⟨rfl, rfl⟩ | ⟨rfl, rfl⟩ | ⟨rfl, rfl⟩ | ⟨rfl, rfl⟩ <;> omega
    exact if_pos e2
  exact ⟨key 0 8 1 (by decide), key 64 4 2 (by decide), key 80 2 4 (by decide), key 84 1 8 (by decide)⟩
theorem h4S_G3 : G3 h4S 0 (fun _ => 0) := ⟨fun _ => 0, fun _ => 0, fun _ => 0, fun _ => 0, fun _ => 0, fun _ => 0, fun _ => 0, ⟨fun _ => none, h4S_a (by decide) ih_3, fun i i1 i2 => absurd i2 (by omega)⟩, h4S_b (by decide) im_203, h4S_b (by decide) im_204, h4S_b (by decide) im_205, ⟨by decide, by decide⟩, fun i i1 i2 => absurd i2 (by omega)⟩
theorem h4S_G4 : G4 h4S := ⟨fun _ => 0, fun _ _ => 0, fun _ _ => 0, fun _ _ => 0, fun _ _ => 0, fun _ => 0, fun _ => 0, fun _ => 0, fun _ => 0, fun _ => 0, ⟨_, h4S_a (by decide) ih_4, fun i i1 i2 => by
  rcases (show i = 0 ∨ i = 1 ∨ i = 2 ∨ i = 3 by omega) with rfl | rfl | rfl | rfl
  · exact ⟨rfl, h4S_a (j := 20) (by decide) ih_20, h4S_a (j := 21) (by decide) ih_21, h4S_a (j := 22) (by decide) ih_22, h4S_a (j := 23) (by decide) ih_23, h4S_a (j := 24) (by decide) ih_24, Or.inl rfl⟩
  · exact ⟨rfl, h4S_a (j := 25) (by decide) ih_25, h4S_a (j := 26) (by decide) ih_26, h4S_a (j := 27) (by decide) ih_27, h4S_a (j := 28) (by decide) ih_28, h4S_a (j := 29) (by decide) ih_29, Or.inl rfl⟩
  · exact ⟨rfl, h4S_a (j := 30) (by decide) ih_30, h4S_a (j := 31) (by decide) ih_31, h4S_a (j := 32) (by decide) ih_32, h4S_a (j := 33) (by decide) ih_33, h4S_a (j := 34) (by decide) ih_34, Or.inl rfl⟩
  · exact ⟨rfl, h4S_a (j := 35) (by decide) ih_35, h4S_a (j := 36) (by decide) ih_36, h4S_a (j := 37) (by decide) ih_37, h4S_a (j := 38) (by decide) ih_38, h4S_a (j := 39) (by decide) ih_39, Or.inl rfl⟩⟩, h4S_b (by decide) im_206, h4S_b (by decide) im_207, h4S_b (by decide) im_208, h4S_b (by decide) im_209, h4S_b (by decide) im_210, fun i i1 i2 => ⟨Or.inl rfl, rfl, fun q => absurd (q : (0 : Int) = 1) (by decide : ¬ (0 : Int) = 1)⟩⟩
theorem h4S_G2 : G2 h4S 0 0 (fun _ => 0) := ⟨fun _ _ => 0, fun _ => 0, fun _ => none, fun _ => 0, ⟨⟨h4S_a (by decide) ih_6, h4S_a (by decide) ih_11, fun v v1 v2 => absurd v2 (by omega)⟩, h4S_a (by decide) ih_12, fun v v1 v2 => ⟨h4S_n (by unfold stN; omega), h4S_n (by unfold stN; omega)⟩⟩, h4S_b (by decide) im_211, ⟨by decide, by decide⟩, fun v s v1 v2 => absurd v2 (by omega), ⟨fun j j1 j2 => absurd j2 (by omega), fun s s1 s2 q => absurd q (by decide), fun j s j1 j2 => absurd j2 (by omega)⟩⟩
theorem h4S_G7 : G7 h4S 0 := ⟨fun _ => 0, fun _ => 0, fun _ _ => 0, fun _ _ => 0, fun _ _ => 0, fun _ => 0, fun _ => 0, fun _ => 0, ⟨⟨fun _ => none, h4S_a (by decide) ih_5, fun i i1 i2 => absurd i2 (by omega), fun i i1 i2 => rfl⟩, fun i i1 i2 => absurd i2 (by omega), fun i i1 i2 => ⟨h4S_n (by unfold dvN; omega), h4S_n (by unfold dvN; omega), h4S_n (by unfold dvN; omega), h4S_n (by unfold dvN; omega)⟩⟩, h4S_b (by decide) im_213, h4S_b (by decide) im_214, h4S_b (by decide) im_215, ⟨by decide, by decide⟩, fun d d1 d2 => absurd d2 (by omega), fun d d1 d2 => ⟨rfl, rfl⟩⟩
theorem h4S_J : JW 0 0 h4S := by
  refine ⟨0, 0, 0, 0, 0, 0, -1, 0, 0, -1, 0, 0, fun _ => 0, fun _ => 0, h4S_a (by decide) ih_0, h4S_b (by decide) im_200, ?_, h4S_G2, h4S_G3, h4S_G4, ?_, ?_, h4S_G7, ?_, ?_, by decide, by decide⟩
  · exact ⟨h4S_a (by decide) ih_1, h4S_b (by decide) im_201, ⟨by decide, by decide⟩, fun s s1 s2 => rfl, fun v v1 v2 => ⟨fun j j1 j2 => ⟨(by decide : (0 : Int) ≤ 0), (by decide : (0 : Int) ≤ 9)⟩, fun j j1 j2 => ⟨(by decide : (0 : Int) ≤ 0), (by decide : (0 : Int) ≤ 1)⟩⟩, fun s s1 s2 => rfl⟩
  · exact ⟨_, _, ⟨h4S_a (by decide) ih_7, h4S_a (by decide) ih_13⟩, h4S_c, by decide, h4S_tl, h4S_ti⟩
  · exact ⟨h4S_a (by decide) ih_8, Or.inl ⟨rfl, rfl⟩⟩
  · exact ⟨⟨_, h4S_a (by decide) ih_2⟩, ⟨h4S_a (by decide) ih_9, ⟨_, h4S_a (by decide) ih_14⟩, ⟨_, h4S_a (by decide) ih_15⟩⟩, ⟨h4S_a (by decide) ih_10, ⟨_, h4S_a (by decide) ih_16⟩⟩, ⟨_, h4S_b (by decide) im_202⟩, ⟨_, h4S_b (by decide) im_216⟩, ⟨_, h4S_b (by decide) im_217⟩, ⟨_, h4S_b (by decide) im_218⟩⟩
  · exact ⟨⟨fun _ => 0, hput_o (by decide) hput_s⟩, ⟨fun _ => 0, hput_s⟩⟩
