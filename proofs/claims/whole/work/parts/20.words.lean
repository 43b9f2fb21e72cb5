theorem tm {w : Cond} (i : Nat) (h : tables_1[i]? = some w) : w ∈ lw_tbl := List.mem_append_right _ (List.mem_of_getElem? h)
theorem tmp {w : Cond} (i : Nat) (h : (k2_sels lw_privs)[i]? = some w) : w ∈ lw_tbl := List.mem_append_left _ (List.mem_of_getElem? h)
theorem xw_all {l : List Cond} (h : l.all (fun w => decide (w ∈ tables_1) && gw w && vx_ot w) = true) : ∀ w ∈ l, w ∈ lw_tbl ∧ gw w = true ∧ vx_ot w = true := fun w hw => by
  have h1 := List.all_eq_true.mp h w hw
  simp only [Bool.and_eq_true, decide_eq_true_eq] at h1
  exact ⟨List.mem_append_right _ h1.1.1, h1.1.2, h1.2⟩
theorem dfl_i : (Value.int 0) = Value.int (Int32.ofInt 0) := by decide
def nwk : PV → Bool
  | .inl x => decide (inI x)
  | .inr (.inl none) => true
  | _ => false
theorem nw_ok (fs : List PV) (h : fs.all nwk = true) : ∀ v ∈ fs, okV (fun _ => none) v := fun v hv => by
  have h1 := List.all_eq_true.mp h v hv
  obtain z | (_ | z) | z | z | z := v
  · exact (of_decide_eq_true (p := inI z) h1)
  · exact fun _ q => nomatch q
  · cases h1
  · cases h1
  · cases h1
  · cases h1
theorem inX0 : ∀ w ∈ u_ws RX0 TX0 5, w ∈ lw_tbl := by decide +kernel
theorem inX1 : ∀ w ∈ u_ws RX1 TX1 5, w ∈ lw_tbl := by decide +kernel
theorem inX3 : ∀ w ∈ u_ws RX3 TX3 4, w ∈ lw_tbl := by decide +kernel
theorem inX4 : ∀ w ∈ u_ws RX4 TX4 1, w ∈ lw_tbl := by decide +kernel
theorem inX5 : ∀ w ∈ u_ws RX5 TX5 3, w ∈ lw_tbl := by decide +kernel
theorem inX6 : ∀ w ∈ u_ws RX6 TX6 2, w ∈ lw_tbl := by decide +kernel
theorem inX7 : ∀ w ∈ u_ws RX7 TX7 1, w ∈ lw_tbl := by decide +kernel
theorem inX8 : ∀ w ∈ u_ws RX8 TX8 2, w ∈ lw_tbl := by decide +kernel
theorem inX9 : ∀ w ∈ u_ws RX9 TX9 4, w ∈ lw_tbl := by decide +kernel
theorem inX10 : ∀ w ∈ u_ws RX10 TX10 12, w ∈ lw_tbl := by decide +kernel
theorem inX11 : ∀ w ∈ u_ws RX11 TX11 27, w ∈ lw_tbl := by decide +kernel
theorem ac_I : Cond.arrayClass .int ∈ lw_tbl := (tm 63 (by decide +kernel))
theorem cn_X0_40 : Cond.constant RX0 40 (-100000 : Int32) ∈ lw_tbl := tm 508 (by decide +kernel)
theorem cp_2 : Cond.native arraycopyName ∈ lw_tbl := (tm 506 (by decide +kernel))
theorem cp_3 : Cond.static arraycopyName ∈ lw_tbl := (tm 505 (by decide +kernel))
theorem cp_4 : Cond.initialized "java/lang/System" ∈ lw_tbl := (tm 19 (by decide +kernel))
theorem cp_X0_28 : Cond.methodLink RX0 28 arraycopyName ∈ lw_tbl := (tm 504 (by decide +kernel))
theorem fl_X0_15 : FL RX0 15 0 1 := ⟨(RX0, TX0, 5), rfl, inX0, by decide, (tm 132 (by decide +kernel))⟩
theorem fl_X0_19 : FL RX0 19 0 2 := ⟨(RX0, TX0, 5), rfl, inX0, by decide, (tm 133 (by decide +kernel))⟩
theorem fl_X0_22 : FL RX0 22 0 3 := ⟨(RX0, TX0, 5), rfl, inX0, by decide, (tm 134 (by decide +kernel))⟩
theorem fl_X0_25 : FL RX0 25 0 4 := ⟨(RX0, TX0, 5), rfl, inX0, by decide, (tm 135 (by decide +kernel))⟩
theorem fl_X3_17 : FL RX3 17 2 1 := ⟨(RX3, TX3, 4), rfl, inX3, by decide, (tm 51 (by decide +kernel))⟩
theorem fl_X3_21 : FL RX3 21 2 2 := ⟨(RX3, TX3, 4), rfl, inX3, by decide, (tm 52 (by decide +kernel))⟩
theorem fl_X3_25 : FL RX3 25 2 3 := ⟨(RX3, TX3, 4), rfl, inX3, by decide, (tm 53 (by decide +kernel))⟩
theorem fl_X3_35 : FL RX3 35 6 0 := ⟨(RX7, TX7, 1), rfl, inX7, by decide, (tm 720 (by decide +kernel))⟩
theorem fl_X3_9 : FL RX3 9 2 0 := ⟨(RX3, TX3, 4), rfl, inX3, by decide, (tm 49 (by decide +kernel))⟩
theorem fl_X7_9 : FL RX7 9 6 0 := ⟨(RX7, TX7, 1), rfl, inX7, by decide, (tm 719 (by decide +kernel))⟩
theorem fp_X0_9 : FP RX0 9 0 0 .boolean false := ⟨(RX0, TX0, 5), rfl, inX0, by decide, (tm 130 (by decide +kernel)), ⟨tyX0, tyX0_ok⟩, nmX0, tyX0_ok 0 (by decide), rfl, (fun h => by cases h)⟩
theorem fp_X3_25 : FP RX3 25 2 3 .int false := ⟨(RX3, TX3, 4), rfl, inX3, by decide, (tm 53 (by decide +kernel)), ⟨tyX3, tyX3_ok⟩, nmX3, tyX3_ok 3 (by decide), rfl, (fun h => by cases h)⟩
theorem fp_X3_9 : FP RX3 9 2 0 .int false := ⟨(RX3, TX3, 4), rfl, inX3, by decide, (tm 49 (by decide +kernel)), ⟨tyX3, tyX3_ok⟩, nmX3, tyX3_ok 0 (by decide), rfl, (fun h => by cases h)⟩
theorem fp_X7_9 : FP RX7 9 6 0 (.array .int) true := ⟨(RX7, TX7, 1), rfl, inX7, by decide, (tm 719 (by decide +kernel)), ⟨tyX7, tyX7_ok⟩, nmX7, tyX7_ok 0 (by decide), rfl, fun _ => rfl⟩
theorem mt_X2_11 : Cond.methodLink RX2 11 Lib.Math.abs.name ∈ lw_tbl := (tm 240 (by decide +kernel))
theorem mt_X2_17 : Cond.methodLink RX2 17 Lib.Math.min.name ∈ lw_tbl := (tm 262 (by decide +kernel))
theorem mt_X2_21 : Cond.methodLink RX2 21 Lib.Math.max.name ∈ lw_tbl := (tm 265 (by decide +kernel))
theorem mtc_abs : Cond.code Lib.Math.abs.name Lib.Math.abs.code 1 (some .int) ∈ lw_tbl := tm 242 (by decide +kernel)
theorem mtc_max : Cond.code Lib.Math.max.name Lib.Math.max.code 2 (some .int) ∈ lw_tbl := tm 267 (by decide +kernel)
theorem mtc_min : Cond.code Lib.Math.min.name Lib.Math.min.code 2 (some .int) ∈ lw_tbl := tm 264 (by decide +kernel)
theorem mti : Cond.initialized "java/lang/Math" ∈ lw_tbl := (tm 16 (by decide +kernel))
theorem mts_abs : Cond.static Lib.Math.abs.name ∈ lw_tbl := (tm 241 (by decide +kernel))
theorem mts_max : Cond.static Lib.Math.max.name ∈ lw_tbl := (tm 266 (by decide +kernel))
theorem mts_min : Cond.static Lib.Math.min.name ∈ lw_tbl := (tm 263 (by decide +kernel))
theorem nw_X3_15 : NW RX3 15 6 [vN] := ⟨(RX7, TX7, 1), rfl, inX7, rfl, (tm 47 (by decide +kernel)), (tm 714 (by decide +kernel)), (tm 24 (by decide +kernel)), ⟨tyX7, tyX7_ok, fun j (hj : j < 1) => by
  rcases (show j = 0 by omega) with rfl <;> exact fun _ => (by first | rfl | exact dfl_i)⟩, nw_ok [vN] (by decide)⟩
theorem oi_2 : Cond.instanceMethod Lib.objectInit ∈ lw_tbl := (tm 33 (by decide +kernel))
theorem oi_3 : Cond.code Lib.objectInit ⟨#[0xb1]⟩ 1 none ∈ lw_tbl := tm 34 (by decide +kernel)
theorem oi_X7_3 : Cond.methodLink RX7 3 Lib.objectInit ∈ lw_tbl := (tm 718 (by decide +kernel))
theorem w_X0_34 : WS RX0 34 yJ7_fill_53178 (.code yJ7_fill_53178 cJ7_fill_53178 4 none) 2 := ⟨(tm 507 (by decide +kernel)), (tm 71 (by decide +kernel)), (tm 4 (by decide +kernel)), (tm 72 (by decide +kernel)), rfl, ⟨by decide, by decide⟩, by decide +kernel⟩
theorem w_X0_41 : WV RX0 41 0 yX0_takeAway (.code yX0_takeAway cX0_takeAway 2 none) 1 := ⟨(tm 590 (by decide +kernel)), (tm 591 (by decide +kernel)), (tm 592 (by decide +kernel)), (tm 8 (by decide +kernel)), (tm 593 (by decide +kernel)), rfl, ⟨by decide, by decide⟩, by decide +kernel, (RX0, TX0, 5), rfl, rfl⟩
theorem w_X0_45 : WV RX0 45 0 yX0_put (.code yX0_put cX0_put 3 none) 2 := ⟨(tm 936 (by decide +kernel)), (tm 587 (by decide +kernel)), (tm 588 (by decide +kernel)), (tm 8 (by decide +kernel)), (tm 589 (by decide +kernel)), rfl, ⟨by decide, by decide⟩, by decide +kernel, (RX0, TX0, 5), rfl, rfl⟩
theorem w_X0_49 : WV RX0 49 0 yX0_isConflict (.code yX0_isConflict cX0_isConflict 3 (some .boolean)) 2 := ⟨(tm 635 (by decide +kernel)), (tm 636 (by decide +kernel)), (tm 637 (by decide +kernel)), (tm 8 (by decide +kernel)), (tm 638 (by decide +kernel)), rfl, ⟨by decide, by decide⟩, by decide +kernel, (RX0, TX0, 5), rfl, rfl⟩
theorem w_X2_24 : WS RX2 24 yX2_downRoad (.code yX2_downRoad cX2_downRoad 2 (some .int)) 2 := ⟨(tm 268 (by decide +kernel)), (tm 269 (by decide +kernel)), (tm 15 (by decide +kernel)), (tm 270 (by decide +kernel)), rfl, ⟨by decide, by decide⟩, by decide +kernel⟩
theorem w_X2_27 : WS RX2 27 yX2_valueIn (.code yX2_valueIn cX2_valueIn 2 (some .int)) 2 := ⟨(tm 271 (by decide +kernel)), (tm 272 (by decide +kernel)), (tm 15 (by decide +kernel)), (tm 273 (by decide +kernel)), rfl, ⟨by decide, by decide⟩, by decide +kernel⟩
theorem w_X2_31 : WS RX2 31 yX2_rightRoad (.code yX2_rightRoad cX2_rightRoad 2 (some .int)) 2 := ⟨(tm 274 (by decide +kernel)), (tm 275 (by decide +kernel)), (tm 15 (by decide +kernel)), (tm 276 (by decide +kernel)), rfl, ⟨by decide, by decide⟩, by decide +kernel⟩
theorem w_X2_36 : WS RX2 36 yX2_placesIn (.code yX2_placesIn cX2_placesIn 11 (some .int)) 6 := ⟨(tm 447 (by decide +kernel)), (tm 304 (by decide +kernel)), (tm 15 (by decide +kernel)), (tm 305 (by decide +kernel)), rfl, ⟨by decide, by decide⟩, by decide +kernel⟩
theorem w_X2_40 : WS RX2 40 yX2_areaAt (.code yX2_areaAt cX2_areaAt 4 (some .int)) 3 := ⟨(tm 306 (by decide +kernel)), (tm 201 (by decide +kernel)), (tm 15 (by decide +kernel)), (tm 202 (by decide +kernel)), rfl, ⟨by decide, by decide⟩, by decide +kernel⟩
theorem w_X3_28 : WV RX3 28 2 yX3_isFull (.code yX3_isFull cX3_isFull 1 (some .boolean)) 0 := ⟨(tm 713 (by decide +kernel)), (tm 702 (by decide +kernel)), (tm 703 (by decide +kernel)), (tm 2 (by decide +kernel)), (tm 704 (by decide +kernel)), rfl, ⟨by decide, by decide⟩, by decide +kernel, (RX3, TX3, 4), rfl, rfl⟩
theorem w_X3_32 : WI RX3 32 yX7_init (.code yX7_init cX7_init 4 none) 2 := ⟨(tm 715 (by decide +kernel)), (tm 716 (by decide +kernel)), (tm 24 (by decide +kernel)), (tm 717 (by decide +kernel)), rfl, ⟨by decide, by decide⟩, by decide +kernel, rfl⟩
theorem w_X3_38 : WV RX3 38 2 yX3_broughtBy (.code yX3_broughtBy cX3_broughtBy 4 (some .int)) 2 := ⟨(tm 221 (by decide +kernel)), (tm 223 (by decide +kernel)), (tmp 0 (by decide +kernel)), (tm 2 (by decide +kernel)), (tm 224 (by decide +kernel)), rfl, ⟨by decide, by decide⟩, by decide +kernel, (RX3, TX3, 4), rfl, rfl⟩
theorem w_X3_42 : WV RX3 42 2 yX3_valueAt (.code yX3_valueAt cX3_valueAt 5 (some .int)) 2 := ⟨(tm 217 (by decide +kernel)), (tm 218 (by decide +kernel)), (tm 219 (by decide +kernel)), (tm 2 (by decide +kernel)), (tm 220 (by decide +kernel)), rfl, ⟨by decide, by decide⟩, by decide +kernel, (RX3, TX3, 4), rfl, rfl⟩
