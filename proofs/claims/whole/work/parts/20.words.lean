theorem tm {w : Cond} (i : Nat) (h : tables_1[i]? = some w) : w ∈ lw_tbl := List.mem_append_right _ (List.mem_of_getElem? h)
theorem tmp {w : Cond} (i : Nat) (h : (k2_sels lw_privs)[i]? = some w) : w ∈ lw_tbl := List.mem_append_left _ (List.mem_of_getElem? h)
theorem xw_all {l : List Cond} (h : l.all (fun w => decide (w ∈ tables_1) && gw w && vx_ot w) = true) : ∀ w ∈ l, w ∈ lw_tbl ∧ gw w = true ∧ vx_ot w = true := fun w hw => by
  have h1 := List.all_eq_true.mp h w hw
  simp only [Bool.and_eq_true, decide_eq_true_eq] at h1
  exact ⟨List.mem_append_right _ h1.1.1, h1.1.2, h1.2⟩
theorem dfl_i : (Value.int 0) = Value.int (Int32.ofInt 0) := by decide
def nwk : PV → Bool
  | .inl x => decide (inI x)
  | .inr (.inl none) => true
  | _ => false
theorem nw_ok (fs : List PV) (h : fs.all nwk = true) : ∀ v ∈ fs, okV (fun _ => none) v := fun v hv => by
  have h1 := List.all_eq_true.mp h v hv
  obtain z | (_ | z) | z | z | z := v
  · exact (of_decide_eq_true (p := inI z) h1)
  · exact fun _ q => nomatch q
  · cases h1
  · cases h1
  · cases h1
  · cases h1
theorem inX0 : ∀ w ∈ u_ws RX0 TX0 5, w ∈ lw_tbl := by decide +kernel
theorem inX1 : ∀ w ∈ u_ws RX1 TX1 5, w ∈ lw_tbl := by decide +kernel
theorem inX3 : ∀ w ∈ u_ws RX3 TX3 4, w ∈ lw_tbl := by decide +kernel
theorem inX4 : ∀ w ∈ u_ws RX4 TX4 1, w ∈ lw_tbl := by decide +kernel
theorem inX5 : ∀ w ∈ u_ws RX5 TX5 3, w ∈ lw_tbl := by decide +kernel
theorem inX6 : ∀ w ∈ u_ws RX6 TX6 2, w ∈ lw_tbl := by decide +kernel
theorem inX7 : ∀ w ∈ u_ws RX7 TX7 1, w ∈ lw_tbl := by decide +kernel
theorem inX8 : ∀ w ∈ u_ws RX8 TX8 2, w ∈ lw_tbl := by decide +kernel
theorem inX9 : ∀ w ∈ u_ws RX9 TX9 4, w ∈ lw_tbl := by decide +kernel
theorem inX10 : ∀ w ∈ u_ws RX10 TX10 12, w ∈ lw_tbl := by decide +kernel
theorem inX11 : ∀ w ∈ u_ws RX11 TX11 27, w ∈ lw_tbl := by decide +kernel
theorem mt_X2_11 : Cond.methodLink RX2 11 Lib.Math.abs.name ∈ lw_tbl := (tm 240 (by decide +kernel))
theorem mt_X2_17 : Cond.methodLink RX2 17 Lib.Math.min.name ∈ lw_tbl := (tm 262 (by decide +kernel))
theorem mt_X2_21 : Cond.methodLink RX2 21 Lib.Math.max.name ∈ lw_tbl := (tm 265 (by decide +kernel))
theorem mtc_abs : Cond.code Lib.Math.abs.name Lib.Math.abs.code 1 (some .int) ∈ lw_tbl := tm 242 (by decide +kernel)
theorem mtc_max : Cond.code Lib.Math.max.name Lib.Math.max.code 2 (some .int) ∈ lw_tbl := tm 267 (by decide +kernel)
theorem mtc_min : Cond.code Lib.Math.min.name Lib.Math.min.code 2 (some .int) ∈ lw_tbl := tm 264 (by decide +kernel)
theorem mti : Cond.initialized "java/lang/Math" ∈ lw_tbl := (tm 16 (by decide +kernel))
theorem mts_abs : Cond.static Lib.Math.abs.name ∈ lw_tbl := (tm 241 (by decide +kernel))
theorem mts_max : Cond.static Lib.Math.max.name ∈ lw_tbl := (tm 266 (by decide +kernel))
theorem mts_min : Cond.static Lib.Math.min.name ∈ lw_tbl := (tm 263 (by decide +kernel))
theorem w_X2_24 : WS RX2 24 yX2_downRoad (.code yX2_downRoad cX2_downRoad 2 (some .int)) 2 := ⟨(tm 268 (by decide +kernel)), (tm 269 (by decide +kernel)), (tm 15 (by decide +kernel)), (tm 270 (by decide +kernel)), rfl, ⟨by decide, by decide⟩, by decide +kernel⟩
theorem w_X2_27 : WS RX2 27 yX2_valueIn (.code yX2_valueIn cX2_valueIn 2 (some .int)) 2 := ⟨(tm 271 (by decide +kernel)), (tm 272 (by decide +kernel)), (tm 15 (by decide +kernel)), (tm 273 (by decide +kernel)), rfl, ⟨by decide, by decide⟩, by decide +kernel⟩
theorem w_X2_31 : WS RX2 31 yX2_rightRoad (.code yX2_rightRoad cX2_rightRoad 2 (some .int)) 2 := ⟨(tm 274 (by decide +kernel)), (tm 275 (by decide +kernel)), (tm 15 (by decide +kernel)), (tm 276 (by decide +kernel)), rfl, ⟨by decide, by decide⟩, by decide +kernel⟩
theorem w_X2_36 : WS RX2 36 yX2_placesIn (.code yX2_placesIn cX2_placesIn 11 (some .int)) 6 := ⟨(tm 447 (by decide +kernel)), (tm 304 (by decide +kernel)), (tm 15 (by decide +kernel)), (tm 305 (by decide +kernel)), rfl, ⟨by decide, by decide⟩, by decide +kernel⟩
theorem w_X2_40 : WS RX2 40 yX2_areaAt (.code yX2_areaAt cX2_areaAt 4 (some .int)) 3 := ⟨(tm 306 (by decide +kernel)), (tm 201 (by decide +kernel)), (tm 15 (by decide +kernel)), (tm 202 (by decide +kernel)), rfl, ⟨by decide, by decide⟩, by decide +kernel⟩
