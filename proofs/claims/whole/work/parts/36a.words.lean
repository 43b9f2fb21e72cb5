theorem fl_X6_15 : FL RX6 15 5 1 := ⟨(RX6, TX6, 2), rfl, inX6, by decide, (tm 109 (by decide +kernel))⟩
theorem fl_X6_9 : FL RX6 9 5 0 := ⟨(RX6, TX6, 2), rfl, inX6, by decide, (tm 108 (by decide +kernel))⟩
theorem fp_X6_15 : FP RX6 15 5 1 (.array .int) true := ⟨(RX6, TX6, 2), rfl, inX6, by decide, (tm 109 (by decide +kernel)), ⟨tyX6, tyX6_ok⟩, nmX6, tyX6_ok 1 (by decide), rfl, fun _ => rfl⟩
theorem fp_X6_9 : FP RX6 9 5 0 (.array .int) true := ⟨(RX6, TX6, 2), rfl, inX6, by decide, (tm 108 (by decide +kernel)), ⟨tyX6, tyX6_ok⟩, nmX6, tyX6_ok 0 (by decide), rfl, fun _ => rfl⟩
theorem oi_X6_3 : Cond.methodLink RX6 3 Lib.objectInit ∈ lw_tbl := (tm 107 (by decide +kernel))
theorem w_X6_18 : WS RX6 18 yJ7_fill_53178 (.code yJ7_fill_53178 cJ7_fill_53178 4 none) 2 := ⟨(tm 438 (by decide +kernel)), (tm 71 (by decide +kernel)), (tm 4 (by decide +kernel)), (tm 72 (by decide +kernel)), rfl, ⟨by decide, by decide⟩, by decide +kernel⟩
theorem w_X6_26 : WS RX6 26 yX2_beside (.code yX2_beside cX2_beside 4 (some .int)) 2 := ⟨(tm 439 (by decide +kernel)), (tm 440 (by decide +kernel)), (tm 15 (by decide +kernel)), (tm 441 (by decide +kernel)), rfl, ⟨by decide, by decide⟩, by decide +kernel⟩
theorem w_X6_30 : WS RX6 30 yX2_isRoadBetween (.code yX2_isRoadBetween cX2_isRoadBetween 7 (some .boolean)) 3 := ⟨(tm 442 (by decide +kernel)), (tm 260 (by decide +kernel)), (tm 15 (by decide +kernel)), (tm 261 (by decide +kernel)), rfl, ⟨by decide, by decide⟩, by decide +kernel⟩
theorem w_X6_34 : WS RX6 34 yX2_areaAt (.code yX2_areaAt cX2_areaAt 4 (some .int)) 3 := ⟨(tm 443 (by decide +kernel)), (tm 201 (by decide +kernel)), (tm 15 (by decide +kernel)), (tm 202 (by decide +kernel)), rfl, ⟨by decide, by decide⟩, by decide +kernel⟩
