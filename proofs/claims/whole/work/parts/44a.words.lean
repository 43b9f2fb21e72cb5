theorem an_X3_15 : Cond.classLink RX3 15 RX7 ∈ lw_tbl := (tm 47 (by decide +kernel))
theorem ao_X7 : Cond.arrayOver (.object RX7) ∈ lw_tbl := (tm 48 (by decide +kernel))
theorem cn_X10_297 : Cond.constantFloat RX10 297 (1115684864 : UInt32) ∈ lw_tbl := tm 951 (by decide +kernel)
theorem cn_X10_301 : Cond.constantLong RX10 301 (7 : Int64) ∈ lw_tbl := tm 207 (by decide +kernel)
theorem cn_X10_303 : Cond.constantLong RX10 303 (31 : Int64) ∈ lw_tbl := tm 208 (by decide +kernel)
theorem fp_X0_15 : FP RX0 15 0 1 (.array .int) true := ⟨(RX0, TX0, 5), rfl, inX0, by decide, (tm 132 (by decide +kernel)), ⟨tyX0, tyX0_ok⟩, nmX0, tyX0_ok 1 (by decide), rfl, fun _ => rfl⟩
theorem fp_X0_19 : FP RX0 19 0 2 (.array .int) true := ⟨(RX0, TX0, 5), rfl, inX0, by decide, (tm 133 (by decide +kernel)), ⟨tyX0, tyX0_ok⟩, nmX0, tyX0_ok 2 (by decide), rfl, fun _ => rfl⟩
theorem fp_X0_22 : FP RX0 22 0 3 (.array .int) true := ⟨(RX0, TX0, 5), rfl, inX0, by decide, (tm 134 (by decide +kernel)), ⟨tyX0, tyX0_ok⟩, nmX0, tyX0_ok 3 (by decide), rfl, fun _ => rfl⟩
theorem fp_X0_25 : FP RX0 25 0 4 (.array .int) true := ⟨(RX0, TX0, 5), rfl, inX0, by decide, (tm 135 (by decide +kernel)), ⟨tyX0, tyX0_ok⟩, nmX0, tyX0_ok 4 (by decide), rfl, fun _ => rfl⟩
theorem fp_X3_17 : FP RX3 17 2 1 (.array (.object "CindermapStore$Step")) true := ⟨(RX3, TX3, 4), rfl, inX3, by decide, (tm 51 (by decide +kernel)), ⟨tyX3, tyX3_ok⟩, nmX3, tyX3_ok 1 (by decide), rfl, fun _ => rfl⟩
theorem fp_X3_21 : FP RX3 21 2 2 (.array .int) true := ⟨(RX3, TX3, 4), rfl, inX3, by decide, (tm 52 (by decide +kernel)), ⟨tyX3, tyX3_ok⟩, nmX3, tyX3_ok 2 (by decide), rfl, fun _ => rfl⟩
theorem oi_X0_3 : Cond.methodLink RX0 3 Lib.objectInit ∈ lw_tbl := (tm 129 (by decide +kernel))
theorem oi_X3_3 : Cond.methodLink RX3 3 Lib.objectInit ∈ lw_tbl := (tm 46 (by decide +kernel))
theorem xw_X10_298 : XW RX10 298 "java/lang/ArithmeticException" 300 := ⟨by decide, by decide, xw_all (by decide +kernel)⟩
