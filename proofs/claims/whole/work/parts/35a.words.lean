theorem fl_X1_15 : FL RX1 15 1 1 := ⟨(RX1, TX1, 5), rfl, inX1, by decide, (tm 885 (by decide +kernel))⟩
theorem fl_X1_18 : FL RX1 18 1 2 := ⟨(RX1, TX1, 5), rfl, inX1, by decide, (tm 887 (by decide +kernel))⟩
theorem fl_X1_22 : FL RX1 22 1 3 := ⟨(RX1, TX1, 5), rfl, inX1, by decide, (tm 888 (by decide +kernel))⟩
theorem fl_X1_25 : FL RX1 25 1 4 := ⟨(RX1, TX1, 5), rfl, inX1, by decide, (tm 889 (by decide +kernel))⟩
theorem fl_X1_9 : FL RX1 9 1 0 := ⟨(RX1, TX1, 5), rfl, inX1, by decide, (tm 883 (by decide +kernel))⟩
theorem fp_X1_15 : FP RX1 15 1 1 .int false := ⟨(RX1, TX1, 5), rfl, inX1, by decide, (tm 885 (by decide +kernel)), ⟨tyX1, tyX1_ok⟩, nmX1, tyX1_ok 1 (by decide), rfl, (fun h => by cases h)⟩
theorem fp_X1_18 : FP RX1 18 1 2 (.array .int) true := ⟨(RX1, TX1, 5), rfl, inX1, by decide, (tm 887 (by decide +kernel)), ⟨tyX1, tyX1_ok⟩, nmX1, tyX1_ok 2 (by decide), rfl, fun _ => rfl⟩
theorem fp_X1_22 : FP RX1 22 1 3 (.array .int) true := ⟨(RX1, TX1, 5), rfl, inX1, by decide, (tm 888 (by decide +kernel)), ⟨tyX1, tyX1_ok⟩, nmX1, tyX1_ok 3 (by decide), rfl, fun _ => rfl⟩
theorem fp_X1_25 : FP RX1 25 1 4 (.array .int) true := ⟨(RX1, TX1, 5), rfl, inX1, by decide, (tm 889 (by decide +kernel)), ⟨tyX1, tyX1_ok⟩, nmX1, tyX1_ok 4 (by decide), rfl, fun _ => rfl⟩
theorem fp_X1_9 : FP RX1 9 1 0 .int false := ⟨(RX1, TX1, 5), rfl, inX1, by decide, (tm 883 (by decide +kernel)), ⟨tyX1, tyX1_ok⟩, nmX1, tyX1_ok 0 (by decide), rfl, (fun h => by cases h)⟩
theorem oi_X1_3 : Cond.methodLink RX1 3 Lib.objectInit ∈ lw_tbl := (tm 882 (by decide +kernel))
theorem w_X1_28 : WV RX1 28 1 yX1_isFull (.code yX1_isFull cX1_isFull 1 (some .boolean)) 0 := ⟨(tm 920 (by decide +kernel)), (tm 913 (by decide +kernel)), (tm 914 (by decide +kernel)), (tm 25 (by decide +kernel)), (tm 915 (by decide +kernel)), rfl, ⟨by decide, by decide⟩, by decide +kernel, (RX1, TX1, 5), rfl, rfl⟩
theorem w_X1_32 : WV RX1 32 0 yX0_bring (.code yX0_bring cX0_bring 4 (some .boolean)) 3 := ⟨(tm 932 (by decide +kernel)), (tm 933 (by decide +kernel)), (tm 934 (by decide +kernel)), (tm 8 (by decide +kernel)), (tm 935 (by decide +kernel)), rfl, ⟨by decide, by decide⟩, by decide +kernel, (RX0, TX0, 5), rfl, rfl⟩
