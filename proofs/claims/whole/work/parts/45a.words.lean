theorem an_X10_16 : Cond.classLink RX10 16 RX5 ∈ lw_tbl := (tm 35 (by decide +kernel))
theorem an_X10_26 : Cond.classLink RX10 26 RX0 ∈ lw_tbl := (tm 37 (by decide +kernel))
theorem an_X10_32 : Cond.classLink RX10 32 RX1 ∈ lw_tbl := (tm 39 (by decide +kernel))
theorem ao_X0 : Cond.arrayOver (.object RX0) ∈ lw_tbl := (tm 38 (by decide +kernel))
theorem ao_X1 : Cond.arrayOver (.object RX1) ∈ lw_tbl := (tm 40 (by decide +kernel))
theorem ao_X5 : Cond.arrayOver (.object RX5) ∈ lw_tbl := (tm 36 (by decide +kernel))
theorem fp_X10_13 : FP RX10 13 9 1 (.array .int) true := ⟨(RX10, TX10, 12), rfl, inX10, by decide, (tm 148 (by decide +kernel)), ⟨tyX10, tyX10_ok⟩, nmX10, tyX10_ok 1 (by decide), rfl, fun _ => rfl⟩
theorem fp_X10_18 : FP RX10 18 9 2 (.array (.object "CindermapStore$Rule")) true := ⟨(RX10, TX10, 12), rfl, inX10, by decide, (tm 149 (by decide +kernel)), ⟨tyX10, tyX10_ok⟩, nmX10, tyX10_ok 2 (by decide), rfl, fun _ => rfl⟩
theorem fp_X10_28 : FP RX10 28 9 4 (.array (.object "CindermapStore$Branch")) true := ⟨(RX10, TX10, 12), rfl, inX10, by decide, (tm 151 (by decide +kernel)), ⟨tyX10, tyX10_ok⟩, nmX10, tyX10_ok 4 (by decide), rfl, fun _ => rfl⟩
theorem fp_X10_34 : FP RX10 34 9 5 (.array (.object "CindermapStore$Device")) true := ⟨(RX10, TX10, 12), rfl, inX10, by decide, (tm 152 (by decide +kernel)), ⟨tyX10, tyX10_ok⟩, nmX10, tyX10_ok 5 (by decide), rfl, fun _ => rfl⟩
theorem fp_X10_44 : FP RX10 44 9 7 (.object "CindermapStore$History") true := ⟨(RX10, TX10, 12), rfl, inX10, by decide, (tm 154 (by decide +kernel)), ⟨tyX10, tyX10_ok⟩, nmX10, tyX10_ok 7 (by decide), rfl, fun _ => rfl⟩
theorem fp_X10_51 : FP RX10 51 9 8 (.object "CindermapStore$Tiles") true := ⟨(RX10, TX10, 12), rfl, inX10, by decide, (tm 155 (by decide +kernel)), ⟨tyX10, tyX10_ok⟩, nmX10, tyX10_ok 8 (by decide), rfl, fun _ => rfl⟩
theorem fp_X10_58 : FP RX10 58 9 9 (.object "CindermapStore$Walk") true := ⟨(RX10, TX10, 12), rfl, inX10, by decide, (tm 156 (by decide +kernel)), ⟨tyX10, tyX10_ok⟩, nmX10, tyX10_ok 9 (by decide), rfl, fun _ => rfl⟩
theorem fp_X10_65 : FP RX10 65 9 10 (.object "CindermapStore$Search") true := ⟨(RX10, TX10, 12), rfl, inX10, by decide, (tm 157 (by decide +kernel)), ⟨tyX10, tyX10_ok⟩, nmX10, tyX10_ok 10 (by decide), rfl, fun _ => rfl⟩
theorem fp_X10_72 : FP RX10 72 9 11 (.object "CindermapStore$PairCheck") true := ⟨(RX10, TX10, 12), rfl, inX10, by decide, (tm 158 (by decide +kernel)), ⟨tyX10, tyX10_ok⟩, nmX10, tyX10_ok 11 (by decide), rfl, fun _ => rfl⟩
theorem fp_X10_9 : FP RX10 9 9 0 (.array .int) true := ⟨(RX10, TX10, 12), rfl, inX10, by decide, (tm 147 (by decide +kernel)), ⟨tyX10, tyX10_ok⟩, nmX10, tyX10_ok 0 (by decide), rfl, fun _ => rfl⟩
theorem nw_X10_26 : NW RX10 26 0 [vI 0, vN, vN, vN, vN] := ⟨(RX0, TX0, 5), rfl, inX0, rfl, (tm 37 (by decide +kernel)), (tm 125 (by decide +kernel)), (tm 8 (by decide +kernel)), ⟨tyX0, tyX0_ok, fun j (hj : j < 5) => by
  rcases (show j = 0 ∨ j = 1 ∨ j = 2 ∨ j = 3 ∨ j = 4 by omega) with rfl | rfl | rfl | rfl | rfl <;> exact fun _ => (by first | rfl | exact dfl_i)⟩, nw_ok [vI 0, vN, vN, vN, vN] (by decide)⟩
theorem nw_X10_41 : NW RX10 41 2 [vI 0, vN, vN, vI 0] := ⟨(RX3, TX3, 4), rfl, inX3, rfl, (tm 41 (by decide +kernel)), (tm 42 (by decide +kernel)), (tm 2 (by decide +kernel)), ⟨tyX3, tyX3_ok, fun j (hj : j < 4) => by
  rcases (show j = 0 ∨ j = 1 ∨ j = 2 ∨ j = 3 by omega) with rfl | rfl | rfl | rfl <;> exact fun _ => (by first | rfl | exact dfl_i)⟩, nw_ok [vI 0, vN, vN, vI 0] (by decide)⟩
theorem nw_X10_48 : NW RX10 48 7 [vI 0, vN] := ⟨(RX8, TX8, 2), rfl, inX8, rfl, (tm 64 (by decide +kernel)), (tm 65 (by decide +kernel)), (tm 3 (by decide +kernel)), ⟨tyX8, tyX8_ok, fun j (hj : j < 2) => by
  rcases (show j = 0 ∨ j = 1 by omega) with rfl | rfl <;> exact fun _ => (by first | rfl | exact dfl_i)⟩, nw_ok [vI 0, vN] (by decide)⟩
theorem nw_X10_55 : NW RX10 55 8 [vI 0, vI 0, vI 0, vI 0] := ⟨(RX9, TX9, 4), rfl, inX9, rfl, (tm 81 (by decide +kernel)), (tm 82 (by decide +kernel)), (tm 5 (by decide +kernel)), ⟨tyX9, tyX9_ok, fun j (hj : j < 4) => by
  rcases (show j = 0 ∨ j = 1 ∨ j = 2 ∨ j = 3 by omega) with rfl | rfl | rfl | rfl <;> exact fun _ => (by first | rfl | exact dfl_i)⟩, nw_ok [vI 0, vI 0, vI 0, vI 0] (by decide)⟩
theorem nw_X10_62 : NW RX10 62 5 [vN, vN] := ⟨(RX6, TX6, 2), rfl, inX6, rfl, (tm 102 (by decide +kernel)), (tm 103 (by decide +kernel)), (tm 6 (by decide +kernel)), ⟨tyX6, tyX6_ok, fun j (hj : j < 2) => by
  rcases (show j = 0 ∨ j = 1 by omega) with rfl | rfl <;> exact fun _ => (by first | rfl | exact dfl_i)⟩, nw_ok [vN, vN] (by decide)⟩
theorem nw_X10_69 : NW RX10 69 3 [vN] := ⟨(RX4, TX4, 1), rfl, inX4, rfl, (tm 115 (by decide +kernel)), (tm 116 (by decide +kernel)), (tm 7 (by decide +kernel)), ⟨tyX4, tyX4_ok, fun j (hj : j < 1) => by
  rcases (show j = 0 by omega) with rfl <;> exact fun _ => (by first | rfl | exact dfl_i)⟩, nw_ok [vN] (by decide)⟩
theorem oi_X10_1 : Cond.methodLink RX10 1 Lib.objectInit ∈ lw_tbl := (tm 32 (by decide +kernel))
theorem w_X10_43 : WN RX10 43 yX3_init "CindermapStore" (.code yX3_init cX3_init 1 none) 0 := ⟨(tm 43 (by decide +kernel)), (tm 44 (by decide +kernel)), (tm 2 (by decide +kernel)), (tm 45 (by decide +kernel)), rfl, ⟨by decide, by decide⟩, by decide +kernel, rfl⟩
theorem w_X10_50 : WI RX10 50 yX8_init (.code yX8_init cX8_init 1 none) 0 := ⟨(tm 66 (by decide +kernel)), (tm 67 (by decide +kernel)), (tm 3 (by decide +kernel)), (tm 68 (by decide +kernel)), rfl, ⟨by decide, by decide⟩, by decide +kernel, rfl⟩
theorem w_X10_57 : WN RX10 57 yX9_init "CindermapStore" (.code yX9_init cX9_init 1 none) 0 := ⟨(tm 83 (by decide +kernel)), (tm 84 (by decide +kernel)), (tm 5 (by decide +kernel)), (tm 85 (by decide +kernel)), rfl, ⟨by decide, by decide⟩, by decide +kernel, rfl⟩
theorem w_X10_64 : WN RX10 64 yX6_init "CindermapStore" (.code yX6_init cX6_init 1 none) 0 := ⟨(tm 104 (by decide +kernel)), (tm 105 (by decide +kernel)), (tm 6 (by decide +kernel)), (tm 106 (by decide +kernel)), rfl, ⟨by decide, by decide⟩, by decide +kernel, rfl⟩
theorem w_X10_71 : WN RX10 71 yX4_init "CindermapStore" (.code yX4_init cX4_init 1 none) 0 := ⟨(tm 117 (by decide +kernel)), (tm 118 (by decide +kernel)), (tm 7 (by decide +kernel)), (tm 119 (by decide +kernel)), rfl, ⟨by decide, by decide⟩, by decide +kernel, rfl⟩
theorem w_X10_76 : WN RX10 76 yX0_init "CindermapStore" (.code yX0_init cX0_init 1 none) 0 := ⟨(tm 126 (by decide +kernel)), (tm 127 (by decide +kernel)), (tm 8 (by decide +kernel)), (tm 128 (by decide +kernel)), rfl, ⟨by decide, by decide⟩, by decide +kernel, rfl⟩
