theorem ac_Z : Cond.arrayClass .boolean ∈ lw_tbl := (tm 1066 (by decide +kernel))
theorem cn_X11_211 : Cond.constantFloat RX11 211 (1115684864 : UInt32) ∈ lw_tbl := tm 1332 (by decide +kernel)
theorem cn_X11_212 : Cond.constantLong RX11 212 (7 : Int64) ∈ lw_tbl := tm 1341 (by decide +kernel)
theorem cn_X11_214 : Cond.constantLong RX11 214 (31 : Int64) ∈ lw_tbl := tm 1342 (by decide +kernel)
theorem fp_X11_13 : FP RX11 13 10 1 (.array .int) true := ⟨(RX11, TX11, 27), rfl, inX11, by decide, (tm 985 (by decide +kernel)), ⟨tyX11, tyX11_ok⟩, nmX11, tyX11_ok 1 (by decide), rfl, fun _ => rfl⟩
theorem fp_X11_16 : FP RX11 16 10 2 (.array .int) true := ⟨(RX11, TX11, 27), rfl, inX11, by decide, (tm 986 (by decide +kernel)), ⟨tyX11, tyX11_ok⟩, nmX11, tyX11_ok 2 (by decide), rfl, fun _ => rfl⟩
theorem fp_X11_19 : FP RX11 19 10 3 (.array .int) true := ⟨(RX11, TX11, 27), rfl, inX11, by decide, (tm 987 (by decide +kernel)), ⟨tyX11, tyX11_ok⟩, nmX11, tyX11_ok 3 (by decide), rfl, fun _ => rfl⟩
theorem fp_X11_22 : FP RX11 22 10 4 (.array .int) true := ⟨(RX11, TX11, 27), rfl, inX11, by decide, (tm 988 (by decide +kernel)), ⟨tyX11, tyX11_ok⟩, nmX11, tyX11_ok 4 (by decide), rfl, fun _ => rfl⟩
theorem fp_X11_25 : FP RX11 25 10 5 (.array .boolean) true := ⟨(RX11, TX11, 27), rfl, inX11, by decide, (tm 989 (by decide +kernel)), ⟨tyX11, tyX11_ok⟩, nmX11, tyX11_ok 5 (by decide), rfl, fun _ => rfl⟩
theorem fp_X11_29 : FP RX11 29 10 6 (.array .int) true := ⟨(RX11, TX11, 27), rfl, inX11, by decide, (tm 990 (by decide +kernel)), ⟨tyX11, tyX11_ok⟩, nmX11, tyX11_ok 6 (by decide), rfl, fun _ => rfl⟩
theorem fp_X11_32 : FP RX11 32 10 7 (.array .int) true := ⟨(RX11, TX11, 27), rfl, inX11, by decide, (tm 991 (by decide +kernel)), ⟨tyX11, tyX11_ok⟩, nmX11, tyX11_ok 7 (by decide), rfl, fun _ => rfl⟩
theorem fp_X11_35 : FP RX11 35 10 8 (.array .int) true := ⟨(RX11, TX11, 27), rfl, inX11, by decide, (tm 992 (by decide +kernel)), ⟨tyX11, tyX11_ok⟩, nmX11, tyX11_ok 8 (by decide), rfl, fun _ => rfl⟩
theorem fp_X11_38 : FP RX11 38 10 9 (.array .int) true := ⟨(RX11, TX11, 27), rfl, inX11, by decide, (tm 993 (by decide +kernel)), ⟨tyX11, tyX11_ok⟩, nmX11, tyX11_ok 9 (by decide), rfl, fun _ => rfl⟩
theorem fp_X11_41 : FP RX11 41 10 10 (.array .int) true := ⟨(RX11, TX11, 27), rfl, inX11, by decide, (tm 994 (by decide +kernel)), ⟨tyX11, tyX11_ok⟩, nmX11, tyX11_ok 10 (by decide), rfl, fun _ => rfl⟩
theorem fp_X11_44 : FP RX11 44 10 11 (.array .int) true := ⟨(RX11, TX11, 27), rfl, inX11, by decide, (tm 995 (by decide +kernel)), ⟨tyX11, tyX11_ok⟩, nmX11, tyX11_ok 11 (by decide), rfl, fun _ => rfl⟩
theorem fp_X11_47 : FP RX11 47 10 12 (.array .int) true := ⟨(RX11, TX11, 27), rfl, inX11, by decide, (tm 996 (by decide +kernel)), ⟨tyX11, tyX11_ok⟩, nmX11, tyX11_ok 12 (by decide), rfl, fun _ => rfl⟩
theorem fp_X11_50 : FP RX11 50 10 13 (.array .int) true := ⟨(RX11, TX11, 27), rfl, inX11, by decide, (tm 997 (by decide +kernel)), ⟨tyX11, tyX11_ok⟩, nmX11, tyX11_ok 13 (by decide), rfl, fun _ => rfl⟩
theorem fp_X11_53 : FP RX11 53 10 14 (.array .int) true := ⟨(RX11, TX11, 27), rfl, inX11, by decide, (tm 998 (by decide +kernel)), ⟨tyX11, tyX11_ok⟩, nmX11, tyX11_ok 14 (by decide), rfl, fun _ => rfl⟩
theorem fp_X11_56 : FP RX11 56 10 15 (.array .boolean) true := ⟨(RX11, TX11, 27), rfl, inX11, by decide, (tm 999 (by decide +kernel)), ⟨tyX11, tyX11_ok⟩, nmX11, tyX11_ok 15 (by decide), rfl, fun _ => rfl⟩
theorem fp_X11_59 : FP RX11 59 10 16 (.array .int) true := ⟨(RX11, TX11, 27), rfl, inX11, by decide, (tm 1000 (by decide +kernel)), ⟨tyX11, tyX11_ok⟩, nmX11, tyX11_ok 16 (by decide), rfl, fun _ => rfl⟩
theorem fp_X11_62 : FP RX11 62 10 17 (.array .int) true := ⟨(RX11, TX11, 27), rfl, inX11, by decide, (tm 1001 (by decide +kernel)), ⟨tyX11, tyX11_ok⟩, nmX11, tyX11_ok 17 (by decide), rfl, fun _ => rfl⟩
theorem fp_X11_7 : FP RX11 7 10 0 (.array .int) true := ⟨(RX11, TX11, 27), rfl, inX11, by decide, (tm 984 (by decide +kernel)), ⟨tyX11, tyX11_ok⟩, nmX11, tyX11_ok 0 (by decide), rfl, fun _ => rfl⟩
theorem oi_X11_1 : Cond.methodLink RX11 1 Lib.objectInit ∈ lw_tbl := (tm 983 (by decide +kernel))
theorem w_X11_208 : WV RX11 208 10 yX11_isBrought (.code yX11_isBrought cX11_isBrought 6 (some .boolean)) 3 := ⟨(tm 1320 (by decide +kernel)), (tm 1322 (by decide +kernel)), (tmp 43 (by decide +kernel)), (tm 9 (by decide +kernel)), (tm 1323 (by decide +kernel)), rfl, ⟨by decide, by decide⟩, by decide +kernel, (RX11, TX11, 27), rfl, rfl⟩
