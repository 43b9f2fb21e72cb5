theorem fl_X11_184 : FL RX11 184 10 21 := ⟨(RX11, TX11, 27), rfl, inX11, by decide, (tm 1005 (by decide +kernel))⟩
theorem fl_X11_69 : FL RX11 69 10 26 := ⟨(RX11, TX11, 27), rfl, inX11, by decide, (tm 1010 (by decide +kernel))⟩
theorem fl_X11_7 : FL RX11 7 10 0 := ⟨(RX11, TX11, 27), rfl, inX11, by decide, (tm 984 (by decide +kernel))⟩
theorem fl_X11_72 : FL RX11 72 10 18 := ⟨(RX11, TX11, 27), rfl, inX11, by decide, (tm 1002 (by decide +kernel))⟩
theorem fp_X11_69 : FP RX11 69 10 26 .int false := ⟨(RX11, TX11, 27), rfl, inX11, by decide, (tm 1010 (by decide +kernel)), ⟨tyX11, tyX11_ok⟩, nmX11, tyX11_ok 26 (by decide), rfl, (fun h => by cases h)⟩
theorem w_X11_108 : WS RX11 108 yX11_isLayer (.code yX11_isLayer cX11_isLayer 1 (some .boolean)) 1 := ⟨(tm 1075 (by decide +kernel)), (tm 1076 (by decide +kernel)), (tm 9 (by decide +kernel)), (tm 1077 (by decide +kernel)), rfl, ⟨by decide, by decide⟩, by decide +kernel⟩
theorem w_X11_75 : WS RX11 75 yX11_isIn (.code yX11_isIn cX11_isIn 3 (some .boolean)) 3 := ⟨(tm 1078 (by decide +kernel)), (tm 1079 (by decide +kernel)), (tm 9 (by decide +kernel)), (tm 1080 (by decide +kernel)), rfl, ⟨by decide, by decide⟩, by decide +kernel⟩
