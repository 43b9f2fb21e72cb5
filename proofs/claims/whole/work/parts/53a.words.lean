theorem fl_X11_193 : FL RX11 193 10 24 := ⟨(RX11, TX11, 27), rfl, inX11, by decide, (tm 1008 (by decide +kernel))⟩
theorem fl_X11_196 : FL RX11 196 10 25 := ⟨(RX11, TX11, 27), rfl, inX11, by decide, (tm 1009 (by decide +kernel))⟩
theorem fl_X11_202 : FL RX11 202 10 22 := ⟨(RX11, TX11, 27), rfl, inX11, by decide, (tm 1006 (by decide +kernel))⟩
theorem fl_X11_38 : FL RX11 38 10 9 := ⟨(RX11, TX11, 27), rfl, inX11, by decide, (tm 993 (by decide +kernel))⟩
theorem fl_X11_44 : FL RX11 44 10 11 := ⟨(RX11, TX11, 27), rfl, inX11, by decide, (tm 995 (by decide +kernel))⟩
theorem fl_X11_47 : FL RX11 47 10 12 := ⟨(RX11, TX11, 27), rfl, inX11, by decide, (tm 996 (by decide +kernel))⟩
theorem fl_X11_62 : FL RX11 62 10 17 := ⟨(RX11, TX11, 27), rfl, inX11, by decide, (tm 1001 (by decide +kernel))⟩
theorem fl_X11_65 : FL RX11 65 10 23 := ⟨(RX11, TX11, 27), rfl, inX11, by decide, (tm 1007 (by decide +kernel))⟩
theorem fp_X11_72 : FP RX11 72 10 18 .int false := ⟨(RX11, TX11, 27), rfl, inX11, by decide, (tm 1002 (by decide +kernel)), ⟨tyX11, tyX11_ok⟩, nmX11, tyX11_ok 18 (by decide), rfl, (fun h => by cases h)⟩
theorem w_X11_112 : WV RX11 112 10 yX11_no (.code yX11_no cX11_no 3 (some .boolean)) 2 := ⟨(tm 1081 (by decide +kernel)), (tm 1083 (by decide +kernel)), (tmp 17 (by decide +kernel)), (tm 9 (by decide +kernel)), (tm 1084 (by decide +kernel)), rfl, ⟨by decide, by decide⟩, by decide +kernel, (RX11, TX11, 27), rfl, rfl⟩
theorem w_X11_135 : WV RX11 135 10 yX11_edit (.code yX11_edit cX11_edit 5 none) 3 := ⟨(tm 1147 (by decide +kernel)), (tm 1149 (by decide +kernel)), (tmp 28 (by decide +kernel)), (tm 9 (by decide +kernel)), (tm 1150 (by decide +kernel)), rfl, ⟨by decide, by decide⟩, by decide +kernel, (RX11, TX11, 27), rfl, rfl⟩
theorem w_X11_156 : WS RX11 156 yX11_size (.code yX11_size cX11_size 1 (some .int)) 1 := ⟨(tm 1210 (by decide +kernel)), (tm 1211 (by decide +kernel)), (tm 9 (by decide +kernel)), (tm 1212 (by decide +kernel)), rfl, ⟨by decide, by decide⟩, by decide +kernel⟩
theorem w_X11_174 : WS RX11 174 yX11_depth (.code yX11_depth cX11_depth 1 (some .int)) 1 := ⟨(tm 1253 (by decide +kernel)), (tm 1254 (by decide +kernel)), (tm 9 (by decide +kernel)), (tm 1255 (by decide +kernel)), rfl, ⟨by decide, by decide⟩, by decide +kernel⟩
