theorem fl_X11_13 : FL RX11 13 10 1 := ⟨(RX11, TX11, 27), rfl, inX11, by decide, (tm 985 (by decide +kernel))⟩
theorem fl_X11_25 : FL RX11 25 10 5 := ⟨(RX11, TX11, 27), rfl, inX11, by decide, (tm 989 (by decide +kernel))⟩
theorem fl_X11_29 : FL RX11 29 10 6 := ⟨(RX11, TX11, 27), rfl, inX11, by decide, (tm 990 (by decide +kernel))⟩
theorem fl_X11_32 : FL RX11 32 10 7 := ⟨(RX11, TX11, 27), rfl, inX11, by decide, (tm 991 (by decide +kernel))⟩
theorem fl_X11_35 : FL RX11 35 10 8 := ⟨(RX11, TX11, 27), rfl, inX11, by decide, (tm 992 (by decide +kernel))⟩
theorem w_X11_105 : WV RX11 105 10 yX11_now (.code yX11_now cX11_now 2 (some .int)) 1 := ⟨(tm 1089 (by decide +kernel)), (tm 1091 (by decide +kernel)), (tmp 19 (by decide +kernel)), (tm 9 (by decide +kernel)), (tm 1092 (by decide +kernel)), rfl, ⟨by decide, by decide⟩, by decide +kernel, (RX11, TX11, 27), rfl, rfl⟩
theorem w_X11_142 : WV RX11 142 10 yX11_isConflict (.code yX11_isConflict cX11_isConflict 5 (some .boolean)) 2 := ⟨(tm 1174 (by decide +kernel)), (tm 1176 (by decide +kernel)), (tmp 30 (by decide +kernel)), (tm 9 (by decide +kernel)), (tm 1177 (by decide +kernel)), rfl, ⟨by decide, by decide⟩, by decide +kernel, (RX11, TX11, 27), rfl, rfl⟩
theorem w_X11_79 : WS RX11 79 yX11_beside (.code yX11_beside cX11_beside 4 (some .int)) 2 := ⟨(tm 1105 (by decide +kernel)), (tm 1106 (by decide +kernel)), (tm 9 (by decide +kernel)), (tm 1107 (by decide +kernel)), rfl, ⟨by decide, by decide⟩, by decide +kernel⟩
