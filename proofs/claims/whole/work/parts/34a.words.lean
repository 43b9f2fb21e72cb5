section CALLSN
variable {x : Cx} {y : MethodName} {cc : ByteArray} {nL : Nat} {ret : Option FieldType} {tb : List (Nat × Nat × Nat × Nat)} {d mc ms : Nat} {pc : Nat} {ls : List (Nat × PV)} {st : List PV} {h : HP} {cl sl : Nat}
theorem CtS.met {rt : Option FieldType} {bytes : ByteArray} {maxL : Nat} {l : Launch} {dC : Nat → ClassId} {dI : Nat → Nat → Nat} {cA : Nat → ClassId} {H0 : Heap} {z : MethodName} {dz mz sz : Nat} {av : List PV} {Q : PR → HP → Prop} (hc : Ct (l, dC, dI, cA, H0) z (.code z bytes maxL rt) dz mz sz av h Q) (hst : l.stackTraces = false) (hno : ∀ E h', ¬ Q (.inr E) h') (ad : Nat → Nat) : Met l z [.code z bytes maxL rt] (rmD dz mz sz) (PcF dC dI cA H0 ad av h) (QcF dC dI cA H0 ad h Q) mz sz (AA H0) := Ct.met hc hst hno ad
/-- the words of a call of a nest mate's private static method -/
def WSN (own : String) (idx : Nat) (z : MethodName) (host : String) (cw : Cond) (n : Nat) : Prop := Cond.methodLinkNest own idx z host ∈ lw_tbl ∧ Cond.static z ∈ lw_tbl ∧ Cond.initialized z.cls ∈ lw_tbl ∧ cw ∈ lw_tbl ∧ gw cw = true ∧ (z.cls ≠ "java/lang/invoke/MethodHandle" ∧ z.cls ≠ "java/lang/invoke/VarHandle") ∧ (parseMethodDescriptor z.desc).map (fun q => q.parameters.length) = some n
theorem st_callSN (C : Fr x y cc nL ret tb d mc ms) {idx : Nat} (hd : decode cc pc = .ok (.invokestatic idx, 3)) {z : MethodName} {host : String} {bytes : ByteArray} {maxL : Nat} {rt : Option FieldType} {n dz mz sz : Nat} {Q : PR → HP → Prop} (av : List PV) (hc : Ct (gx x) z (.code z bytes maxL rt) dz mz sz av h Q) (hno : ∀ E h', ¬ Q (.inr E) h') (hw : WSN y.cls idx z host (.code z bytes maxL rt) n) (hn : av.length = n)
    (hdz : dz + 1 ≤ d) (hmL : maxL ≤ 21) (hcm : cl + mz ≤ mc) (hsm : sl + sz ≤ ms) (hcat : catS st ≤ 8) (kk : ∀ (r : PR) (h' : HP), Q r h' → Ko x pc ls st (cl + mz) (sl + sz) r h') : T x pc ls (av.reverse ++ st) h cl sl := by
  obtain ⟨p, l, e, R, s, m, args, below, meth, c, dC, dI, cA, H0, Qf, ad0, h0⟩ := x
  obtain ⟨hx, hb, hml, hret, htb, hown, hnm, hlk, hst, hdR, hlR, hcR, hsR, hS0, hTs⟩ := C
  obtain ⟨hTB, hNC, hST, hK0⟩ := id hTs
  intro ad H locs rls hS hR hE hL hK hl
  obtain ⟨w1, w2, w3, w4, w5, w6, w7⟩ := hw
  have hKa : ∀ v ∈ av, okV h v := fun v hv => hK v (List.mem_append_left _ (List.mem_reverse.mpr hv))
  have hKs : ∀ v ∈ st, okV h v := fun v hv => hK v (List.mem_append_right _ hv)
  have e1 : (av.reverse ++ st).map (mapV ad) = (av.map (mapV ad)).reverse ++ st.map (mapV ad) := by rw [List.map_append, List.map_reverse]
  rw [e1]
  refine run_go (a := (av.map (mapV ad)).toArray) (run_goM (va_runSN (Ts := []) (n := n) ⟨hx, hb, hml, hown, fun _ h9 => nomatch h9⟩ (CtS.met hc hst hno ad) ⟨⟨⟨rfl, rfl, ?_, ?_, ?_, List.mem_cons_self⟩, hTB.at w4 w5, hTB.at w3 rfl, w6, parse_n w7, hTB.at w1 rfl⟩, hTB.at w2 rfl, trivial⟩ ⟨blindPc, fun U hU hW => ⟨rfl, hTs.warm hW, by rw [hU]; exact S_nil hS, by rw [hU]; exact hR, hKa⟩⟩ rfl (by rw [List.length_map]; exact hn) (hl.1.trans hml) rfl ?_ hd ⟨Nat.le_trans hcm hcR, Nat.le_trans hsm hsR⟩)) hS hE hL hKs hl kk
  · show dz + 1 ≤ R.frames; omega
  · show 8 + (maxL + 11) + (40 * dz + 100) ≤ R.locals; omega
  · intro w hw9 a' U hW
    cases List.mem_singleton.mp hw9
    exact hTB _ w4 w5 a' U hW
  · exact lv_room (by rw [catS_map]; exact hcat)
end CALLSN

theorem fl_X8_15 : FL RX8 15 7 1 := ⟨(RX8, TX8, 2), rfl, inX8, by decide, (tm 75 (by decide +kernel))⟩
theorem fl_X8_9 : FL RX8 9 7 0 := ⟨(RX8, TX8, 2), rfl, inX8, by decide, (tm 73 (by decide +kernel))⟩
theorem fl_X9_15 : FL RX9 15 8 1 := ⟨(RX9, TX9, 4), rfl, inX9, by decide, (tm 89 (by decide +kernel))⟩
theorem fl_X9_19 : FL RX9 19 8 2 := ⟨(RX9, TX9, 4), rfl, inX9, by decide, (tm 91 (by decide +kernel))⟩
theorem fl_X9_22 : FL RX9 22 8 3 := ⟨(RX9, TX9, 4), rfl, inX9, by decide, (tm 92 (by decide +kernel))⟩
theorem fl_X9_9 : FL RX9 9 8 0 := ⟨(RX9, TX9, 4), rfl, inX9, by decide, (tm 87 (by decide +kernel))⟩
theorem fp_X8_15 : FP RX8 15 7 1 (.array .int) true := ⟨(RX8, TX8, 2), rfl, inX8, by decide, (tm 75 (by decide +kernel)), ⟨tyX8, tyX8_ok⟩, nmX8, tyX8_ok 1 (by decide), rfl, fun _ => rfl⟩
theorem fp_X8_9 : FP RX8 9 7 0 .int false := ⟨(RX8, TX8, 2), rfl, inX8, by decide, (tm 73 (by decide +kernel)), ⟨tyX8, tyX8_ok⟩, nmX8, tyX8_ok 0 (by decide), rfl, (fun h => by cases h)⟩
theorem fp_X9_15 : FP RX9 15 8 1 .int false := ⟨(RX9, TX9, 4), rfl, inX9, by decide, (tm 89 (by decide +kernel)), ⟨tyX9, tyX9_ok⟩, nmX9, tyX9_ok 1 (by decide), rfl, (fun h => by cases h)⟩
theorem fp_X9_19 : FP RX9 19 8 2 .int false := ⟨(RX9, TX9, 4), rfl, inX9, by decide, (tm 91 (by decide +kernel)), ⟨tyX9, tyX9_ok⟩, nmX9, tyX9_ok 2 (by decide), rfl, (fun h => by cases h)⟩
theorem fp_X9_22 : FP RX9 22 8 3 .int false := ⟨(RX9, TX9, 4), rfl, inX9, by decide, (tm 92 (by decide +kernel)), ⟨tyX9, tyX9_ok⟩, nmX9, tyX9_ok 3 (by decide), rfl, (fun h => by cases h)⟩
theorem fp_X9_9 : FP RX9 9 8 0 .boolean false := ⟨(RX9, TX9, 4), rfl, inX9, by decide, (tm 87 (by decide +kernel)), ⟨tyX9, tyX9_ok⟩, nmX9, tyX9_ok 0 (by decide), rfl, (fun h => by cases h)⟩
theorem gs_37 : Cond.fieldLink RX8 37 RX8 "FIRST_SLOTS" "[I" ∈ lw_tbl := (tm 294 (by decide +kernel))
theorem oi_X8_3 : Cond.methodLink RX8 3 Lib.objectInit ∈ lw_tbl := (tm 69 (by decide +kernel))
theorem oi_X9_3 : Cond.methodLink RX9 3 Lib.objectInit ∈ lw_tbl := (tm 86 (by decide +kernel))
theorem w_X10_118 : WS RX10 118 yX10_isWithin (.code yX10_isWithin cX10_isWithin 2 (some .boolean)) 2 := ⟨(tm 331 (by decide +kernel)), (tm 332 (by decide +kernel)), (tm 1 (by decide +kernel)), (tm 333 (by decide +kernel)), rfl, ⟨by decide, by decide⟩, by decide +kernel⟩
theorem w_X8_19 : WS RX8 19 yJ7_fill_53178 (.code yJ7_fill_53178 cJ7_fill_53178 4 none) 2 := ⟨(tm 70 (by decide +kernel)), (tm 71 (by decide +kernel)), (tm 4 (by decide +kernel)), (tm 72 (by decide +kernel)), rfl, ⟨by decide, by decide⟩, by decide +kernel⟩
theorem w_X8_25 : WS RX8 25 yX8_levelOf (.code yX8_levelOf cX8_levelOf 2 (some .int)) 1 := ⟨(tm 805 (by decide +kernel)), (tm 806 (by decide +kernel)), (tm 3 (by decide +kernel)), (tm 807 (by decide +kernel)), rfl, ⟨by decide, by decide⟩, by decide +kernel⟩
theorem w_X8_29 : WSN RX8 29 yX10_isLayer "CindermapStore" (.code yX10_isLayer cX10_isLayer 1 (some .boolean)) 1 := ⟨(tm 808 (by decide +kernel)), (tm 329 (by decide +kernel)), (tm 1 (by decide +kernel)), (tm 330 (by decide +kernel)), rfl, ⟨by decide, by decide⟩, by decide +kernel⟩
theorem w_X8_33 : WSN RX8 33 yX10_isWithin "CindermapStore" (.code yX10_isWithin cX10_isWithin 2 (some .boolean)) 2 := ⟨(tm 809 (by decide +kernel)), (tm 332 (by decide +kernel)), (tm 1 (by decide +kernel)), (tm 333 (by decide +kernel)), rfl, ⟨by decide, by decide⟩, by decide +kernel⟩
theorem w_X8_40 : WS RX8 40 yX8_slotOf (.code yX8_slotOf cX8_slotOf 5 (some .int)) 4 := ⟨(tm 291 (by decide +kernel)), (tm 292 (by decide +kernel)), (tm 3 (by decide +kernel)), (tm 293 (by decide +kernel)), rfl, ⟨by decide, by decide⟩, by decide +kernel⟩
theorem w_X8_44 : WS RX8 44 yX8_mostCommonArea (.code yX8_mostCommonArea cX8_mostCommonArea 9 (some .int)) 5 := ⟨(tm 300 (by decide +kernel)), (tm 301 (by decide +kernel)), (tm 3 (by decide +kernel)), (tm 302 (by decide +kernel)), rfl, ⟨by decide, by decide⟩, by decide +kernel⟩
theorem w_X8_48 : WS RX8 48 yX2_placesIn (.code yX2_placesIn cX2_placesIn 11 (some .int)) 6 := ⟨(tm 303 (by decide +kernel)), (tm 304 (by decide +kernel)), (tm 15 (by decide +kernel)), (tm 305 (by decide +kernel)), rfl, ⟨by decide, by decide⟩, by decide +kernel⟩
theorem w_X8_54 : WS RX8 54 yX2_areaAt (.code yX2_areaAt cX2_areaAt 4 (some .int)) 3 := ⟨(tm 728 (by decide +kernel)), (tm 201 (by decide +kernel)), (tm 15 (by decide +kernel)), (tm 202 (by decide +kernel)), rfl, ⟨by decide, by decide⟩, by decide +kernel⟩
theorem w_X8_58 : WV RX8 58 7 yX8_throwOutOver (.code yX8_throwOutOver cX8_throwOutOver 6 none) 3 := ⟨(tm 729 (by decide +kernel)), (tm 731 (by decide +kernel)), (tmp 15 (by decide +kernel)), (tm 3 (by decide +kernel)), (tm 732 (by decide +kernel)), rfl, ⟨by decide, by decide⟩, by decide +kernel, (RX8, TX8, 2), rfl, rfl⟩
theorem w_X8_62 : WV RX8 62 7 yX8_areRightOn (.code yX8_areRightOn cX8_areRightOn 8 (some .boolean)) 3 := ⟨(tm 287 (by decide +kernel)), (tm 289 (by decide +kernel)), (tmp 6 (by decide +kernel)), (tm 3 (by decide +kernel)), (tm 290 (by decide +kernel)), rfl, ⟨by decide, by decide⟩, by decide +kernel, (RX8, TX8, 2), rfl, rfl⟩
theorem w_X8_66 : WV RX8 66 7 yX8_holds (.code yX8_holds cX8_holds 6 (some .boolean)) 4 := ⟨(tm 296 (by decide +kernel)), (tm 297 (by decide +kernel)), (tm 298 (by decide +kernel)), (tm 3 (by decide +kernel)), (tm 299 (by decide +kernel)), rfl, ⟨by decide, by decide⟩, by decide +kernel, (RX8, TX8, 2), rfl, rfl⟩
theorem w_X9_25 : WS RX9 25 yX2_areaAt (.code yX2_areaAt cX2_areaAt 4 (some .int)) 3 := ⟨(tm 200 (by decide +kernel)), (tm 201 (by decide +kernel)), (tm 15 (by decide +kernel)), (tm 202 (by decide +kernel)), rfl, ⟨by decide, by decide⟩, by decide +kernel⟩
