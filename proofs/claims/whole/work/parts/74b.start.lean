/-! the start: what the tables say, the two new ones -/
theorem ka_prim {s : State} {args : Array Value} {ty : FieldType} (h : (Cond.arrayClass ty).before args s = true) (hne : ∀ C, ty ≠ .object C) : ∃ cA, ArrOfT s cA ty ∧ va_RA s cA ty := by
  obtain ⟨cA, kA, comp, h1, h2, h3⟩ := Cond.arrayClass_spec h
  refine ⟨cA, fun n z => ⟨fun k h => (by cases h), kA, h2, comp, h3⟩, ?_⟩
  cases ty with
  | object C => exact absurd rfl (hne C)
  | _ => exact h1
theorem ka_obj {s : State} {args : Array Value} {C : String} (h : (Cond.arrayOver (.object C)).before args s = true) : ∃ cA, ArrOfT s cA (.object C) ∧ va_RA s cA (.object C) := by
  obtain ⟨comp, cA, kA, h1, h2, h3, h4, h5⟩ := Cond.arrayOver_spec h
  exact ⟨cA, fun n z => ⟨fun k h => (by cases h), kA, h3, comp, h4⟩, kA, comp, h3, h4, h1, h5⟩
theorem ncs_at {s : State} {args : Array Value} (hgv : (Jvm.Cond.and given_1 narrow_1).before args s = true) : NCs s := by
  have hs := flat_of_before _ hgv
  exact List.forall_mem_cons.mpr ⟨va_Nc.of (C := xUOE) (T := xIAE) (hs _ (by decide +kernel)), List.forall_mem_cons.mpr ⟨va_Nc.of (C := xISE) (T := xIAE) (hs _ (by decide +kernel)), List.forall_mem_cons.mpr ⟨va_Nc.of (C := xISE) (T := xUOE) (hs _ (by decide +kernel)), List.forall_mem_cons.mpr ⟨va_Nc.of (C := xIAE) (T := xIOB) (hs _ (by decide +kernel)), List.forall_mem_cons.mpr ⟨va_Nc.of (C := xNSE) (T := xIOB) (hs _ (by decide +kernel)), List.forall_mem_cons.mpr ⟨va_Nc.of (C := xUOE) (T := xIOB) (hs _ (by decide +kernel)), List.forall_mem_cons.mpr ⟨va_Nc.of (C := xUOE) (T := xIAE) (hs _ (by decide +kernel)), List.forall_mem_cons.mpr ⟨va_Nc.of (C := xISE) (T := xIOB) (hs _ (by decide +kernel)), List.forall_mem_cons.mpr ⟨va_Nc.of (C := xUOE) (T := xNSE) (hs _ (by decide +kernel)), List.forall_mem_cons.mpr ⟨va_Nc.of (C := xISE) (T := xNSE) (hs _ (by decide +kernel)), List.forall_mem_cons.mpr ⟨va_Nc.of (C := xISE) (T := xUOE) (hs _ (by decide +kernel)), List.forall_mem_cons.mpr ⟨va_Nc.of (C := xNSE) (T := xIAE) (hs _ (by decide +kernel)), List.forall_mem_cons.mpr ⟨va_Nc.of (C := xNSE) (T := xISE) (hs _ (by decide +kernel)), List.forall_mem_cons.mpr ⟨va_Nc.of (C := xARE) (T := xIAE) (hs _ (by decide +kernel)), fun _ h => absurd h List.not_mem_nil⟩⟩⟩⟩⟩⟩⟩⟩⟩⟩⟩⟩⟩⟩
theorem st_at {s : State} {args : Array Value} (hts : ∀ w ∈ lw_tbl, w.before args s = true) (hgv : (Jvm.Cond.and given_1 narrow_1).before args s = true) : ST s.heap s := by
  have hs := flat_of_before _ hgv
  have hA : ∀ a : Nat, a < s.heap.size → ¬ AA s.heap a := fun a h q => absurd q (Nat.not_le.mpr h)
  refine ⟨vx_Zqof (hts _ (tm 364 (by decide +kernel))) (hts _ (tm 11 (by decide +kernel))) (hs _ (by decide +kernel)) hA, vx_Zqof (hts _ (tm 366 (by decide +kernel))) (hts _ (tm 11 (by decide +kernel))) (hs _ (by decide +kernel)) hA, ?_⟩
  have a0 : (Cond.arrayOf (Jvm.Term.static "CindermapStore$Tiles" "FIRST_SLOTS" "[I") .int).before args s = true := hs _ (by decide +kernel)
  have a1 : (Cond.eq (.length (Jvm.Term.static "CindermapStore$Tiles" "FIRST_SLOTS" "[I")) (.int 4)).before args s = true := hs _ (by decide +kernel)
  have b0 : (Cond.eq (.elem (Jvm.Term.static "CindermapStore$Tiles" "FIRST_SLOTS" "[I") (.int 0)) (.int 0)).before args s = true := hs _ (by decide +kernel)
  have b1 : (Cond.eq (.elem (Jvm.Term.static "CindermapStore$Tiles" "FIRST_SLOTS" "[I") (.int 1)) (.int 64)).before args s = true := hs _ (by decide +kernel)
  have b2 : (Cond.eq (.elem (Jvm.Term.static "CindermapStore$Tiles" "FIRST_SLOTS" "[I") (.int 2)) (.int 80)).before args s = true := hs _ (by decide +kernel)
  have b3 : (Cond.eq (.elem (Jvm.Term.static "CindermapStore$Tiles" "FIRST_SLOTS" "[I") (.int 3)) (.int 84)).before args s = true := hs _ (by decide +kernel)
  obtain ⟨t, h1, h2⟩ := va_Tof (A := AA s.heap) (N := 4) (f := fun j => .int (Int32.ofInt (fsV j))) (by decide) a0 (va_eqt a1) (fun j hj => by
    rcases (show j = 0 ∨ j = 1 ∨ j = 2 ∨ j = 3 by omega) with rfl | rfl | rfl | rfl
    · exact (va_eqt b0).trans (congrArg (fun z => some (Value.int z)) (by decide : (0 : Int32) = Int32.ofInt (fsV 0)))
    · exact (va_eqt b1).trans (congrArg (fun z => some (Value.int z)) (by decide : (64 : Int32) = Int32.ofInt (fsV 1)))
    · exact (va_eqt b2).trans (congrArg (fun z => some (Value.int z)) (by decide : (80 : Int32) = Int32.ofInt (fsV 2)))
    · exact (va_eqt b3).trans (congrArg (fun z => some (Value.int z)) (by decide : (84 : Int32) = Int32.ofInt (fsV 3)))) hA
  exact ⟨t, va_Zof (hts _ (tm 295 (by decide +kernel))) (hts _ (tm 3 (by decide +kernel))) h1 hA, h2⟩
set_option maxHeartbeats 4000000 in
theorem tabs_at {s : State} {args : Array Value} (hts : ∀ w ∈ lw_tbl, w.before args s = true) (hgv : (Jvm.Cond.and given_1 narrow_1).before args s = true) : ∃ (dC : Nat → ClassId) (dI : Nat → Nat → Nat) (cA : Nat → ClassId), Tabs dC dI cA s.heap s := by
  obtain ⟨c0, i0, K0⟩ := u_known (C := RX0) (T := TX0) (N := 5) (n := 5) hts inX0 (hts (.instantiable RX0 5) (tm 125 (by decide +kernel)))
  obtain ⟨c1, i1, K1⟩ := u_known (C := RX1) (T := TX1) (N := 5) (n := 5) hts inX1 (hts (.instantiable RX1 5) (tm 878 (by decide +kernel)))
  obtain ⟨c2, i2, K2⟩ := u_known (C := RX3) (T := TX3) (N := 4) (n := 4) hts inX3 (hts (.instantiable RX3 4) (tm 42 (by decide +kernel)))
  obtain ⟨c3, i3, K3⟩ := u_known (C := RX4) (T := TX4) (N := 1) (n := 1) hts inX4 (hts (.instantiable RX4 1) (tm 116 (by decide +kernel)))
  obtain ⟨c4, i4, K4⟩ := u_known (C := RX5) (T := TX5) (N := 3) (n := 3) hts inX5 (hts (.instantiable RX5 3) (tm 405 (by decide +kernel)))
  obtain ⟨c5, i5, K5⟩ := u_known (C := RX6) (T := TX6) (N := 2) (n := 2) hts inX6 (hts (.instantiable RX6 2) (tm 103 (by decide +kernel)))
  obtain ⟨c6, i6, K6⟩ := u_known (C := RX7) (T := TX7) (N := 1) (n := 1) hts inX7 (hts (.instantiable RX7 1) (tm 714 (by decide +kernel)))
  obtain ⟨c7, i7, K7⟩ := u_known (C := RX8) (T := TX8) (N := 2) (n := 2) hts inX8 (hts (.instantiable RX8 2) (tm 65 (by decide +kernel)))
  obtain ⟨c8, i8, K8⟩ := u_known (C := RX9) (T := TX9) (N := 4) (n := 4) hts inX9 (hts (.instantiable RX9 4) (tm 82 (by decide +kernel)))
  obtain ⟨c9, i9, K9⟩ := u_known (C := RX10) (T := TX10) (N := 12) (n := 12) hts inX10 (hts (.instantiable RX10 12) (tm 28 (by decide +kernel)))
  obtain ⟨c10, i10, K10⟩ := u_known (C := RX11) (T := TX11) (N := 27) (n := 27) hts inX11 (hts (.instantiable RX11 27) (tm 979 (by decide +kernel)))
  obtain ⟨a0, A0⟩ := ka_prim (ty := .int) (hts _ (tm 63 (by decide +kernel))) (fun C q => by cases q)
  obtain ⟨a1, A1⟩ := ka_prim (ty := .boolean) (hts _ (tm 1066 (by decide +kernel))) (fun C q => by cases q)
  obtain ⟨a2, A2⟩ := ka_prim (ty := .long) (hts _ (tm 1347 (by decide +kernel))) (fun C q => by cases q)
  obtain ⟨a3, A3⟩ := ka_prim (ty := .double) (hts _ (tm 1348 (by decide +kernel))) (fun C q => by cases q)
  obtain ⟨a4, A4⟩ := ka_obj (C := RX5) (hts _ (tm 36 (by decide +kernel)))
  obtain ⟨a5, A5⟩ := ka_obj (C := RX0) (hts _ (tm 38 (by decide +kernel)))
  obtain ⟨a6, A6⟩ := ka_obj (C := RX1) (hts _ (tm 40 (by decide +kernel)))
  obtain ⟨a7, A7⟩ := ka_obj (C := RX7) (hts _ (tm 48 (by decide +kernel)))
  refine ⟨fun k => if k = 0 then c0 else if k = 1 then c1 else if k = 2 then c2 else if k = 3 then c3 else if k = 4 then c4 else if k = 5 then c5 else if k = 6 then c6 else if k = 7 then c7 else if k = 8 then c8 else if k = 9 then c9 else c10, fun k => if k = 0 then i0 else if k = 1 then i1 else if k = 2 then i2 else if k = 3 then i3 else if k = 4 then i4 else if k = 5 then i5 else if k = 6 then i6 else if k = 7 then i7 else if k = 8 then i8 else if k = 9 then i9 else i10, fun k => if k = 0 then a0 else if k = 1 then a1 else if k = 2 then a2 else if k = 3 then a3 else if k = 4 then a4 else if k = 5 then a5 else if k = 6 then a6 else a7, TB.of hts, ncs_at hgv, st_at hts hgv, ?_, ?_⟩
  · intro k q hq
    by_cases hk : k < 11
    · rcases (show k = 0 ∨ k = 1 ∨ k = 2 ∨ k = 3 ∨ k = 4 ∨ k = 5 ∨ k = 6 ∨ k = 7 ∨ k = 8 ∨ k = 9 ∨ k = 10 by omega) with rfl | rfl | rfl | rfl | rfl | rfl | rfl | rfl | rfl | rfl | rfl
      · obtain rfl : (RX0, TX0, 5) = q := Option.some.inj hq
        exact K0
      · obtain rfl : (RX1, TX1, 5) = q := Option.some.inj hq
        exact K1
      · obtain rfl : (RX3, TX3, 4) = q := Option.some.inj hq
        exact K2
      · obtain rfl : (RX4, TX4, 1) = q := Option.some.inj hq
        exact K3
      · obtain rfl : (RX5, TX5, 3) = q := Option.some.inj hq
        exact K4
      · obtain rfl : (RX6, TX6, 2) = q := Option.some.inj hq
        exact K5
      · obtain rfl : (RX7, TX7, 1) = q := Option.some.inj hq
        exact K6
      · obtain rfl : (RX8, TX8, 2) = q := Option.some.inj hq
        exact K7
      · obtain rfl : (RX9, TX9, 4) = q := Option.some.inj hq
        exact K8
      · obtain rfl : (RX10, TX10, 12) = q := Option.some.inj hq
        exact K9
      · obtain rfl : (RX11, TX11, 27) = q := Option.some.inj hq
        exact K10
    · have hz : k < 11 := (List.getElem?_eq_some_iff.mp hq).1
      exact absurd hz hk
  · intro k q hq
    by_cases hk : k < 8
    · rcases (show k = 0 ∨ k = 1 ∨ k = 2 ∨ k = 3 ∨ k = 4 ∨ k = 5 ∨ k = 6 ∨ k = 7 by omega) with rfl | rfl | rfl | rfl | rfl | rfl | rfl | rfl
      · obtain rfl : (a0, FieldType.int) = q := Option.some.inj hq
        exact A0
      · obtain rfl : (a1, FieldType.boolean) = q := Option.some.inj hq
        exact A1
      · obtain rfl : (a2, FieldType.long) = q := Option.some.inj hq
        exact A2
      · obtain rfl : (a3, FieldType.double) = q := Option.some.inj hq
        exact A3
      · obtain rfl : (a4, FieldType.object RX5) = q := Option.some.inj hq
        exact A4
      · obtain rfl : (a5, FieldType.object RX0) = q := Option.some.inj hq
        exact A5
      · obtain rfl : (a6, FieldType.object RX1) = q := Option.some.inj hq
        exact A6
      · obtain rfl : (a7, FieldType.object RX7) = q := Option.some.inj hq
        exact A7
    · have hz : k < 8 := (List.getElem?_eq_some_iff.mp hq).1
      exact absurd hz hk
section LS
variable {x : Cx} {bL : Nat} {nm ds : String} {ret : Option FieldType} {tb : List (Nat × Nat × Nat × Nat)}
set_option maxHeartbeats 4000000 in
theorem law_start (C : Fr x ⟨RL, nm, ds⟩ cL_law 9 ret tb 10 603072 7190634) {L : Nat} {xs : Nat → Int32} (hX : Scr x bL L xs) (hL : L ≤ 3584) (hend : ∀ (i : Int) (h : HP), TL x bL 2438 (lsL i) [] h 603072 7190634) : TL x bL 0 [] [] (fun _ => none) 0 0 := by
  refine tl_new C dL_law_0 0 nw_L_8 rfl (Nat.le_of_ble_eq_true rfl) (Nat.le_of_ble_eq_true rfl) ?_
  show TL x bL 3 [] [vR 0] h1S 1 12
  refine tl_dup C dL_law_3 rfl ?_
  show TL x bL 4 [] (([] : List PV).reverse ++ vR 0 :: [vR 0]) h1S 1 12
  refine tl_callI C dL_law_4 [] (k_Store (g := gx x) (h := h1S) hput_s (fun j j1 _ => h1S_n j1)) (fun E h' q => nomatch q.1) w_L_124 rfl (by decide) (by decide) (Nat.le_of_ble_eq_true rfl) (Nat.le_of_ble_eq_true rfl) (Nat.le_of_ble_eq_true rfl) (fun r h' hq => ?_)
  obtain ⟨rfl, hq⟩ := hq
  subst h'
  show TL x bL 7 [] [vR 0] (iniH h1S) 41 6112
  refine tl_astore_n C 1 dL_law_7 rfl (by decide) (by decide) rfl ?_
  show TL x bL 8 [(1, vR 0)] [] (iniH h1S) 41 6112
  refine tl_new C dL_law_8 200 nw_L_125 ((iniH_o (by decide)).trans (h1S_n (by decide))) (Nat.le_of_ble_eq_true rfl) (Nat.le_of_ble_eq_true rfl) ?_
  show TL x bL 11 [(1, vR 0)] [vR 200] h2S 42 6139
  refine tl_dup C dL_law_11 rfl ?_
  show TL x bL 12 [(1, vR 0)] (([] : List PV).reverse ++ vR 200 :: [vR 200]) h2S 42 6139
  refine tl_callI C dL_law_12 [] (k_Model (g := gx x) (h := h2S) hput_s h2S_f) (fun E h' q => nomatch q.1) w_L_127 rfl (by decide) (by decide) (Nat.le_of_ble_eq_true rfl) (Nat.le_of_ble_eq_true rfl) (Nat.le_of_ble_eq_true rfl) (fun r h' hq => ?_)
  obtain ⟨rfl, hq⟩ := hq
  subst h'
  show TL x bL 15 [(1, vR 0)] [vR 200] h3S 60 25139
  refine tl_astore_n C 2 dL_law_15 rfl (by decide) (by decide) rfl ?_
  show TL x bL 16 [(1, vR 0), (2, vR 200)] [] h3S 60 25139
  refine tl_iconst C dL_law_16 (by decide) ?_
  refine tl_newJ C 1 dL_law_17 300 rfl (by decide) ac_J9 (h3S_n (by decide)) (Nat.le_of_ble_eq_true rfl) (Nat.le_of_ble_eq_true rfl) ?_
  show TL x bL 19 [(1, vR 0), (2, vR 200)] [vR 300] (hput h3S 300 (oJ 1 (fun _ => 0))) 61 25140
  refine tl_astore_n C 3 dL_law_19 rfl (by decide) (by decide) rfl ?_
  show TL x bL 20 [(1, vR 0), (2, vR 200), (3, vR 300)] [] (hput h3S 300 (oJ 1 (fun _ => 0))) 61 25140
  refine tl_iconst C dL_law_20 (by decide) ?_
  refine tl_newD C 1 dL_law_21 301 rfl (by decide) ac_D9 (hput_o (by decide) (h3S_n (by decide))) (Nat.le_of_ble_eq_true rfl) (Nat.le_of_ble_eq_true rfl) ?_
  show TL x bL 23 [(1, vR 0), (2, vR 200), (3, vR 300)] [vR 301] h4S 62 25141
  refine tl_astore C dL_law_23 (by decide) (by decide) rfl ?_
  show TL x bL 25 [(1, vR 0), (2, vR 200), (3, vR 300), (4, vR 301)] [] h4S 62 25141
  refine tl_iconst C dL_law_25 (by decide) ?_
  refine tl_istore C dL_law_26 (by decide) (by decide) rfl ?_
  show TL x bL 28 (lsL 0) [] h4S 62 25141
  exact law_loop C hX hL hend 513 (N := 0) (by omega) ⟨by decide, by decide⟩ (by decide) h4S_J (Nat.le_of_ble_eq_true rfl) (Nat.le_of_ble_eq_true rfl)
end LS
