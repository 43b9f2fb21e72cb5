/-! the reference's tiles, walk and shapes -/
def msz (d : Int) : Int := if d = 0 then 1 else if d = 1 then 2 else if d = 2 then 4 else 8
theorem msz_in {d : Int} : 1 ≤ msz d ∧ msz d ≤ 8 := by unfold msz; repeat (first | omega | split)
theorem dv_in {a m : Int} (h : 0 ≤ a ∧ a ≤ 7) (hm : 1 ≤ m) : 0 ≤ a / m ∧ a / m ≤ 7 := by
  have h1 : 0 ≤ a / m := Int.ediv_nonneg h.1 (by omega)
  have h2 : a / m ≤ a := Int.ediv_le_self m h.1
  omega
def mtix (s d : Int) : Int := 192 * d + 64 * (s / 64) + 8 * (s % 64 / 8 / msz d) + s % 8 / msz d
def mth4 (t : Int → Int) (s : Int) : Nat → Int → Int
  | 0 => t
  | n + 1 => fput (mth4 t s n) (mtix s (n : Int)) (-1)
theorem mth4_s {t : Int → Int} {s d : Int} (h : 0 ≤ d) : fput (mth4 t s d.toNat) (mtix s d) (-1) = mth4 t s (d + 1).toNat := by
  rw [toNat_s h]
  show _ = fput (mth4 t s d.toNat) (mtix s (d.toNat : Int)) (-1)
  rw [Int.toNat_of_nonneg h]
/-- the tiles after the first n places of the rows -/
def mthU (t mw mn : Int → Int) : Nat → Int → Int
  | 0 => t
  | n + 1 => if mw (n : Int) ≠ mn (n : Int) then mth4 (mthU t mw mn n) (n : Int) 4 else mthU t mw mn n
theorem mthU_t {t mw mn : Int → Int} {i d : Int} (h : 0 ≤ i) (hd : d = 4) (hq : mw i ≠ mn i) : mth4 (mthU t mw mn i.toNat) i d.toNat = mthU t mw mn (i + 1).toNat := by
  subst hd
  rw [toNat_s h]
  show _ = if mw (i.toNat : Int) ≠ mn (i.toNat : Int) then mth4 (mthU t mw mn i.toNat) (i.toNat : Int) 4 else mthU t mw mn i.toNat
  rw [Int.toNat_of_nonneg h, if_pos hq]; rfl
theorem mthU_f {t mw mn : Int → Int} {i d : Int} (h : 0 ≤ i) (hd : d = 0) (hq : mw i = mn i) : mth4 (mthU t mw mn i.toNat) i d.toNat = mthU t mw mn (i + 1).toNat := by
  subst hd
  rw [toNat_s h]
  show _ = if mw (i.toNat : Int) ≠ mn (i.toNat : Int) then mth4 (mthU t mw mn i.toNat) (i.toNat : Int) 4 else mthU t mw mn i.toNat
  rw [Int.toNat_of_nonneg h, if_neg (fun z => z hq)]; rfl
/-- a row put into the maps, from b on, its first i -/
def mcpy (mm mw : Int → Int) (b i : Int) : Int → Int := fun j => if b ≤ j ∧ j < b + i then mw (j - b) else mm j
theorem mcpy_0 {mm mw : Int → Int} {b : Int} : mcpy mm mw b 0 = mm := by
  funext j; unfold mcpy; rw [if_neg (by omega)]
theorem mcpy_s {mm mw : Int → Int} {b i : Int} (h : 0 ≤ i) : fput (mcpy mm mw b i) (b + i) (mw i) = mcpy mm mw b (i + 1) := by
  funext j
  unfold fput mcpy
  by_cases e : j = b + i
  · rw [if_pos e, if_pos (by omega), e, show b + i - b = i by omega]
  · rw [if_neg e]
    by_cases q : b ≤ j ∧ j < b + i
    · rw [if_pos q, if_pos (by omega)]
    · rw [if_neg q, if_neg (by omega)]
/-- how often each area was met, of the first i places -/
noncomputable def cnF (W f : Int → Int) (i : Int) : Int → Int := fun a => if 0 ≤ a ∧ a < 10 then cnt (fun k => W k = a) i else f a
theorem cnF_0 {W f : Int → Int} : fmix (fun _ => 0) f 10 = cnF W f 0 := by
  funext a; unfold cnF fmix; rfl
theorem cnF_s {W f : Int → Int} {i : Int} (h : 0 ≤ i) (hw : 0 ≤ W i ∧ W i ≤ 9) : fput (cnF W f i) (W i) (cnF W f i (W i) + 1) = cnF W f (i + 1) := by
  funext a
  unfold fput
  by_cases e : a = W i
  · rw [if_pos e]; unfold cnF; rw [if_pos (by omega), if_pos (by omega)]; exact cnt_t h e.symm (by rw [e])
  · rw [if_neg e]; unfold cnF
    by_cases q : 0 ≤ a ∧ a < 10
    · rw [if_pos q, if_pos q]; exact cnt_f h (fun z => e z.symm) rfl
    · rw [if_neg q, if_neg q]
theorem cnF_at {W f : Int → Int} {i a : Int} (h : 0 ≤ a ∧ a ≤ 9) : cnF W f i a = cnt (fun k => W k = a) i := by unfold cnF; rw [if_pos (by omega)]
/-- the best so far, by mcb -/
def McI (F : Int → Int) (i c : Int) : Prop := (0 ≤ c ∧ c < i) ∧ c = (mcb F i.toNat).1 ∧ F c = (mcb F i.toNat).2
theorem McI_1 {F : Int → Int} (h : 0 ≤ F 0) : McI F 1 0 := by
  refine ⟨by omega, ?_, ?_⟩
  · show (0 : Int) = (if (0 : Int) < F 0 then ((0 : Int), F 0) else (0, 0)).1
    split <;> rfl
  · show F 0 = (if (0 : Int) < F 0 then ((0 : Int), F 0) else (0, 0)).2
    split
    · rfl
    · show F 0 = 0; omega
theorem McI_t {F : Int → Int} {i c : Int} (hi : 0 ≤ i) (h : McI F i c) (hc : F c < F i) : McI F (i + 1) i := by
  obtain ⟨h1, h2, h3⟩ := h
  refine ⟨by omega, ?_, ?_⟩ <;> rw [mcb_s hi, if_pos (by rw [← h3]; exact hc)]
theorem McI_f {F : Int → Int} {i c : Int} (hi : 0 ≤ i) (h : McI F i c) (hc : F i ≤ F c) : McI F (i + 1) c := by
  obtain ⟨h1, h2, h3⟩ := h
  have q : ¬ (mcb F i.toNat).2 < F i := by rw [← h3]; omega
  refine ⟨by omega, ?_, ?_⟩ <;> rw [mcb_s hi, if_neg q]
  · exact h2
  · exact h3
theorem McI_e {F : Int → Int} {i c : Int} (h : McI F i c) (hi : i = 10) : c = (mcb F 10).1 := by subst hi; exact h.2.1
theorem next_t {P : Int → Prop} {i c : Int} (h0 : i ≤ 63) (hp : P i) : IsNext P i i := Or.inl ⟨Int.le_refl _, by omega, hp, fun j h1 h2 => absurd h2 (by omega)⟩
theorem next_f {P : Int → Prop} {i c : Int} (h : IsNext P (i + 1) c) (hp : ¬ P i) : IsNext P i c := by
  rcases h with ⟨h1, h2, h3, h4⟩ | ⟨h1, h2⟩
  · refine Or.inl ⟨by omega, h2, h3, fun j j1 j2 => ?_⟩
    by_cases e : j = i
    · rw [e]; exact hp
    · exact h4 j (by omega) j2
  · refine Or.inr ⟨h1, fun j j1 j2 => ?_⟩
    by_cases e : j = i
    · rw [e]; exact hp
    · exact h2 j (by omega) j2
theorem next_u {P : Int → Prop} {i c r : Int} (hi : 0 ≤ i) (h : IsNext P i c) (hr : IsNext P i r) : c = r := by
  rcases h with ⟨h1, h2, h3, h4⟩ | ⟨h1, h2⟩ <;> rcases hr with ⟨g1, g2, g3, g4⟩ | ⟨g1, g2⟩
  · rcases Int.lt_trichotomy c r with q | q | q
    · exact absurd h3 (g4 c h1 q)
    · exact q
    · exact absurd g3 (h4 r g1 q)
  · exact absurd h3 (g2 c h1 h2)
  · exact absurd g3 (h2 r g1 g2)
  · omega
theorem McI_t2 {F : Int → Int} {i c x y : Int} (hi : 0 ≤ i) (h : McI F i c) (q4 : x = F c) (q5 : y = F i) (hc : x < y) : McI F (i + 1) i := McI_t hi h (by rw [← q4, ← q5]; exact hc)
theorem McI_f2 {F : Int → Int} {i c x y : Int} (hi : 0 ≤ i) (h : McI F i c) (q4 : x = F c) (q5 : y = F i) (hc : y ≤ x) : McI F (i + 1) c := McI_f hi h (by rw [← q4, ← q5]; exact hc)

/-- the answer; the row of counts anyhow -/
def RtC (v : Option PV) (h : HP) : PR → HP → Prop := fun r h' => ∃ f : Int → Int, r = .inl v ∧ h' = hput h 218 (oI 10 f)
section KOC
variable {x : Cx} {pc : Nat} {ls : List (Nat × PV)} {st : List PV} {h h0 : HP} {cl sl : Nat}
theorem ko_rc {v : PV} (k : ∀ f : Int → Int, T x (pc + 3) ls (v :: st) (hput h0 218 (oI 10 f)) cl sl) : ∀ r h', RtC (some v) h0 r h' → Ko x pc ls st cl sl r h' := by
  rintro r h' ⟨f, rfl, rfl⟩
  exact k f
end KOC
theorem rc_i {h h0 : HP} {a b : Int} {f : Int → Int} (e : a = b) (eh : h = hput h0 218 (oI 10 f)) : RtC (some (vI b)) h0 (.inl (some (vI a))) h := by
  subst e; exact ⟨f, rfl, eh⟩
theorem k_msz0 {g : Gx} {h : HP} : Ct g yX11_size (.code yX11_size cX11_size 1 (some .int)) 1 0 0 [vI 0] h (Rt (some (vI 1)) h) := k_msz (d := 0) (by omega)
theorem k_msz1 {g : Gx} {h : HP} : Ct g yX11_size (.code yX11_size cX11_size 1 (some .int)) 1 0 0 [vI 1] h (Rt (some (vI 2)) h) := k_msz (d := 1) (by omega)
theorem k_msz2 {g : Gx} {h : HP} : Ct g yX11_size (.code yX11_size cX11_size 1 (some .int)) 1 0 0 [vI 2] h (Rt (some (vI 4)) h) := k_msz (d := 2) (by omega)
theorem k_msz3 {g : Gx} {h : HP} : Ct g yX11_size (.code yX11_size cX11_size 1 (some .int)) 1 0 0 [vI 3] h (Rt (some (vI 8)) h) := k_msz (d := 3) (by omega)
theorem k_depth1 {g : Gx} {h : HP} : Ct g yX11_depth (.code yX11_depth cX11_depth 1 (some .int)) 1 0 0 [vI 1] h (Rt (some (vI 0)) h) := k_depth (s9 := 1)
theorem k_depth2 {g : Gx} {h : HP} : Ct g yX11_depth (.code yX11_depth cX11_depth 1 (some .int)) 1 0 0 [vI 2] h (Rt (some (vI 1)) h) := k_depth (s9 := 2)
theorem k_depth4 {g : Gx} {h : HP} : Ct g yX11_depth (.code yX11_depth cX11_depth 1 (some .int)) 1 0 0 [vI 4] h (Rt (some (vI 2)) h) := k_depth (s9 := 4)
theorem k_depth8 {g : Gx} {h : HP} : Ct g yX11_depth (.code yX11_depth cX11_depth 1 (some .int)) 1 0 0 [vI 8] h (Rt (some (vI 3)) h) := k_depth (s9 := 8)
set_option maxRecDepth 20000 in
set_option maxHeartbeats 4000000 in
theorem k_become {g : Gx} {h : HP} {mv mrc mmc mmk mdv mwl mwa mwp mth : Int} {mm : Int → Int} {mt mw : Int → Int} (hm : mO h mv mrc mmc mmk mdv mwl mwa mwp mth) (hmm : h 201 = some (oI 12464 mm)) (hv : 0 ≤ mv ∧ mv ≤ 39) (h202 : h 202 = some (oI 304 mw)) (h212 : h 212 = some (oI 768 mt)) : Ct g yX11_become (.code yX11_become cX11_become 4 none) 2 0 0 [vR 200] h (Rt none (hput (hput (hput h 212 (oI 768 (mthU mt mw (fun s => mm (304 * mv + s)) 192))) 200 (oO 10 [vR 201, vR 202, vR 203, vR 204, vR 205, vR 206, vR 207, vR 208, vR 209, vR 210, vR 211, vR 212, vR 213, vR 214, vR 215, vR 216, vR 217, vR 218, vI (mv + 1), vI mrc, vI mmc, vI mmk, vI mdv, vI mwl, vI mwa, vI mwp, vI mth])) 201 (oI 12464 (mcpy mm mw (304 * (mv + 1)) 304)))) := by
  refine Ct.of (by decide) (Nat.le_of_ble_eq_true rfl) (fun x hg C F => ?_)
  subst hg
  have hv40 : 0 ≤ mv ∧ mv ≤ 40 := by omega
  show T x 0 [(0, vR 200)] [] h 0 0
  refine st_iconst C dX11_become_0 (by decide) ?_
  refine st_istore_n C 1 dX11_become_1 rfl (by decide) rfl ?_
  show T x 2 [(0, vR 200), (1, vI 0)] [] _ _ _
  have loop_2 : ∀ (n_2 : Nat) (i : Int) (h1 : HP), (0 ≤ i) → (i ≤ 192) → (h1 = hput h 212 (oI 768 (mthU mt mw (fun s => mm (304 * mv + s)) i.toNat))) → (192 - i).toNat < n_2 → T x 2 [(0, vR 200), (1, vI i)] [] h1 0 0 := by
    intro n_2
    induction n_2 with
    | zero => intro i h1 g1 g2 hh hm_2; exact absurd hm_2 (Nat.not_lt_zero _)
    | succ n_2 ih_2 =>
      intro i h1 g1 g2 hh hm_2
      refine st_iload_n C 1 dX11_become_2 rfl rfl ?_
      refine st_sipush C dX11_become_3 (by decide) (by decide) ?_
      refine st_icmp_ge (tgt := 89) C dX11_become_6 (by decide) (fun c_6 => ?_) (fun c_6 => ?_)
      · refine st_aload_n C 0 dX11_become_89 rfl rfl ?_
        refine st_dup C dX11_become_90 rfl ?_
        refine st_getf C dX11_become_91 fl_X11_72 (by rw [hh]; exact hput_o (by decide) hm) rfl ?_
        refine st_iconst C dX11_become_94 (by decide) ?_
        refine st_iadd C dX11_become_95 ⟨(by omega), (by omega)⟩ ?_
        refine st_putf C dX11_become_96 fp_X11_72 (fun q => by cases q) (by rw [hh]; exact hput_o (by decide) hm) (Nat.le_of_ble_eq_true rfl) fit_int ?_
        show T x 99 [(0, vR 200), (1, vI i)] [] (hput h1 200 (oO 10 [vR 201, vR 202, vR 203, vR 204, vR 205, vR 206, vR 207, vR 208, vR 209, vR 210, vR 211, vR 212, vR 213, vR 214, vR 215, vR 216, vR 217, vR 218, vI (mv + 1), vI mrc, vI mmc, vI mmk, vI mdv, vI mwl, vI mwa, vI mwp, vI mth])) _ _
        refine st_iconst C dX11_become_99 (by decide) ?_
        refine st_istore_n C 1 dX11_become_100 rfl (by decide) rfl ?_
        show T x 101 [(0, vR 200), (1, vI 0)] [] _ _ _
        have loop_101 : ∀ (n_101 : Nat) (j : Int) (h3 : HP), (0 ≤ j) → (j ≤ 304) → (h3 = hput (hput (hput h 212 (oI 768 (mthU mt mw (fun s => mm (304 * mv + s)) 192))) 200 (oO 10 [vR 201, vR 202, vR 203, vR 204, vR 205, vR 206, vR 207, vR 208, vR 209, vR 210, vR 211, vR 212, vR 213, vR 214, vR 215, vR 216, vR 217, vR 218, vI (mv + 1), vI mrc, vI mmc, vI mmk, vI mdv, vI mwl, vI mwa, vI mwp, vI mth])) 201 (oI 12464 (mcpy mm mw (304 * (mv + 1)) j))) → (304 - j).toNat < n_101 → T x 101 [(0, vR 200), (1, vI j)] [] h3 0 0 := by
          intro n_101
          induction n_101 with
          | zero => intro j h3 g7 g8 hh3 hm_101; exact absurd hm_101 (Nat.not_lt_zero _)
          | succ n_101 ih_101 =>
            intro j h3 g7 g8 hh3 hm_101
            refine st_iload_n C 1 dX11_become_101 rfl rfl ?_
            refine st_sipush C dX11_become_102 (by decide) (by decide) ?_
            refine st_icmp_ge (tgt := 135) C dX11_become_105 (by decide) (fun c_105 => ?_) (fun c_105 => ?_)
            · exact st_return C F dX11_become_135 rfl (rt_n (by rw [hh3, show j = 304 by omega])) (by omega) (by omega)
            · refine st_aload_n C 0 dX11_become_108 rfl rfl ?_
              refine st_getf C dX11_become_109 fl_X11_7 (by rw [hh3]; exact hput_o (by decide) hput_s) rfl ?_
              refine st_sipush C dX11_become_112 (by decide) (by decide) ?_
              refine st_aload_n C 0 dX11_become_115 rfl rfl ?_
              refine st_getf C dX11_become_116 fl_X11_72 (by rw [hh3]; exact hput_o (by decide) hput_s) rfl ?_
              refine st_imul C dX11_become_119 ⟨(by omega), (by omega)⟩ ?_
              refine st_iload_n C 1 dX11_become_120 rfl rfl ?_
              refine st_iadd C dX11_become_121 ⟨(by omega), (by omega)⟩ ?_
              refine st_aload_n C 0 dX11_become_122 rfl rfl ?_
              refine st_getf C dX11_become_123 fl_X11_13 (by rw [hh3]; exact hput_o (by decide) hput_s) rfl ?_
              refine st_iload_n C 1 dX11_become_126 rfl rfl ?_
              refine st_iald C dX11_become_127 (by rw [hh3]; exact hput_o (by decide) (hput_o (by decide) (hput_o (by decide) h202))) (by omega) (by omega) ?_
              refine st_iast C dX11_become_128 (by rw [hh3]; exact hput_s) (by omega) (by omega) ?_
              refine st_iinc C dX11_become_129 rfl (by decide) rfl ⟨(by omega), (by omega)⟩ ?_
              show T x 132 [(0, vR 200), (1, vI (j + 1))] [] _ _ _
              refine st_goto (tgt := 101) C dX11_become_132 (by decide) ?_
              exact ih_101 (j + 1) (hput h3 201 (oI 12464 (fput (mcpy mm mw (304 * (mv + 1)) j) (304 * (mv + 1) + j) (mw j)))) (by omega) (by omega) (by rw [hh3, hput_hput, mcpy_s g7]) (by omega)
        exact loop_101 _ 0 (hput h1 200 (oO 10 [vR 201, vR 202, vR 203, vR 204, vR 205, vR 206, vR 207, vR 208, vR 209, vR 210, vR 211, vR 212, vR 213, vR 214, vR 215, vR 216, vR 217, vR 218, vI (mv + 1), vI mrc, vI mmc, vI mmk, vI mdv, vI mwl, vI mwa, vI mwp, vI mth])) (by omega) (by omega) (by rw [mcpy_0, hput_self (k := 201) (hput_o (by decide) (hput_o (by decide) hmm)), hh, show i = 192 by omega]; rfl) (Nat.lt_succ_self _)
      · refine st_iconst C dX11_become_9 (by decide) ?_
        refine st_istore_n C 2 dX11_become_10 rfl (by decide) rfl ?_
        show T x 11 [(0, vR 200), (1, vI i), (2, vI 0)] [] _ _ _
        have loop_11 : ∀ (n_11 : Nat) (d1 : Int) (h2 : HP), (0 ≤ d1) → (d1 ≤ 4) → (d1 = 0 ∨ mw i ≠ mm (304 * mv + i)) → (h2 = hput h 212 (oI 768 (mth4 (mthU mt mw (fun s => mm (304 * mv + s)) i.toNat) i d1.toNat))) → (4 - d1).toNat < n_11 → T x 11 [(0, vR 200), (1, vI i), (2, vI d1)] [] h2 0 0 := by
          intro n_11
          induction n_11 with
          | zero => intro d1 h2 g4 g5 g6 hh2 hm_11; exact absurd hm_11 (Nat.not_lt_zero _)
          | succ n_11 ih_11 =>
            intro d1 h2 g4 g5 g6 hh2 hm_11
            have q0 := msz_in (d := d1)
            have q1 := dv_in (a := i % 64 / 8) (m := msz d1) (by omega) q0.1
            have q2 := dv_in (a := i % 8) (m := msz d1) (by omega) q0.1
            refine st_iload_n C 2 dX11_become_11 rfl rfl ?_
            refine st_iconst C dX11_become_12 (by decide) ?_
            refine st_icmp_ge (tgt := 83) C dX11_become_13 (by decide) (fun c_13 => ?_) (fun c_13 => ?_)
            · refine st_iinc C dX11_become_83 rfl (by decide) rfl ⟨(by omega), (by omega)⟩ ?_
              show T x 86 [(0, vR 200), (1, vI (i + 1)), (2, vI d1)] [] _ _ _
              refine st_goto (tgt := 2) C dX11_become_86 (by decide) ?_
              refine st_sub [0, 1] rfl ?_
              exact ih_2 (i + 1) h2 (by omega) (by omega) (by rw [hh2]; exact congrArg (fun z => hput h 212 (oI 768 z)) (by first | exact mthU_t g1 (by omega) (by rcases g6 with z | z; exact absurd z (by omega); exact z) | exact mthU_f g1 (by rcases g6 with z | z; exact z; exact absurd (by assumption) z) (by assumption))) (by omega)
            · refine st_aload_n C 0 dX11_become_16 rfl rfl ?_
              refine st_getf C dX11_become_17 fl_X11_13 (by rw [hh2]; exact hput_o (by decide) hm) rfl ?_
              refine st_iload_n C 1 dX11_become_20 rfl rfl ?_
              refine st_iald C dX11_become_21 (by rw [hh2]; exact hput_o (by decide) h202) (by omega) (by omega) ?_
              refine st_aload_n C 0 dX11_become_22 rfl rfl ?_
              refine st_iload_n C 1 dX11_become_23 rfl rfl ?_
              refine st_callV (st := [vI (mw i)]) C dX11_become_24 [vI i] (k_now (mm := mm) (s9 := i) (by rw [hh2]; exact hput_o (by decide) hm) (by rw [hh2]; exact hput_o (by decide) hmm) hv40 (by omega)) (by rw [hh2]; exact hput_o (by decide) hm) w_X11_105 rfl (by decide) (by decide) (by omega) (by omega) (Nat.le_of_ble_eq_true rfl) (ko_rt ?_)
              show T x 27 [(0, vR 200), (1, vI i), (2, vI d1)] [vI (mm (304 * mv + i)), vI (mw i)] _ _ _
              refine st_icmp_eq (tgt := 83) C dX11_become_27 (by decide) (fun c_27 => ?_) (fun c_27 => ?_)
              · refine st_iinc C dX11_become_83 rfl (by decide) rfl ⟨(by omega), (by omega)⟩ ?_
                show T x 86 [(0, vR 200), (1, vI (i + 1)), (2, vI d1)] [] _ _ _
                refine st_goto (tgt := 2) C dX11_become_86 (by decide) ?_
                refine st_sub [0, 1] rfl ?_
                exact ih_2 (i + 1) h2 (by omega) (by omega) (by rw [hh2]; exact congrArg (fun z => hput h 212 (oI 768 z)) (by first | exact mthU_t g1 (by omega) (by rcases g6 with z | z; exact absurd z (by omega); exact z) | exact mthU_f g1 (by rcases g6 with z | z; exact z; exact absurd (by assumption) z) (by assumption))) (by omega)
              · refine st_iload_n C 1 dX11_become_30 rfl rfl ?_
                refine st_bipush C dX11_become_31 (by decide) (by decide) ?_
                refine st_irem C dX11_become_33 (by omega) (by omega) ?_
                refine st_bipush C dX11_become_34 (by decide) (by decide) ?_
                refine st_idiv C dX11_become_36 (by omega) (by omega) ?_
                refine st_iload_n C 2 dX11_become_37 rfl rfl ?_
                refine st_callS (st := [vI ((i % 64) / 8)]) C dX11_become_38 [vI d1] (k_msz (d := d1) (by omega)) w_X11_156 rfl (by decide) (by decide) (by omega) (by omega) (Nat.le_of_ble_eq_true rfl) (ko_rt ?_)
                show T x 41 [(0, vR 200), (1, vI i), (2, vI d1)] [vI (msz d1), vI ((i % 64) / 8)] _ _ _
                refine st_idiv C dX11_become_41 (by omega) (by omega) ?_
                refine st_istore_n C 3 dX11_become_42 rfl (by decide) rfl ?_
                show T x 43 [(0, vR 200), (1, vI i), (2, vI d1), (3, vI (((i % 64) / 8) / (msz d1)))] [] _ _ _
                refine st_aload_n C 0 dX11_become_43 rfl rfl ?_
                refine st_getf C dX11_become_44 fl_X11_44 (by rw [hh2]; exact hput_o (by decide) hm) rfl ?_
                refine st_sipush C dX11_become_47 (by decide) (by decide) ?_
                refine st_iload_n C 2 dX11_become_50 rfl rfl ?_
                refine st_imul C dX11_become_51 ⟨(by omega), (by omega)⟩ ?_
                refine st_bipush C dX11_become_52 (by decide) (by decide) ?_
                refine st_iload_n C 1 dX11_become_54 rfl rfl ?_
                refine st_bipush C dX11_become_55 (by decide) (by decide) ?_
                refine st_idiv C dX11_become_57 (by omega) (by omega) ?_
                refine st_imul C dX11_become_58 ⟨(by omega), (by omega)⟩ ?_
                refine st_iadd C dX11_become_59 ⟨(by omega), (by omega)⟩ ?_
                refine st_bipush C dX11_become_60 (by decide) (by decide) ?_
                refine st_iload_n C 3 dX11_become_62 rfl rfl ?_
                refine st_imul C dX11_become_63 ⟨(by omega), (by omega)⟩ ?_
                refine st_iadd C dX11_become_64 ⟨(by omega), (by omega)⟩ ?_
                refine st_iload_n C 1 dX11_become_65 rfl rfl ?_
                refine st_bipush C dX11_become_66 (by decide) (by decide) ?_
                refine st_irem C dX11_become_68 (by omega) (by omega) ?_
                refine st_iload_n C 2 dX11_become_69 rfl rfl ?_
                refine st_callS (st := [vI (i % 8), vI (192 * d1 + (64 * (i / 64)) + (8 * (((i % 64) / 8) / (msz d1)))), vR 212]) C dX11_become_70 [vI d1] (k_msz (d := d1) (by omega)) w_X11_156 rfl (by decide) (by decide) (by omega) (by omega) (Nat.le_of_ble_eq_true rfl) (ko_rt ?_)
                show T x 73 [(0, vR 200), (1, vI i), (2, vI d1), (3, vI (((i % 64) / 8) / (msz d1)))] [vI (msz d1), vI (i % 8), vI (192 * d1 + (64 * (i / 64)) + (8 * (((i % 64) / 8) / (msz d1)))), vR 212] _ _ _
                refine st_idiv C dX11_become_73 (by omega) (by omega) ?_
                refine st_iadd C dX11_become_74 ⟨(by omega), (by omega)⟩ ?_
                refine st_iconst C dX11_become_75 (by decide) ?_
                refine st_iast C dX11_become_76 (by rw [hh2]; exact hput_s) (by omega) (by omega) ?_
                refine st_iinc C dX11_become_77 rfl (by decide) rfl ⟨(by omega), (by omega)⟩ ?_
                show T x 80 [(0, vR 200), (1, vI i), (2, vI (d1 + 1)), (3, vI (((i % 64) / 8) / (msz d1)))] [] _ _ _
                refine st_goto (tgt := 11) C dX11_become_80 (by decide) ?_
                refine st_sub [0, 1, 2] rfl ?_
                exact ih_11 (d1 + 1) (hput h2 212 (oI 768 (fput (mth4 (mthU mt mw (fun s => mm (304 * mv + s)) i.toNat) i d1.toNat) (192 * d1 + (64 * (i / 64)) + (8 * (((i % 64) / 8) / (msz d1))) + ((i % 8) / (msz d1))) (-1)))) (by omega) (by omega) (Or.inr (by assumption)) (by rw [hh2, hput_hput]; exact congrArg (fun z => hput h 212 (oI 768 z)) (mth4_s g4)) (by omega)
        exact loop_11 _ 0 h1 (by omega) (by omega) (Or.inl rfl) (by rw [hh]; rfl) (Nat.lt_succ_self _)
  exact loop_2 _ 0 h (by omega) (by omega) ((hput_self h212).symm) (Nat.lt_succ_self _)
set_option maxRecDepth 20000 in
set_option maxHeartbeats 4000000 in
theorem k_most1 {g : Gx} {h : HP} {mv mrc mmc mmk mdv mwl mwa mwp mth : Int} {mm : Int → Int} {f0 : Int → Int} {l a9 t9 : Int} (hm : mO h mv mrc mmc mmk mdv mwl mwa mwp mth) (hmm : h 201 = some (oI 12464 mm)) (hv : 0 ≤ mv ∧ mv ≤ 40) (h218 : h 218 = some (oI 10 f0)) (hl : 0 ≤ l ∧ l ≤ 2) (hx : 0 ≤ a9 ∧ a9 ≤ 7) (hy : 0 ≤ t9 ∧ t9 ≤ 7) (hwa : ∀ j, 304 * mv ≤ j → j ≤ 304 * mv + 191 → 0 ≤ mm j ∧ mm j ≤ 9) : Ct g yX11_most (.code yX11_most cX11_most 7 (some .int)) 2 0 0 [vR 200, vI 1, vI l, vI a9, vI t9] h (RtC (some (vI (mcb (fun a => cnt (fun k => mm (304 * mv + (64 * l + 8 * (t9 + k / 1) + a9 + k % 1)) = a) 1) 10).1)) h) := by
  refine Ct.of (by decide) (Nat.le_of_ble_eq_true rfl) (fun x hg C F => ?_)
  subst hg
  show T x 0 [(0, vR 200), (1, vI 1), (2, vI l), (3, vI a9), (4, vI t9)] [] h 0 0
  refine st_iconst C dX11_most_0 (by decide) ?_
  refine st_istore C dX11_most_1 (by decide) rfl ?_
  show T x 3 [(0, vR 200), (1, vI 1), (2, vI l), (3, vI a9), (4, vI t9), (5, vI 0)] [] _ _ _
  have loop_3 : ∀ (n_3 : Nat) (i : Int) (h1 : HP), (0 ≤ i) → (i ≤ 10) → (h1 = hput h 218 (oI 10 (fmix (fun _ => 0) f0 i))) → (10 - i).toNat < n_3 → T x 3 [(0, vR 200), (1, vI 1), (2, vI l), (3, vI a9), (4, vI t9), (5, vI i)] [] h1 0 0 := by
    intro n_3
    induction n_3 with
    | zero => intro i h1 g1 g2 hh hm_3; exact absurd hm_3 (Nat.not_lt_zero _)
    | succ n_3 ih_3 =>
      intro i h1 g1 g2 hh hm_3
      refine st_iload C dX11_most_3 rfl ?_
      refine st_bipush C dX11_most_5 (by decide) (by decide) ?_
      refine st_icmp_ge (tgt := 24) C dX11_most_7 (by decide) (fun c_7 => ?_) (fun c_7 => ?_)
      · refine st_iconst C dX11_most_24 (by decide) ?_
        refine st_istore C dX11_most_25 (by decide) rfl ?_
        show T x 27 [(0, vR 200), (1, vI 1), (2, vI l), (3, vI a9), (4, vI t9), (5, vI 0)] [] _ _ _
        have loop_27 : ∀ (n_27 : Nat) (j1 : Int) (h2 : HP), (0 ≤ j1) → (j1 ≤ 1) → (h2 = hput h 218 (oI 10 (cnF (fun k => mm (304 * mv + (64 * l + 8 * (t9 + k / 1) + a9 + k % 1))) f0 j1))) → (1 - j1).toNat < n_27 → T x 27 [(0, vR 200), (1, vI 1), (2, vI l), (3, vI a9), (4, vI t9), (5, vI j1)] [] h2 0 0 := by
          intro n_27
          induction n_27 with
          | zero => intro j1 h2 g3 g4 hh2 hm_27; exact absurd hm_27 (Nat.not_lt_zero _)
          | succ n_27 ih_27 =>
            intro j1 h2 g3 g4 hh2 hm_27
            have q1 : j1 < 1 → 0 ≤ mm (304 * mv + (64 * l + 8 * (t9 + j1 / 1) + a9 + j1 % 1)) ∧ mm (304 * mv + (64 * l + 8 * (t9 + j1 / 1) + a9 + j1 % 1)) ≤ 9 := fun z => hwa _ (by omega) (by omega)
            have q2 : j1 < 1 → 0 ≤ cnF (fun k => mm (304 * mv + (64 * l + 8 * (t9 + k / 1) + a9 + k % 1))) f0 j1 (mm (304 * mv + (64 * l + 8 * (t9 + j1 / 1) + a9 + j1 % 1))) ∧ cnF (fun k => mm (304 * mv + (64 * l + 8 * (t9 + k / 1) + a9 + k % 1))) f0 j1 (mm (304 * mv + (64 * l + 8 * (t9 + j1 / 1) + a9 + j1 % 1))) ≤ j1 := fun z => by rw [cnF_at (q1 z)]; exact cnt_in _ g3
            refine st_iload C dX11_most_27 rfl ?_
            refine st_iload_n C 1 dX11_most_29 rfl rfl ?_
            refine st_iload_n C 1 dX11_most_30 rfl rfl ?_
            refine st_imul C dX11_most_31 ⟨(by omega), (by omega)⟩ ?_
            refine st_icmp_ge (tgt := 76) C dX11_most_32 (by decide) (fun c_32 => ?_) (fun c_32 => ?_)
            · have e8 : j1 = 1 := by omega
              subst e8
              refine st_iconst C dX11_most_76 (by decide) ?_
              refine st_istore C dX11_most_77 (by decide) rfl ?_
              show T x 79 [(0, vR 200), (1, vI 1), (2, vI l), (3, vI a9), (4, vI t9), (5, vI 0)] [] _ _ _
              refine st_iconst C dX11_most_79 (by decide) ?_
              refine st_istore C dX11_most_80 (by decide) rfl ?_
              show T x 82 [(0, vR 200), (1, vI 1), (2, vI l), (3, vI a9), (4, vI t9), (5, vI 0), (6, vI 1)] [] _ _ _
              have loop_82 : ∀ (n_82 : Nat) (c1 : Int) (k1 : Int), (1 ≤ k1) → (k1 ≤ 10) → (McI (fun a => cnt (fun k => mm (304 * mv + (64 * l + 8 * (t9 + k / 1) + a9 + k % 1)) = a) 1) k1 c1) → (10 - k1).toNat < n_82 → T x 82 [(0, vR 200), (1, vI 1), (2, vI l), (3, vI a9), (4, vI t9), (5, vI c1), (6, vI k1)] [] h2 0 0 := by
                intro n_82
                induction n_82 with
                | zero => intro c1 k1 g5 g6 g7 hm_82; exact absurd hm_82 (Nat.not_lt_zero _)
                | succ n_82 ih_82 =>
                  intro c1 k1 g5 g6 g7 hm_82
                  have q3 := g7.1
                  have q4 : cnF (fun k => mm (304 * mv + (64 * l + 8 * (t9 + k / 1) + a9 + k % 1))) f0 1 c1 = (fun a => cnt (fun k => mm (304 * mv + (64 * l + 8 * (t9 + k / 1) + a9 + k % 1)) = a) 1) c1 := cnF_at (by omega)
                  have q5 : k1 < 10 → cnF (fun k => mm (304 * mv + (64 * l + 8 * (t9 + k / 1) + a9 + k % 1))) f0 1 k1 = (fun a => cnt (fun k => mm (304 * mv + (64 * l + 8 * (t9 + k / 1) + a9 + k % 1)) = a) 1) k1 := fun z => cnF_at (by omega)
                  refine st_iload C dX11_most_82 rfl ?_
                  refine st_bipush C dX11_most_84 (by decide) (by decide) ?_
                  refine st_icmp_ge (tgt := 121) C dX11_most_86 (by decide) (fun c_86 => ?_) (fun c_86 => ?_)
                  · refine st_iload C dX11_most_121 rfl ?_
                    exact st_ireturn C F dX11_most_123 rfl (rc_i (McI_e g7 (by omega)) hh2) (by omega) (by omega)
                  · refine st_aload_n C 0 dX11_most_89 rfl rfl ?_
                    refine st_getf C dX11_most_90 fl_X11_62 (by rw [hh2]; exact hput_o (by decide) hm) rfl ?_
                    refine st_iload C dX11_most_93 rfl ?_
                    refine st_iald C dX11_most_95 (by rw [hh2]; exact hput_s) (by omega) (by omega) ?_
                    refine st_aload_n C 0 dX11_most_96 rfl rfl ?_
                    refine st_getf C dX11_most_97 fl_X11_62 (by rw [hh2]; exact hput_o (by decide) hm) rfl ?_
                    refine st_iload C dX11_most_100 rfl ?_
                    refine st_iald C dX11_most_102 (by rw [hh2]; exact hput_s) (by omega) (by omega) ?_
                    refine st_icmp_le (tgt := 111) C dX11_most_103 (by decide) (fun c_103 => ?_) (fun c_103 => ?_)
                    · refine st_iload C dX11_most_111 rfl ?_
                      refine st_istore C dX11_most_113 (by decide) rfl ?_
                      show T x 115 [(0, vR 200), (1, vI 1), (2, vI l), (3, vI a9), (4, vI t9), (5, vI c1), (6, vI k1)] [] _ _ _
                      refine st_iinc C dX11_most_115 rfl (by decide) rfl ⟨(by omega), (by omega)⟩ ?_
                      show T x 118 [(0, vR 200), (1, vI 1), (2, vI l), (3, vI a9), (4, vI t9), (5, vI c1), (6, vI (k1 + 1))] [] _ _ _
                      refine st_goto (tgt := 82) C dX11_most_118 (by decide) ?_
                      exact ih_82 c1 (k1 + 1) (by omega) (by omega) (by first | exact McI_t2 (by omega) g7 q4 (q5 (by assumption)) (by assumption) | exact McI_f2 (by omega) g7 q4 (q5 (by assumption)) (by assumption)) (by omega)
                    · refine st_iload C dX11_most_106 rfl ?_
                      refine st_goto (tgt := 113) C dX11_most_108 (by decide) ?_
                      refine st_istore C dX11_most_113 (by decide) rfl ?_
                      show T x 115 [(0, vR 200), (1, vI 1), (2, vI l), (3, vI a9), (4, vI t9), (5, vI k1), (6, vI k1)] [] _ _ _
                      refine st_iinc C dX11_most_115 rfl (by decide) rfl ⟨(by omega), (by omega)⟩ ?_
                      show T x 118 [(0, vR 200), (1, vI 1), (2, vI l), (3, vI a9), (4, vI t9), (5, vI k1), (6, vI (k1 + 1))] [] _ _ _
                      refine st_goto (tgt := 82) C dX11_most_118 (by decide) ?_
                      exact ih_82 k1 (k1 + 1) (by omega) (by omega) (by first | exact McI_t2 (by omega) g7 q4 (q5 (by assumption)) (by assumption) | exact McI_f2 (by omega) g7 q4 (q5 (by assumption)) (by assumption)) (by omega)
              exact loop_82 _ 0 1 (by omega) (by omega) (McI_1 (cnt_in _ (by omega)).1) (Nat.lt_succ_self _)
            · refine st_aload_n C 0 dX11_most_35 rfl rfl ?_
              refine st_getf C dX11_most_36 fl_X11_62 (by rw [hh2]; exact hput_o (by decide) hm) rfl ?_
              refine st_aload_n C 0 dX11_most_39 rfl rfl ?_
              refine st_bipush C dX11_most_40 (by decide) (by decide) ?_
              refine st_iload_n C 2 dX11_most_42 rfl rfl ?_
              refine st_imul C dX11_most_43 ⟨(by omega), (by omega)⟩ ?_
              refine st_bipush C dX11_most_44 (by decide) (by decide) ?_
              refine st_iload C dX11_most_46 rfl ?_
              refine st_iload C dX11_most_48 rfl ?_
              refine st_iload_n C 1 dX11_most_50 rfl rfl ?_
              refine st_idiv C dX11_most_51 (by omega) (by omega) ?_
              refine st_iadd C dX11_most_52 ⟨(by omega), (by omega)⟩ ?_
              refine st_imul C dX11_most_53 ⟨(by omega), (by omega)⟩ ?_
              refine st_iadd C dX11_most_54 ⟨(by omega), (by omega)⟩ ?_
              refine st_iload_n C 3 dX11_most_55 rfl rfl ?_
              refine st_iadd C dX11_most_56 ⟨(by omega), (by omega)⟩ ?_
              refine st_iload C dX11_most_57 rfl ?_
              refine st_iload_n C 1 dX11_most_59 rfl rfl ?_
              refine st_irem C dX11_most_60 (by omega) (by omega) ?_
              refine st_iadd C dX11_most_61 ⟨(by omega), (by omega)⟩ ?_
              refine st_callV (st := [vR 218]) C dX11_most_62 [vI (64 * l + (8 * (t9 + (j1 / 1))) + a9 + (j1 % 1))] (k_now (mm := mm) (s9 := (64 * l + (8 * (t9 + (j1 / 1))) + a9 + (j1 % 1))) (by rw [hh2]; exact hput_o (by decide) hm) (by rw [hh2]; exact hput_o (by decide) hmm) hv (by omega)) (by rw [hh2]; exact hput_o (by decide) hm) w_X11_105 rfl (by decide) (by decide) (by omega) (by omega) (Nat.le_of_ble_eq_true rfl) (ko_rt ?_)
              show T x 65 [(0, vR 200), (1, vI 1), (2, vI l), (3, vI a9), (4, vI t9), (5, vI j1)] [vI (mm (304 * mv + (64 * l + (8 * (t9 + (j1 / 1))) + a9 + (j1 % 1)))), vR 218] _ _ _
              refine st_dup2 C dX11_most_65 rfl rfl ?_
              refine st_iald C dX11_most_66 (by rw [hh2]; exact hput_s) (by omega) (by omega) ?_
              refine st_iconst C dX11_most_67 (by decide) ?_
              refine st_iadd C dX11_most_68 ⟨(by omega), (by omega)⟩ ?_
              refine st_iast C dX11_most_69 (by rw [hh2]; exact hput_s) (by omega) (by omega) ?_
              refine st_iinc C dX11_most_70 rfl (by decide) rfl ⟨(by omega), (by omega)⟩ ?_
              show T x 73 [(0, vR 200), (1, vI 1), (2, vI l), (3, vI a9), (4, vI t9), (5, vI (j1 + 1))] [] _ _ _
              refine st_goto (tgt := 27) C dX11_most_73 (by decide) ?_
              exact ih_27 (j1 + 1) (hput h2 218 (oI 10 (fput (cnF (fun k => mm (304 * mv + (64 * l + 8 * (t9 + k / 1) + a9 + k % 1))) f0 j1) (mm (304 * mv + (64 * l + (8 * (t9 + (j1 / 1))) + a9 + (j1 % 1)))) ((cnF (fun k => mm (304 * mv + (64 * l + 8 * (t9 + k / 1) + a9 + k % 1))) f0 j1) (mm (304 * mv + (64 * l + (8 * (t9 + (j1 / 1))) + a9 + (j1 % 1)))) + 1)))) (by omega) (by omega) (by rw [hh2, hput_hput]; exact congrArg (fun z => hput h 218 (oI 10 z)) (cnF_s (W := (fun k => mm (304 * mv + (64 * l + 8 * (t9 + k / 1) + a9 + k % 1)))) g3 (q1 (by omega)))) (by omega)
        exact loop_27 _ 0 h1 (by omega) (by omega) (by rw [hh, show i = 10 by omega, cnF_0]) (Nat.lt_succ_self _)
      · refine st_aload_n C 0 dX11_most_10 rfl rfl ?_
        refine st_getf C dX11_most_11 fl_X11_62 (by rw [hh]; exact hput_o (by decide) hm) rfl ?_
        refine st_iload C dX11_most_14 rfl ?_
        refine st_iconst C dX11_most_16 (by decide) ?_
        refine st_iast C dX11_most_17 (by rw [hh]; exact hput_s) (by omega) (by omega) ?_
        refine st_iinc C dX11_most_18 rfl (by decide) rfl ⟨(by omega), (by omega)⟩ ?_
        show T x 21 [(0, vR 200), (1, vI 1), (2, vI l), (3, vI a9), (4, vI t9), (5, vI (i + 1))] [] _ _ _
        refine st_goto (tgt := 3) C dX11_most_21 (by decide) ?_
        exact ih_3 (i + 1) (hput h1 218 (oI 10 (fput (fmix (fun _ => 0) f0 i) i 0))) (by omega) (by omega) (by rw [hh, hput_hput, fmix_s g1 rfl]) (by omega)
  exact loop_3 _ 0 h (by omega) (by omega) (by rw [fmix_0]; exact (hput_self h218).symm) (Nat.lt_succ_self _)
set_option maxRecDepth 20000 in
set_option maxHeartbeats 4000000 in
theorem k_most2 {g : Gx} {h : HP} {mv mrc mmc mmk mdv mwl mwa mwp mth : Int} {mm : Int → Int} {f0 : Int → Int} {l a9 t9 : Int} (hm : mO h mv mrc mmc mmk mdv mwl mwa mwp mth) (hmm : h 201 = some (oI 12464 mm)) (hv : 0 ≤ mv ∧ mv ≤ 40) (h218 : h 218 = some (oI 10 f0)) (hl : 0 ≤ l ∧ l ≤ 2) (hx : 0 ≤ a9 ∧ a9 ≤ 6) (hy : 0 ≤ t9 ∧ t9 ≤ 6) (hwa : ∀ j, 304 * mv ≤ j → j ≤ 304 * mv + 191 → 0 ≤ mm j ∧ mm j ≤ 9) : Ct g yX11_most (.code yX11_most cX11_most 7 (some .int)) 2 0 0 [vR 200, vI 2, vI l, vI a9, vI t9] h (RtC (some (vI (mcb (fun a => cnt (fun k => mm (304 * mv + (64 * l + 8 * (t9 + k / 2) + a9 + k % 2)) = a) 4) 10).1)) h) := by
  refine Ct.of (by decide) (Nat.le_of_ble_eq_true rfl) (fun x hg C F => ?_)
  subst hg
  show T x 0 [(0, vR 200), (1, vI 2), (2, vI l), (3, vI a9), (4, vI t9)] [] h 0 0
  refine st_iconst C dX11_most_0 (by decide) ?_
  refine st_istore C dX11_most_1 (by decide) rfl ?_
  show T x 3 [(0, vR 200), (1, vI 2), (2, vI l), (3, vI a9), (4, vI t9), (5, vI 0)] [] _ _ _
  have loop_3 : ∀ (n_3 : Nat) (i : Int) (h1 : HP), (0 ≤ i) → (i ≤ 10) → (h1 = hput h 218 (oI 10 (fmix (fun _ => 0) f0 i))) → (10 - i).toNat < n_3 → T x 3 [(0, vR 200), (1, vI 2), (2, vI l), (3, vI a9), (4, vI t9), (5, vI i)] [] h1 0 0 := by
    intro n_3
    induction n_3 with
    | zero => intro i h1 g1 g2 hh hm_3; exact absurd hm_3 (Nat.not_lt_zero _)
    | succ n_3 ih_3 =>
      intro i h1 g1 g2 hh hm_3
      refine st_iload C dX11_most_3 rfl ?_
      refine st_bipush C dX11_most_5 (by decide) (by decide) ?_
      refine st_icmp_ge (tgt := 24) C dX11_most_7 (by decide) (fun c_7 => ?_) (fun c_7 => ?_)
      · refine st_iconst C dX11_most_24 (by decide) ?_
        refine st_istore C dX11_most_25 (by decide) rfl ?_
        show T x 27 [(0, vR 200), (1, vI 2), (2, vI l), (3, vI a9), (4, vI t9), (5, vI 0)] [] _ _ _
        have loop_27 : ∀ (n_27 : Nat) (j1 : Int) (h2 : HP), (0 ≤ j1) → (j1 ≤ 4) → (h2 = hput h 218 (oI 10 (cnF (fun k => mm (304 * mv + (64 * l + 8 * (t9 + k / 2) + a9 + k % 2))) f0 j1))) → (4 - j1).toNat < n_27 → T x 27 [(0, vR 200), (1, vI 2), (2, vI l), (3, vI a9), (4, vI t9), (5, vI j1)] [] h2 0 0 := by
          intro n_27
          induction n_27 with
          | zero => intro j1 h2 g3 g4 hh2 hm_27; exact absurd hm_27 (Nat.not_lt_zero _)
          | succ n_27 ih_27 =>
            intro j1 h2 g3 g4 hh2 hm_27
            have q1 : j1 < 4 → 0 ≤ mm (304 * mv + (64 * l + 8 * (t9 + j1 / 2) + a9 + j1 % 2)) ∧ mm (304 * mv + (64 * l + 8 * (t9 + j1 / 2) + a9 + j1 % 2)) ≤ 9 := fun z => hwa _ (by omega) (by omega)
            have q2 : j1 < 4 → 0 ≤ cnF (fun k => mm (304 * mv + (64 * l + 8 * (t9 + k / 2) + a9 + k % 2))) f0 j1 (mm (304 * mv + (64 * l + 8 * (t9 + j1 / 2) + a9 + j1 % 2))) ∧ cnF (fun k => mm (304 * mv + (64 * l + 8 * (t9 + k / 2) + a9 + k % 2))) f0 j1 (mm (304 * mv + (64 * l + 8 * (t9 + j1 / 2) + a9 + j1 % 2))) ≤ j1 := fun z => by rw [cnF_at (q1 z)]; exact cnt_in _ g3
            refine st_iload C dX11_most_27 rfl ?_
            refine st_iload_n C 1 dX11_most_29 rfl rfl ?_
            refine st_iload_n C 1 dX11_most_30 rfl rfl ?_
            refine st_imul C dX11_most_31 ⟨(by omega), (by omega)⟩ ?_
            refine st_icmp_ge (tgt := 76) C dX11_most_32 (by decide) (fun c_32 => ?_) (fun c_32 => ?_)
            · have e8 : j1 = 4 := by omega
              subst e8
              refine st_iconst C dX11_most_76 (by decide) ?_
              refine st_istore C dX11_most_77 (by decide) rfl ?_
              show T x 79 [(0, vR 200), (1, vI 2), (2, vI l), (3, vI a9), (4, vI t9), (5, vI 0)] [] _ _ _
              refine st_iconst C dX11_most_79 (by decide) ?_
              refine st_istore C dX11_most_80 (by decide) rfl ?_
              show T x 82 [(0, vR 200), (1, vI 2), (2, vI l), (3, vI a9), (4, vI t9), (5, vI 0), (6, vI 1)] [] _ _ _
              have loop_82 : ∀ (n_82 : Nat) (c1 : Int) (k1 : Int), (1 ≤ k1) → (k1 ≤ 10) → (McI (fun a => cnt (fun k => mm (304 * mv + (64 * l + 8 * (t9 + k / 2) + a9 + k % 2)) = a) 4) k1 c1) → (10 - k1).toNat < n_82 → T x 82 [(0, vR 200), (1, vI 2), (2, vI l), (3, vI a9), (4, vI t9), (5, vI c1), (6, vI k1)] [] h2 0 0 := by
                intro n_82
                induction n_82 with
                | zero => intro c1 k1 g5 g6 g7 hm_82; exact absurd hm_82 (Nat.not_lt_zero _)
                | succ n_82 ih_82 =>
                  intro c1 k1 g5 g6 g7 hm_82
                  have q3 := g7.1
                  have q4 : cnF (fun k => mm (304 * mv + (64 * l + 8 * (t9 + k / 2) + a9 + k % 2))) f0 4 c1 = (fun a => cnt (fun k => mm (304 * mv + (64 * l + 8 * (t9 + k / 2) + a9 + k % 2)) = a) 4) c1 := cnF_at (by omega)
                  have q5 : k1 < 10 → cnF (fun k => mm (304 * mv + (64 * l + 8 * (t9 + k / 2) + a9 + k % 2))) f0 4 k1 = (fun a => cnt (fun k => mm (304 * mv + (64 * l + 8 * (t9 + k / 2) + a9 + k % 2)) = a) 4) k1 := fun z => cnF_at (by omega)
                  refine st_iload C dX11_most_82 rfl ?_
                  refine st_bipush C dX11_most_84 (by decide) (by decide) ?_
                  refine st_icmp_ge (tgt := 121) C dX11_most_86 (by decide) (fun c_86 => ?_) (fun c_86 => ?_)
                  · refine st_iload C dX11_most_121 rfl ?_
                    exact st_ireturn C F dX11_most_123 rfl (rc_i (McI_e g7 (by omega)) hh2) (by omega) (by omega)
                  · refine st_aload_n C 0 dX11_most_89 rfl rfl ?_
                    refine st_getf C dX11_most_90 fl_X11_62 (by rw [hh2]; exact hput_o (by decide) hm) rfl ?_
                    refine st_iload C dX11_most_93 rfl ?_
                    refine st_iald C dX11_most_95 (by rw [hh2]; exact hput_s) (by omega) (by omega) ?_
                    refine st_aload_n C 0 dX11_most_96 rfl rfl ?_
                    refine st_getf C dX11_most_97 fl_X11_62 (by rw [hh2]; exact hput_o (by decide) hm) rfl ?_
                    refine st_iload C dX11_most_100 rfl ?_
                    refine st_iald C dX11_most_102 (by rw [hh2]; exact hput_s) (by omega) (by omega) ?_
                    refine st_icmp_le (tgt := 111) C dX11_most_103 (by decide) (fun c_103 => ?_) (fun c_103 => ?_)
                    · refine st_iload C dX11_most_111 rfl ?_
                      refine st_istore C dX11_most_113 (by decide) rfl ?_
                      show T x 115 [(0, vR 200), (1, vI 2), (2, vI l), (3, vI a9), (4, vI t9), (5, vI c1), (6, vI k1)] [] _ _ _
                      refine st_iinc C dX11_most_115 rfl (by decide) rfl ⟨(by omega), (by omega)⟩ ?_
                      show T x 118 [(0, vR 200), (1, vI 2), (2, vI l), (3, vI a9), (4, vI t9), (5, vI c1), (6, vI (k1 + 1))] [] _ _ _
                      refine st_goto (tgt := 82) C dX11_most_118 (by decide) ?_
                      exact ih_82 c1 (k1 + 1) (by omega) (by omega) (by first | exact McI_t2 (by omega) g7 q4 (q5 (by assumption)) (by assumption) | exact McI_f2 (by omega) g7 q4 (q5 (by assumption)) (by assumption)) (by omega)
                    · refine st_iload C dX11_most_106 rfl ?_
                      refine st_goto (tgt := 113) C dX11_most_108 (by decide) ?_
                      refine st_istore C dX11_most_113 (by decide) rfl ?_
                      show T x 115 [(0, vR 200), (1, vI 2), (2, vI l), (3, vI a9), (4, vI t9), (5, vI k1), (6, vI k1)] [] _ _ _
                      refine st_iinc C dX11_most_115 rfl (by decide) rfl ⟨(by omega), (by omega)⟩ ?_
                      show T x 118 [(0, vR 200), (1, vI 2), (2, vI l), (3, vI a9), (4, vI t9), (5, vI k1), (6, vI (k1 + 1))] [] _ _ _
                      refine st_goto (tgt := 82) C dX11_most_118 (by decide) ?_
                      exact ih_82 k1 (k1 + 1) (by omega) (by omega) (by first | exact McI_t2 (by omega) g7 q4 (q5 (by assumption)) (by assumption) | exact McI_f2 (by omega) g7 q4 (q5 (by assumption)) (by assumption)) (by omega)
              exact loop_82 _ 0 1 (by omega) (by omega) (McI_1 (cnt_in _ (by omega)).1) (Nat.lt_succ_self _)
            · refine st_aload_n C 0 dX11_most_35 rfl rfl ?_
              refine st_getf C dX11_most_36 fl_X11_62 (by rw [hh2]; exact hput_o (by decide) hm) rfl ?_
              refine st_aload_n C 0 dX11_most_39 rfl rfl ?_
              refine st_bipush C dX11_most_40 (by decide) (by decide) ?_
              refine st_iload_n C 2 dX11_most_42 rfl rfl ?_
              refine st_imul C dX11_most_43 ⟨(by omega), (by omega)⟩ ?_
              refine st_bipush C dX11_most_44 (by decide) (by decide) ?_
              refine st_iload C dX11_most_46 rfl ?_
              refine st_iload C dX11_most_48 rfl ?_
              refine st_iload_n C 1 dX11_most_50 rfl rfl ?_
              refine st_idiv C dX11_most_51 (by omega) (by omega) ?_
              refine st_iadd C dX11_most_52 ⟨(by omega), (by omega)⟩ ?_
              refine st_imul C dX11_most_53 ⟨(by omega), (by omega)⟩ ?_
              refine st_iadd C dX11_most_54 ⟨(by omega), (by omega)⟩ ?_
              refine st_iload_n C 3 dX11_most_55 rfl rfl ?_
              refine st_iadd C dX11_most_56 ⟨(by omega), (by omega)⟩ ?_
              refine st_iload C dX11_most_57 rfl ?_
              refine st_iload_n C 1 dX11_most_59 rfl rfl ?_
              refine st_irem C dX11_most_60 (by omega) (by omega) ?_
              refine st_iadd C dX11_most_61 ⟨(by omega), (by omega)⟩ ?_
              refine st_callV (st := [vR 218]) C dX11_most_62 [vI (64 * l + (8 * (t9 + (j1 / 2))) + a9 + (j1 % 2))] (k_now (mm := mm) (s9 := (64 * l + (8 * (t9 + (j1 / 2))) + a9 + (j1 % 2))) (by rw [hh2]; exact hput_o (by decide) hm) (by rw [hh2]; exact hput_o (by decide) hmm) hv (by omega)) (by rw [hh2]; exact hput_o (by decide) hm) w_X11_105 rfl (by decide) (by decide) (by omega) (by omega) (Nat.le_of_ble_eq_true rfl) (ko_rt ?_)
              show T x 65 [(0, vR 200), (1, vI 2), (2, vI l), (3, vI a9), (4, vI t9), (5, vI j1)] [vI (mm (304 * mv + (64 * l + (8 * (t9 + (j1 / 2))) + a9 + (j1 % 2)))), vR 218] _ _ _
              refine st_dup2 C dX11_most_65 rfl rfl ?_
              refine st_iald C dX11_most_66 (by rw [hh2]; exact hput_s) (by omega) (by omega) ?_
              refine st_iconst C dX11_most_67 (by decide) ?_
              refine st_iadd C dX11_most_68 ⟨(by omega), (by omega)⟩ ?_
              refine st_iast C dX11_most_69 (by rw [hh2]; exact hput_s) (by omega) (by omega) ?_
              refine st_iinc C dX11_most_70 rfl (by decide) rfl ⟨(by omega), (by omega)⟩ ?_
              show T x 73 [(0, vR 200), (1, vI 2), (2, vI l), (3, vI a9), (4, vI t9), (5, vI (j1 + 1))] [] _ _ _
              refine st_goto (tgt := 27) C dX11_most_73 (by decide) ?_
              exact ih_27 (j1 + 1) (hput h2 218 (oI 10 (fput (cnF (fun k => mm (304 * mv + (64 * l + 8 * (t9 + k / 2) + a9 + k % 2))) f0 j1) (mm (304 * mv + (64 * l + (8 * (t9 + (j1 / 2))) + a9 + (j1 % 2)))) ((cnF (fun k => mm (304 * mv + (64 * l + 8 * (t9 + k / 2) + a9 + k % 2))) f0 j1) (mm (304 * mv + (64 * l + (8 * (t9 + (j1 / 2))) + a9 + (j1 % 2)))) + 1)))) (by omega) (by omega) (by rw [hh2, hput_hput]; exact congrArg (fun z => hput h 218 (oI 10 z)) (cnF_s (W := (fun k => mm (304 * mv + (64 * l + 8 * (t9 + k / 2) + a9 + k % 2)))) g3 (q1 (by omega)))) (by omega)
        exact loop_27 _ 0 h1 (by omega) (by omega) (by rw [hh, show i = 10 by omega, cnF_0]) (Nat.lt_succ_self _)
      · refine st_aload_n C 0 dX11_most_10 rfl rfl ?_
        refine st_getf C dX11_most_11 fl_X11_62 (by rw [hh]; exact hput_o (by decide) hm) rfl ?_
        refine st_iload C dX11_most_14 rfl ?_
        refine st_iconst C dX11_most_16 (by decide) ?_
        refine st_iast C dX11_most_17 (by rw [hh]; exact hput_s) (by omega) (by omega) ?_
        refine st_iinc C dX11_most_18 rfl (by decide) rfl ⟨(by omega), (by omega)⟩ ?_
        show T x 21 [(0, vR 200), (1, vI 2), (2, vI l), (3, vI a9), (4, vI t9), (5, vI (i + 1))] [] _ _ _
        refine st_goto (tgt := 3) C dX11_most_21 (by decide) ?_
        exact ih_3 (i + 1) (hput h1 218 (oI 10 (fput (fmix (fun _ => 0) f0 i) i 0))) (by omega) (by omega) (by rw [hh, hput_hput, fmix_s g1 rfl]) (by omega)
  exact loop_3 _ 0 h (by omega) (by omega) (by rw [fmix_0]; exact (hput_self h218).symm) (Nat.lt_succ_self _)
set_option maxRecDepth 20000 in
set_option maxHeartbeats 4000000 in
theorem k_most4 {g : Gx} {h : HP} {mv mrc mmc mmk mdv mwl mwa mwp mth : Int} {mm : Int → Int} {f0 : Int → Int} {l a9 t9 : Int} (hm : mO h mv mrc mmc mmk mdv mwl mwa mwp mth) (hmm : h 201 = some (oI 12464 mm)) (hv : 0 ≤ mv ∧ mv ≤ 40) (h218 : h 218 = some (oI 10 f0)) (hl : 0 ≤ l ∧ l ≤ 2) (hx : 0 ≤ a9 ∧ a9 ≤ 4) (hy : 0 ≤ t9 ∧ t9 ≤ 4) (hwa : ∀ j, 304 * mv ≤ j → j ≤ 304 * mv + 191 → 0 ≤ mm j ∧ mm j ≤ 9) : Ct g yX11_most (.code yX11_most cX11_most 7 (some .int)) 2 0 0 [vR 200, vI 4, vI l, vI a9, vI t9] h (RtC (some (vI (mcb (fun a => cnt (fun k => mm (304 * mv + (64 * l + 8 * (t9 + k / 4) + a9 + k % 4)) = a) 16) 10).1)) h) := by
  refine Ct.of (by decide) (Nat.le_of_ble_eq_true rfl) (fun x hg C F => ?_)
  subst hg
  show T x 0 [(0, vR 200), (1, vI 4), (2, vI l), (3, vI a9), (4, vI t9)] [] h 0 0
  refine st_iconst C dX11_most_0 (by decide) ?_
  refine st_istore C dX11_most_1 (by decide) rfl ?_
  show T x 3 [(0, vR 200), (1, vI 4), (2, vI l), (3, vI a9), (4, vI t9), (5, vI 0)] [] _ _ _
  have loop_3 : ∀ (n_3 : Nat) (i : Int) (h1 : HP), (0 ≤ i) → (i ≤ 10) → (h1 = hput h 218 (oI 10 (fmix (fun _ => 0) f0 i))) → (10 - i).toNat < n_3 → T x 3 [(0, vR 200), (1, vI 4), (2, vI l), (3, vI a9), (4, vI t9), (5, vI i)] [] h1 0 0 := by
    intro n_3
    induction n_3 with
    | zero => intro i h1 g1 g2 hh hm_3; exact absurd hm_3 (Nat.not_lt_zero _)
    | succ n_3 ih_3 =>
      intro i h1 g1 g2 hh hm_3
      refine st_iload C dX11_most_3 rfl ?_
      refine st_bipush C dX11_most_5 (by decide) (by decide) ?_
      refine st_icmp_ge (tgt := 24) C dX11_most_7 (by decide) (fun c_7 => ?_) (fun c_7 => ?_)
      · refine st_iconst C dX11_most_24 (by decide) ?_
        refine st_istore C dX11_most_25 (by decide) rfl ?_
        show T x 27 [(0, vR 200), (1, vI 4), (2, vI l), (3, vI a9), (4, vI t9), (5, vI 0)] [] _ _ _
        have loop_27 : ∀ (n_27 : Nat) (j1 : Int) (h2 : HP), (0 ≤ j1) → (j1 ≤ 16) → (h2 = hput h 218 (oI 10 (cnF (fun k => mm (304 * mv + (64 * l + 8 * (t9 + k / 4) + a9 + k % 4))) f0 j1))) → (16 - j1).toNat < n_27 → T x 27 [(0, vR 200), (1, vI 4), (2, vI l), (3, vI a9), (4, vI t9), (5, vI j1)] [] h2 0 0 := by
          intro n_27
          induction n_27 with
          | zero => intro j1 h2 g3 g4 hh2 hm_27; exact absurd hm_27 (Nat.not_lt_zero _)
          | succ n_27 ih_27 =>
            intro j1 h2 g3 g4 hh2 hm_27
            have q1 : j1 < 16 → 0 ≤ mm (304 * mv + (64 * l + 8 * (t9 + j1 / 4) + a9 + j1 % 4)) ∧ mm (304 * mv + (64 * l + 8 * (t9 + j1 / 4) + a9 + j1 % 4)) ≤ 9 := fun z => hwa _ (by omega) (by omega)
            have q2 : j1 < 16 → 0 ≤ cnF (fun k => mm (304 * mv + (64 * l + 8 * (t9 + k / 4) + a9 + k % 4))) f0 j1 (mm (304 * mv + (64 * l + 8 * (t9 + j1 / 4) + a9 + j1 % 4))) ∧ cnF (fun k => mm (304 * mv + (64 * l + 8 * (t9 + k / 4) + a9 + k % 4))) f0 j1 (mm (304 * mv + (64 * l + 8 * (t9 + j1 / 4) + a9 + j1 % 4))) ≤ j1 := fun z => by rw [cnF_at (q1 z)]; exact cnt_in _ g3
            refine st_iload C dX11_most_27 rfl ?_
            refine st_iload_n C 1 dX11_most_29 rfl rfl ?_
            refine st_iload_n C 1 dX11_most_30 rfl rfl ?_
            refine st_imul C dX11_most_31 ⟨(by omega), (by omega)⟩ ?_
            refine st_icmp_ge (tgt := 76) C dX11_most_32 (by decide) (fun c_32 => ?_) (fun c_32 => ?_)
            · have e8 : j1 = 16 := by omega
              subst e8
              refine st_iconst C dX11_most_76 (by decide) ?_
              refine st_istore C dX11_most_77 (by decide) rfl ?_
              show T x 79 [(0, vR 200), (1, vI 4), (2, vI l), (3, vI a9), (4, vI t9), (5, vI 0)] [] _ _ _
              refine st_iconst C dX11_most_79 (by decide) ?_
              refine st_istore C dX11_most_80 (by decide) rfl ?_
              show T x 82 [(0, vR 200), (1, vI 4), (2, vI l), (3, vI a9), (4, vI t9), (5, vI 0), (6, vI 1)] [] _ _ _
              have loop_82 : ∀ (n_82 : Nat) (c1 : Int) (k1 : Int), (1 ≤ k1) → (k1 ≤ 10) → (McI (fun a => cnt (fun k => mm (304 * mv + (64 * l + 8 * (t9 + k / 4) + a9 + k % 4)) = a) 16) k1 c1) → (10 - k1).toNat < n_82 → T x 82 [(0, vR 200), (1, vI 4), (2, vI l), (3, vI a9), (4, vI t9), (5, vI c1), (6, vI k1)] [] h2 0 0 := by
                intro n_82
                induction n_82 with
                | zero => intro c1 k1 g5 g6 g7 hm_82; exact absurd hm_82 (Nat.not_lt_zero _)
                | succ n_82 ih_82 =>
                  intro c1 k1 g5 g6 g7 hm_82
                  have q3 := g7.1
                  have q4 : cnF (fun k => mm (304 * mv + (64 * l + 8 * (t9 + k / 4) + a9 + k % 4))) f0 16 c1 = (fun a => cnt (fun k => mm (304 * mv + (64 * l + 8 * (t9 + k / 4) + a9 + k % 4)) = a) 16) c1 := cnF_at (by omega)
                  have q5 : k1 < 10 → cnF (fun k => mm (304 * mv + (64 * l + 8 * (t9 + k / 4) + a9 + k % 4))) f0 16 k1 = (fun a => cnt (fun k => mm (304 * mv + (64 * l + 8 * (t9 + k / 4) + a9 + k % 4)) = a) 16) k1 := fun z => cnF_at (by omega)
                  refine st_iload C dX11_most_82 rfl ?_
                  refine st_bipush C dX11_most_84 (by decide) (by decide) ?_
                  refine st_icmp_ge (tgt := 121) C dX11_most_86 (by decide) (fun c_86 => ?_) (fun c_86 => ?_)
                  · refine st_iload C dX11_most_121 rfl ?_
                    exact st_ireturn C F dX11_most_123 rfl (rc_i (McI_e g7 (by omega)) hh2) (by omega) (by omega)
                  · refine st_aload_n C 0 dX11_most_89 rfl rfl ?_
                    refine st_getf C dX11_most_90 fl_X11_62 (by rw [hh2]; exact hput_o (by decide) hm) rfl ?_
                    refine st_iload C dX11_most_93 rfl ?_
                    refine st_iald C dX11_most_95 (by rw [hh2]; exact hput_s) (by omega) (by omega) ?_
                    refine st_aload_n C 0 dX11_most_96 rfl rfl ?_
                    refine st_getf C dX11_most_97 fl_X11_62 (by rw [hh2]; exact hput_o (by decide) hm) rfl ?_
                    refine st_iload C dX11_most_100 rfl ?_
                    refine st_iald C dX11_most_102 (by rw [hh2]; exact hput_s) (by omega) (by omega) ?_
                    refine st_icmp_le (tgt := 111) C dX11_most_103 (by decide) (fun c_103 => ?_) (fun c_103 => ?_)
                    · refine st_iload C dX11_most_111 rfl ?_
                      refine st_istore C dX11_most_113 (by decide) rfl ?_
                      show T x 115 [(0, vR 200), (1, vI 4), (2, vI l), (3, vI a9), (4, vI t9), (5, vI c1), (6, vI k1)] [] _ _ _
                      refine st_iinc C dX11_most_115 rfl (by decide) rfl ⟨(by omega), (by omega)⟩ ?_
                      show T x 118 [(0, vR 200), (1, vI 4), (2, vI l), (3, vI a9), (4, vI t9), (5, vI c1), (6, vI (k1 + 1))] [] _ _ _
                      refine st_goto (tgt := 82) C dX11_most_118 (by decide) ?_
                      exact ih_82 c1 (k1 + 1) (by omega) (by omega) (by first | exact McI_t2 (by omega) g7 q4 (q5 (by assumption)) (by assumption) | exact McI_f2 (by omega) g7 q4 (q5 (by assumption)) (by assumption)) (by omega)
                    · refine st_iload C dX11_most_106 rfl ?_
                      refine st_goto (tgt := 113) C dX11_most_108 (by decide) ?_
                      refine st_istore C dX11_most_113 (by decide) rfl ?_
                      show T x 115 [(0, vR 200), (1, vI 4), (2, vI l), (3, vI a9), (4, vI t9), (5, vI k1), (6, vI k1)] [] _ _ _
                      refine st_iinc C dX11_most_115 rfl (by decide) rfl ⟨(by omega), (by omega)⟩ ?_
                      show T x 118 [(0, vR 200), (1, vI 4), (2, vI l), (3, vI a9), (4, vI t9), (5, vI k1), (6, vI (k1 + 1))] [] _ _ _
                      refine st_goto (tgt := 82) C dX11_most_118 (by decide) ?_
                      exact ih_82 k1 (k1 + 1) (by omega) (by omega) (by first | exact McI_t2 (by omega) g7 q4 (q5 (by assumption)) (by assumption) | exact McI_f2 (by omega) g7 q4 (q5 (by assumption)) (by assumption)) (by omega)
              exact loop_82 _ 0 1 (by omega) (by omega) (McI_1 (cnt_in _ (by omega)).1) (Nat.lt_succ_self _)
            · refine st_aload_n C 0 dX11_most_35 rfl rfl ?_
              refine st_getf C dX11_most_36 fl_X11_62 (by rw [hh2]; exact hput_o (by decide) hm) rfl ?_
              refine st_aload_n C 0 dX11_most_39 rfl rfl ?_
              refine st_bipush C dX11_most_40 (by decide) (by decide) ?_
              refine st_iload_n C 2 dX11_most_42 rfl rfl ?_
              refine st_imul C dX11_most_43 ⟨(by omega), (by omega)⟩ ?_
              refine st_bipush C dX11_most_44 (by decide) (by decide) ?_
              refine st_iload C dX11_most_46 rfl ?_
              refine st_iload C dX11_most_48 rfl ?_
              refine st_iload_n C 1 dX11_most_50 rfl rfl ?_
              refine st_idiv C dX11_most_51 (by omega) (by omega) ?_
              refine st_iadd C dX11_most_52 ⟨(by omega), (by omega)⟩ ?_
              refine st_imul C dX11_most_53 ⟨(by omega), (by omega)⟩ ?_
              refine st_iadd C dX11_most_54 ⟨(by omega), (by omega)⟩ ?_
              refine st_iload_n C 3 dX11_most_55 rfl rfl ?_
              refine st_iadd C dX11_most_56 ⟨(by omega), (by omega)⟩ ?_
              refine st_iload C dX11_most_57 rfl ?_
              refine st_iload_n C 1 dX11_most_59 rfl rfl ?_
              refine st_irem C dX11_most_60 (by omega) (by omega) ?_
              refine st_iadd C dX11_most_61 ⟨(by omega), (by omega)⟩ ?_
              refine st_callV (st := [vR 218]) C dX11_most_62 [vI (64 * l + (8 * (t9 + (j1 / 4))) + a9 + (j1 % 4))] (k_now (mm := mm) (s9 := (64 * l + (8 * (t9 + (j1 / 4))) + a9 + (j1 % 4))) (by rw [hh2]; exact hput_o (by decide) hm) (by rw [hh2]; exact hput_o (by decide) hmm) hv (by omega)) (by rw [hh2]; exact hput_o (by decide) hm) w_X11_105 rfl (by decide) (by decide) (by omega) (by omega) (Nat.le_of_ble_eq_true rfl) (ko_rt ?_)
              show T x 65 [(0, vR 200), (1, vI 4), (2, vI l), (3, vI a9), (4, vI t9), (5, vI j1)] [vI (mm (304 * mv + (64 * l + (8 * (t9 + (j1 / 4))) + a9 + (j1 % 4)))), vR 218] _ _ _
              refine st_dup2 C dX11_most_65 rfl rfl ?_
              refine st_iald C dX11_most_66 (by rw [hh2]; exact hput_s) (by omega) (by omega) ?_
              refine st_iconst C dX11_most_67 (by decide) ?_
              refine st_iadd C dX11_most_68 ⟨(by omega), (by omega)⟩ ?_
              refine st_iast C dX11_most_69 (by rw [hh2]; exact hput_s) (by omega) (by omega) ?_
              refine st_iinc C dX11_most_70 rfl (by decide) rfl ⟨(by omega), (by omega)⟩ ?_
              show T x 73 [(0, vR 200), (1, vI 4), (2, vI l), (3, vI a9), (4, vI t9), (5, vI (j1 + 1))] [] _ _ _
              refine st_goto (tgt := 27) C dX11_most_73 (by decide) ?_
              exact ih_27 (j1 + 1) (hput h2 218 (oI 10 (fput (cnF (fun k => mm (304 * mv + (64 * l + 8 * (t9 + k / 4) + a9 + k % 4))) f0 j1) (mm (304 * mv + (64 * l + (8 * (t9 + (j1 / 4))) + a9 + (j1 % 4)))) ((cnF (fun k => mm (304 * mv + (64 * l + 8 * (t9 + k / 4) + a9 + k % 4))) f0 j1) (mm (304 * mv + (64 * l + (8 * (t9 + (j1 / 4))) + a9 + (j1 % 4)))) + 1)))) (by omega) (by omega) (by rw [hh2, hput_hput]; exact congrArg (fun z => hput h 218 (oI 10 z)) (cnF_s (W := (fun k => mm (304 * mv + (64 * l + 8 * (t9 + k / 4) + a9 + k % 4)))) g3 (q1 (by omega)))) (by omega)
        exact loop_27 _ 0 h1 (by omega) (by omega) (by rw [hh, show i = 10 by omega, cnF_0]) (Nat.lt_succ_self _)
      · refine st_aload_n C 0 dX11_most_10 rfl rfl ?_
        refine st_getf C dX11_most_11 fl_X11_62 (by rw [hh]; exact hput_o (by decide) hm) rfl ?_
        refine st_iload C dX11_most_14 rfl ?_
        refine st_iconst C dX11_most_16 (by decide) ?_
        refine st_iast C dX11_most_17 (by rw [hh]; exact hput_s) (by omega) (by omega) ?_
        refine st_iinc C dX11_most_18 rfl (by decide) rfl ⟨(by omega), (by omega)⟩ ?_
        show T x 21 [(0, vR 200), (1, vI 4), (2, vI l), (3, vI a9), (4, vI t9), (5, vI (i + 1))] [] _ _ _
        refine st_goto (tgt := 3) C dX11_most_21 (by decide) ?_
        exact ih_3 (i + 1) (hput h1 218 (oI 10 (fput (fmix (fun _ => 0) f0 i) i 0))) (by omega) (by omega) (by rw [hh, hput_hput, fmix_s g1 rfl]) (by omega)
  exact loop_3 _ 0 h (by omega) (by omega) (by rw [fmix_0]; exact (hput_self h218).symm) (Nat.lt_succ_self _)
set_option maxRecDepth 20000 in
set_option maxHeartbeats 4000000 in
theorem k_most8 {g : Gx} {h : HP} {mv mrc mmc mmk mdv mwl mwa mwp mth : Int} {mm : Int → Int} {f0 : Int → Int} {l a9 t9 : Int} (hm : mO h mv mrc mmc mmk mdv mwl mwa mwp mth) (hmm : h 201 = some (oI 12464 mm)) (hv : 0 ≤ mv ∧ mv ≤ 40) (h218 : h 218 = some (oI 10 f0)) (hl : 0 ≤ l ∧ l ≤ 2) (hx : 0 ≤ a9 ∧ a9 ≤ 0) (hy : 0 ≤ t9 ∧ t9 ≤ 0) (hwa : ∀ j, 304 * mv ≤ j → j ≤ 304 * mv + 191 → 0 ≤ mm j ∧ mm j ≤ 9) : Ct g yX11_most (.code yX11_most cX11_most 7 (some .int)) 2 0 0 [vR 200, vI 8, vI l, vI a9, vI t9] h (RtC (some (vI (mcb (fun a => cnt (fun k => mm (304 * mv + (64 * l + 8 * (t9 + k / 8) + a9 + k % 8)) = a) 64) 10).1)) h) := by
  refine Ct.of (by decide) (Nat.le_of_ble_eq_true rfl) (fun x hg C F => ?_)
  subst hg
  show T x 0 [(0, vR 200), (1, vI 8), (2, vI l), (3, vI a9), (4, vI t9)] [] h 0 0
  refine st_iconst C dX11_most_0 (by decide) ?_
  refine st_istore C dX11_most_1 (by decide) rfl ?_
  show T x 3 [(0, vR 200), (1, vI 8), (2, vI l), (3, vI a9), (4, vI t9), (5, vI 0)] [] _ _ _
  have loop_3 : ∀ (n_3 : Nat) (i : Int) (h1 : HP), (0 ≤ i) → (i ≤ 10) → (h1 = hput h 218 (oI 10 (fmix (fun _ => 0) f0 i))) → (10 - i).toNat < n_3 → T x 3 [(0, vR 200), (1, vI 8), (2, vI l), (3, vI a9), (4, vI t9), (5, vI i)] [] h1 0 0 := by
    intro n_3
    induction n_3 with
    | zero => intro i h1 g1 g2 hh hm_3; exact absurd hm_3 (Nat.not_lt_zero _)
    | succ n_3 ih_3 =>
      intro i h1 g1 g2 hh hm_3
      refine st_iload C dX11_most_3 rfl ?_
      refine st_bipush C dX11_most_5 (by decide) (by decide) ?_
      refine st_icmp_ge (tgt := 24) C dX11_most_7 (by decide) (fun c_7 => ?_) (fun c_7 => ?_)
      · refine st_iconst C dX11_most_24 (by decide) ?_
        refine st_istore C dX11_most_25 (by decide) rfl ?_
        show T x 27 [(0, vR 200), (1, vI 8), (2, vI l), (3, vI a9), (4, vI t9), (5, vI 0)] [] _ _ _
        have loop_27 : ∀ (n_27 : Nat) (j1 : Int) (h2 : HP), (0 ≤ j1) → (j1 ≤ 64) → (h2 = hput h 218 (oI 10 (cnF (fun k => mm (304 * mv + (64 * l + 8 * (t9 + k / 8) + a9 + k % 8))) f0 j1))) → (64 - j1).toNat < n_27 → T x 27 [(0, vR 200), (1, vI 8), (2, vI l), (3, vI a9), (4, vI t9), (5, vI j1)] [] h2 0 0 := by
          intro n_27
          induction n_27 with
          | zero => intro j1 h2 g3 g4 hh2 hm_27; exact absurd hm_27 (Nat.not_lt_zero _)
          | succ n_27 ih_27 =>
            intro j1 h2 g3 g4 hh2 hm_27
            have q1 : j1 < 64 → 0 ≤ mm (304 * mv + (64 * l + 8 * (t9 + j1 / 8) + a9 + j1 % 8)) ∧ mm (304 * mv + (64 * l + 8 * (t9 + j1 / 8) + a9 + j1 % 8)) ≤ 9 := fun z => hwa _ (by omega) (by omega)
            have q2 : j1 < 64 → 0 ≤ cnF (fun k => mm (304 * mv + (64 * l + 8 * (t9 + k / 8) + a9 + k % 8))) f0 j1 (mm (304 * mv + (64 * l + 8 * (t9 + j1 / 8) + a9 + j1 % 8))) ∧ cnF (fun k => mm (304 * mv + (64 * l + 8 * (t9 + k / 8) + a9 + k % 8))) f0 j1 (mm (304 * mv + (64 * l + 8 * (t9 + j1 / 8) + a9 + j1 % 8))) ≤ j1 := fun z => by rw [cnF_at (q1 z)]; exact cnt_in _ g3
            refine st_iload C dX11_most_27 rfl ?_
            refine st_iload_n C 1 dX11_most_29 rfl rfl ?_
            refine st_iload_n C 1 dX11_most_30 rfl rfl ?_
            refine st_imul C dX11_most_31 ⟨(by omega), (by omega)⟩ ?_
            refine st_icmp_ge (tgt := 76) C dX11_most_32 (by decide) (fun c_32 => ?_) (fun c_32 => ?_)
            · have e8 : j1 = 64 := by omega
              subst e8
              refine st_iconst C dX11_most_76 (by decide) ?_
              refine st_istore C dX11_most_77 (by decide) rfl ?_
              show T x 79 [(0, vR 200), (1, vI 8), (2, vI l), (3, vI a9), (4, vI t9), (5, vI 0)] [] _ _ _
              refine st_iconst C dX11_most_79 (by decide) ?_
              refine st_istore C dX11_most_80 (by decide) rfl ?_
              show T x 82 [(0, vR 200), (1, vI 8), (2, vI l), (3, vI a9), (4, vI t9), (5, vI 0), (6, vI 1)] [] _ _ _
              have loop_82 : ∀ (n_82 : Nat) (c1 : Int) (k1 : Int), (1 ≤ k1) → (k1 ≤ 10) → (McI (fun a => cnt (fun k => mm (304 * mv + (64 * l + 8 * (t9 + k / 8) + a9 + k % 8)) = a) 64) k1 c1) → (10 - k1).toNat < n_82 → T x 82 [(0, vR 200), (1, vI 8), (2, vI l), (3, vI a9), (4, vI t9), (5, vI c1), (6, vI k1)] [] h2 0 0 := by
                intro n_82
                induction n_82 with
                | zero => intro c1 k1 g5 g6 g7 hm_82; exact absurd hm_82 (Nat.not_lt_zero _)
                | succ n_82 ih_82 =>
                  intro c1 k1 g5 g6 g7 hm_82
                  have q3 := g7.1
                  have q4 : cnF (fun k => mm (304 * mv + (64 * l + 8 * (t9 + k / 8) + a9 + k % 8))) f0 64 c1 = (fun a => cnt (fun k => mm (304 * mv + (64 * l + 8 * (t9 + k / 8) + a9 + k % 8)) = a) 64) c1 := cnF_at (by omega)
                  have q5 : k1 < 10 → cnF (fun k => mm (304 * mv + (64 * l + 8 * (t9 + k / 8) + a9 + k % 8))) f0 64 k1 = (fun a => cnt (fun k => mm (304 * mv + (64 * l + 8 * (t9 + k / 8) + a9 + k % 8)) = a) 64) k1 := fun z => cnF_at (by omega)
                  refine st_iload C dX11_most_82 rfl ?_
                  refine st_bipush C dX11_most_84 (by decide) (by decide) ?_
                  refine st_icmp_ge (tgt := 121) C dX11_most_86 (by decide) (fun c_86 => ?_) (fun c_86 => ?_)
                  · refine st_iload C dX11_most_121 rfl ?_
                    exact st_ireturn C F dX11_most_123 rfl (rc_i (McI_e g7 (by omega)) hh2) (by omega) (by omega)
                  · refine st_aload_n C 0 dX11_most_89 rfl rfl ?_
                    refine st_getf C dX11_most_90 fl_X11_62 (by rw [hh2]; exact hput_o (by decide) hm) rfl ?_
                    refine st_iload C dX11_most_93 rfl ?_
                    refine st_iald C dX11_most_95 (by rw [hh2]; exact hput_s) (by omega) (by omega) ?_
                    refine st_aload_n C 0 dX11_most_96 rfl rfl ?_
                    refine st_getf C dX11_most_97 fl_X11_62 (by rw [hh2]; exact hput_o (by decide) hm) rfl ?_
                    refine st_iload C dX11_most_100 rfl ?_
                    refine st_iald C dX11_most_102 (by rw [hh2]; exact hput_s) (by omega) (by omega) ?_
                    refine st_icmp_le (tgt := 111) C dX11_most_103 (by decide) (fun c_103 => ?_) (fun c_103 => ?_)
                    · refine st_iload C dX11_most_111 rfl ?_
                      refine st_istore C dX11_most_113 (by decide) rfl ?_
                      show T x 115 [(0, vR 200), (1, vI 8), (2, vI l), (3, vI a9), (4, vI t9), (5, vI c1), (6, vI k1)] [] _ _ _
                      refine st_iinc C dX11_most_115 rfl (by decide) rfl ⟨(by omega), (by omega)⟩ ?_
                      show T x 118 [(0, vR 200), (1, vI 8), (2, vI l), (3, vI a9), (4, vI t9), (5, vI c1), (6, vI (k1 + 1))] [] _ _ _
                      refine st_goto (tgt := 82) C dX11_most_118 (by decide) ?_
                      exact ih_82 c1 (k1 + 1) (by omega) (by omega) (by first | exact McI_t2 (by omega) g7 q4 (q5 (by assumption)) (by assumption) | exact McI_f2 (by omega) g7 q4 (q5 (by assumption)) (by assumption)) (by omega)
                    · refine st_iload C dX11_most_106 rfl ?_
                      refine st_goto (tgt := 113) C dX11_most_108 (by decide) ?_
                      refine st_istore C dX11_most_113 (by decide) rfl ?_
                      show T x 115 [(0, vR 200), (1, vI 8), (2, vI l), (3, vI a9), (4, vI t9), (5, vI k1), (6, vI k1)] [] _ _ _
                      refine st_iinc C dX11_most_115 rfl (by decide) rfl ⟨(by omega), (by omega)⟩ ?_
                      show T x 118 [(0, vR 200), (1, vI 8), (2, vI l), (3, vI a9), (4, vI t9), (5, vI k1), (6, vI (k1 + 1))] [] _ _ _
                      refine st_goto (tgt := 82) C dX11_most_118 (by decide) ?_
                      exact ih_82 k1 (k1 + 1) (by omega) (by omega) (by first | exact McI_t2 (by omega) g7 q4 (q5 (by assumption)) (by assumption) | exact McI_f2 (by omega) g7 q4 (q5 (by assumption)) (by assumption)) (by omega)
              exact loop_82 _ 0 1 (by omega) (by omega) (McI_1 (cnt_in _ (by omega)).1) (Nat.lt_succ_self _)
            · refine st_aload_n C 0 dX11_most_35 rfl rfl ?_
              refine st_getf C dX11_most_36 fl_X11_62 (by rw [hh2]; exact hput_o (by decide) hm) rfl ?_
              refine st_aload_n C 0 dX11_most_39 rfl rfl ?_
              refine st_bipush C dX11_most_40 (by decide) (by decide) ?_
              refine st_iload_n C 2 dX11_most_42 rfl rfl ?_
              refine st_imul C dX11_most_43 ⟨(by omega), (by omega)⟩ ?_
              refine st_bipush C dX11_most_44 (by decide) (by decide) ?_
              refine st_iload C dX11_most_46 rfl ?_
              refine st_iload C dX11_most_48 rfl ?_
              refine st_iload_n C 1 dX11_most_50 rfl rfl ?_
              refine st_idiv C dX11_most_51 (by omega) (by omega) ?_
              refine st_iadd C dX11_most_52 ⟨(by omega), (by omega)⟩ ?_
              refine st_imul C dX11_most_53 ⟨(by omega), (by omega)⟩ ?_
              refine st_iadd C dX11_most_54 ⟨(by omega), (by omega)⟩ ?_
              refine st_iload_n C 3 dX11_most_55 rfl rfl ?_
              refine st_iadd C dX11_most_56 ⟨(by omega), (by omega)⟩ ?_
              refine st_iload C dX11_most_57 rfl ?_
              refine st_iload_n C 1 dX11_most_59 rfl rfl ?_
              refine st_irem C dX11_most_60 (by omega) (by omega) ?_
              refine st_iadd C dX11_most_61 ⟨(by omega), (by omega)⟩ ?_
              refine st_callV (st := [vR 218]) C dX11_most_62 [vI (64 * l + (8 * (t9 + (j1 / 8))) + a9 + (j1 % 8))] (k_now (mm := mm) (s9 := (64 * l + (8 * (t9 + (j1 / 8))) + a9 + (j1 % 8))) (by rw [hh2]; exact hput_o (by decide) hm) (by rw [hh2]; exact hput_o (by decide) hmm) hv (by omega)) (by rw [hh2]; exact hput_o (by decide) hm) w_X11_105 rfl (by decide) (by decide) (by omega) (by omega) (Nat.le_of_ble_eq_true rfl) (ko_rt ?_)
              show T x 65 [(0, vR 200), (1, vI 8), (2, vI l), (3, vI a9), (4, vI t9), (5, vI j1)] [vI (mm (304 * mv + (64 * l + (8 * (t9 + (j1 / 8))) + a9 + (j1 % 8)))), vR 218] _ _ _
              refine st_dup2 C dX11_most_65 rfl rfl ?_
              refine st_iald C dX11_most_66 (by rw [hh2]; exact hput_s) (by omega) (by omega) ?_
              refine st_iconst C dX11_most_67 (by decide) ?_
              refine st_iadd C dX11_most_68 ⟨(by omega), (by omega)⟩ ?_
              refine st_iast C dX11_most_69 (by rw [hh2]; exact hput_s) (by omega) (by omega) ?_
              refine st_iinc C dX11_most_70 rfl (by decide) rfl ⟨(by omega), (by omega)⟩ ?_
              show T x 73 [(0, vR 200), (1, vI 8), (2, vI l), (3, vI a9), (4, vI t9), (5, vI (j1 + 1))] [] _ _ _
              refine st_goto (tgt := 27) C dX11_most_73 (by decide) ?_
              exact ih_27 (j1 + 1) (hput h2 218 (oI 10 (fput (cnF (fun k => mm (304 * mv + (64 * l + 8 * (t9 + k / 8) + a9 + k % 8))) f0 j1) (mm (304 * mv + (64 * l + (8 * (t9 + (j1 / 8))) + a9 + (j1 % 8)))) ((cnF (fun k => mm (304 * mv + (64 * l + 8 * (t9 + k / 8) + a9 + k % 8))) f0 j1) (mm (304 * mv + (64 * l + (8 * (t9 + (j1 / 8))) + a9 + (j1 % 8)))) + 1)))) (by omega) (by omega) (by rw [hh2, hput_hput]; exact congrArg (fun z => hput h 218 (oI 10 z)) (cnF_s (W := (fun k => mm (304 * mv + (64 * l + 8 * (t9 + k / 8) + a9 + k % 8)))) g3 (q1 (by omega)))) (by omega)
        exact loop_27 _ 0 h1 (by omega) (by omega) (by rw [hh, show i = 10 by omega, cnF_0]) (Nat.lt_succ_self _)
      · refine st_aload_n C 0 dX11_most_10 rfl rfl ?_
        refine st_getf C dX11_most_11 fl_X11_62 (by rw [hh]; exact hput_o (by decide) hm) rfl ?_
        refine st_iload C dX11_most_14 rfl ?_
        refine st_iconst C dX11_most_16 (by decide) ?_
        refine st_iast C dX11_most_17 (by rw [hh]; exact hput_s) (by omega) (by omega) ?_
        refine st_iinc C dX11_most_18 rfl (by decide) rfl ⟨(by omega), (by omega)⟩ ?_
        show T x 21 [(0, vR 200), (1, vI 8), (2, vI l), (3, vI a9), (4, vI t9), (5, vI (i + 1))] [] _ _ _
        refine st_goto (tgt := 3) C dX11_most_21 (by decide) ?_
        exact ih_3 (i + 1) (hput h1 218 (oI 10 (fput (fmix (fun _ => 0) f0 i) i 0))) (by omega) (by omega) (by rw [hh, hput_hput, fmix_s g1 rfl]) (by omega)
  exact loop_3 _ 0 h (by omega) (by omega) (by rw [fmix_0]; exact (hput_self h218).symm) (Nat.lt_succ_self _)
set_option maxRecDepth 20000 in
set_option maxHeartbeats 4000000 in
theorem k_isOne1_t {g : Gx} {h : HP} {mv mrc mmc mmk mdv mwl mwa mwp mth : Int} {mm : Int → Int} {l p9 : Int} (hm : mO h mv mrc mmc mmk mdv mwl mwa mwp mth) (hmm : h 201 = some (oI 12464 mm)) (hv : 0 ≤ mv ∧ mv ≤ 40) (hl : 0 ≤ l ∧ l ≤ 2) (hp : 0 ≤ p9 ∧ p9 ≤ 63 ∧ p9 % 8 ≤ 7 ∧ p9 / 8 ≤ 7) (hP : (∀ k, 0 ≤ k → k < 1 → mm (304 * mv + (64 * l + p9 + 8 * (k / 1) + k % 1)) = mm (304 * mv + (64 * l + p9)))) : Ct g yX11_isOne (.code yX11_isOne cX11_isOne 6 (some .boolean)) 2 0 0 [vR 200, vI l, vI 1, vI p9] h (Rt (some (vI 1)) h) := by
  refine Ct.of (by decide) (Nat.le_of_ble_eq_true rfl) (fun x hg C F => ?_)
  subst hg
  show T x 0 [(0, vR 200), (1, vI l), (2, vI 1), (3, vI p9)] [] h 0 0
  refine st_iconst C dX11_isOne_0 (by decide) ?_
  refine st_istore C dX11_isOne_1 (by decide) rfl ?_
  show T x 3 [(0, vR 200), (1, vI l), (2, vI 1), (3, vI p9), (4, vI 1)] [] _ _ _
  refine st_iconst C dX11_isOne_3 (by decide) ?_
  refine st_istore C dX11_isOne_4 (by decide) rfl ?_
  show T x 6 [(0, vR 200), (1, vI l), (2, vI 1), (3, vI p9), (4, vI 1), (5, vI 0)] [] _ _ _
  have loop_6 : ∀ (n_6 : Nat) (c1 : Int) (i : Int), (0 ≤ i) → (i ≤ 1) → (AllB (fun k => mm (304 * mv + (64 * l + p9 + 8 * (k / 1) + k % 1)) = mm (304 * mv + (64 * l + p9))) i c1) → (1 - i).toNat < n_6 → T x 6 [(0, vR 200), (1, vI l), (2, vI 1), (3, vI p9), (4, vI c1), (5, vI i)] [] h 0 0 := by
    intro n_6
    induction n_6 with
    | zero => intro c1 i g1 g2 g3 hm_6; exact absurd hm_6 (Nat.not_lt_zero _)
    | succ n_6 ih_6 =>
      intro c1 i g1 g2 g3 hm_6
      have fc := allB_b g3
      refine st_iload C dX11_isOne_6 rfl ?_
      refine st_iload_n C 2 dX11_isOne_8 rfl rfl ?_
      refine st_iload_n C 2 dX11_isOne_9 rfl rfl ?_
      refine st_imul C dX11_isOne_10 ⟨(by omega), (by omega)⟩ ?_
      refine st_icmp_ge (tgt := 66) C dX11_isOne_11 (by decide) (fun c_11 => ?_) (fun c_11 => ?_)
      · refine st_iload C dX11_isOne_66 rfl ?_
        exact st_zreturn C F dX11_isOne_68 rfl (by omega) (rt_i (allB_1 g3 (by omega) hP) rfl) (by omega) (by omega)
      · refine st_iload C dX11_isOne_14 rfl ?_
        refine st_aload_n C 0 dX11_isOne_16 rfl rfl ?_
        refine st_bipush C dX11_isOne_17 (by decide) (by decide) ?_
        refine st_iload_n C 1 dX11_isOne_19 rfl rfl ?_
        refine st_imul C dX11_isOne_20 ⟨(by omega), (by omega)⟩ ?_
        refine st_iload_n C 3 dX11_isOne_21 rfl rfl ?_
        refine st_iadd C dX11_isOne_22 ⟨(by omega), (by omega)⟩ ?_
        refine st_bipush C dX11_isOne_23 (by decide) (by decide) ?_
        refine st_iload C dX11_isOne_25 rfl ?_
        refine st_iload_n C 2 dX11_isOne_27 rfl rfl ?_
        refine st_idiv C dX11_isOne_28 (by omega) (by omega) ?_
        refine st_imul C dX11_isOne_29 ⟨(by omega), (by omega)⟩ ?_
        refine st_iadd C dX11_isOne_30 ⟨(by omega), (by omega)⟩ ?_
        refine st_iload C dX11_isOne_31 rfl ?_
        refine st_iload_n C 2 dX11_isOne_33 rfl rfl ?_
        refine st_irem C dX11_isOne_34 (by omega) (by omega) ?_
        refine st_iadd C dX11_isOne_35 ⟨(by omega), (by omega)⟩ ?_
        refine st_callV (st := [vI c1]) C dX11_isOne_36 [vI (64 * l + p9 + (8 * (i / 1)) + (i % 1))] (k_now (mm := mm) (s9 := (64 * l + p9 + (8 * (i / 1)) + (i % 1))) hm hmm hv (by omega)) hm w_X11_105 rfl (by decide) (by decide) (by omega) (by omega) (Nat.le_of_ble_eq_true rfl) (ko_rt ?_)
        show T x 39 [(0, vR 200), (1, vI l), (2, vI 1), (3, vI p9), (4, vI c1), (5, vI i)] [vI (mm (304 * mv + (64 * l + p9 + (8 * (i / 1)) + (i % 1)))), vI c1] _ _ _
        refine st_aload_n C 0 dX11_isOne_39 rfl rfl ?_
        refine st_bipush C dX11_isOne_40 (by decide) (by decide) ?_
        refine st_iload_n C 1 dX11_isOne_42 rfl rfl ?_
        refine st_imul C dX11_isOne_43 ⟨(by omega), (by omega)⟩ ?_
        refine st_iload_n C 3 dX11_isOne_44 rfl rfl ?_
        refine st_iadd C dX11_isOne_45 ⟨(by omega), (by omega)⟩ ?_
        refine st_callV (st := [vI (mm (304 * mv + (64 * l + p9 + (8 * (i / 1)) + (i % 1)))), vI c1]) C dX11_isOne_46 [vI (64 * l + p9)] (k_now (mm := mm) (s9 := (64 * l + p9)) hm hmm hv (by omega)) hm w_X11_105 rfl (by decide) (by decide) (by omega) (by omega) (Nat.le_of_ble_eq_true rfl) (ko_rt ?_)
        show T x 49 [(0, vR 200), (1, vI l), (2, vI 1), (3, vI p9), (4, vI c1), (5, vI i)] [vI (mm (304 * mv + (64 * l + p9))), vI (mm (304 * mv + (64 * l + p9 + (8 * (i / 1)) + (i % 1)))), vI c1] _ _ _
        refine st_icmp_ne (tgt := 56) C dX11_isOne_49 (by decide) (fun c_49 => ?_) (fun c_49 => ?_)
        · refine st_iconst C dX11_isOne_56 (by decide) ?_
          refine st_iandB C dX11_isOne_57 (by omega) (by omega) ?_
          rw [Int.mul_zero]
          refine st_istore C dX11_isOne_58 (by decide) rfl ?_
          show T x 60 [(0, vR 200), (1, vI l), (2, vI 1), (3, vI p9), (4, vI 0), (5, vI i)] [] _ _ _
          refine st_iinc C dX11_isOne_60 rfl (by decide) rfl ⟨(by omega), (by omega)⟩ ?_
          show T x 63 [(0, vR 200), (1, vI l), (2, vI 1), (3, vI p9), (4, vI 0), (5, vI (i + 1))] [] _ _ _
          refine st_goto (tgt := 6) C dX11_isOne_63 (by decide) ?_
          exact ih_6 0 (i + 1) (by omega) (by omega) (by first | exact allB_t g3 (by assumption) | exact allB_f g1 (by assumption)) (by omega)
        · refine st_iconst C dX11_isOne_52 (by decide) ?_
          refine st_goto (tgt := 57) C dX11_isOne_53 (by decide) ?_
          refine st_iandB C dX11_isOne_57 (by omega) (by omega) ?_
          refine st_istore C dX11_isOne_58 (by decide) rfl ?_
          show T x 60 [(0, vR 200), (1, vI l), (2, vI 1), (3, vI p9), (4, vI (c1 * 1)), (5, vI i)] [] _ _ _
          refine st_iinc C dX11_isOne_60 rfl (by decide) rfl ⟨(by omega), (by omega)⟩ ?_
          show T x 63 [(0, vR 200), (1, vI l), (2, vI 1), (3, vI p9), (4, vI (c1 * 1)), (5, vI (i + 1))] [] _ _ _
          refine st_goto (tgt := 6) C dX11_isOne_63 (by decide) ?_
          exact ih_6 (c1 * 1) (i + 1) (by omega) (by omega) (by first | exact allB_t g3 (by assumption) | exact allB_f g1 (by assumption)) (by omega)
  exact loop_6 _ 1 0 (by omega) (by omega) (allB_0) (Nat.lt_succ_self _)
set_option maxRecDepth 20000 in
set_option maxHeartbeats 4000000 in
theorem k_isOne1_f {g : Gx} {h : HP} {mv mrc mmc mmk mdv mwl mwa mwp mth : Int} {mm : Int → Int} {l p9 : Int} (hm : mO h mv mrc mmc mmk mdv mwl mwa mwp mth) (hmm : h 201 = some (oI 12464 mm)) (hv : 0 ≤ mv ∧ mv ≤ 40) (hl : 0 ≤ l ∧ l ≤ 2) (hp : 0 ≤ p9 ∧ p9 ≤ 63 ∧ p9 % 8 ≤ 7 ∧ p9 / 8 ≤ 7) (hP : ¬ (∀ k, 0 ≤ k → k < 1 → mm (304 * mv + (64 * l + p9 + 8 * (k / 1) + k % 1)) = mm (304 * mv + (64 * l + p9)))) : Ct g yX11_isOne (.code yX11_isOne cX11_isOne 6 (some .boolean)) 2 0 0 [vR 200, vI l, vI 1, vI p9] h (Rt (some (vI 0)) h) := by
  refine Ct.of (by decide) (Nat.le_of_ble_eq_true rfl) (fun x hg C F => ?_)
  subst hg
  show T x 0 [(0, vR 200), (1, vI l), (2, vI 1), (3, vI p9)] [] h 0 0
  refine st_iconst C dX11_isOne_0 (by decide) ?_
  refine st_istore C dX11_isOne_1 (by decide) rfl ?_
  show T x 3 [(0, vR 200), (1, vI l), (2, vI 1), (3, vI p9), (4, vI 1)] [] _ _ _
  refine st_iconst C dX11_isOne_3 (by decide) ?_
  refine st_istore C dX11_isOne_4 (by decide) rfl ?_
  show T x 6 [(0, vR 200), (1, vI l), (2, vI 1), (3, vI p9), (4, vI 1), (5, vI 0)] [] _ _ _
  have loop_6 : ∀ (n_6 : Nat) (c1 : Int) (i : Int), (0 ≤ i) → (i ≤ 1) → (AllB (fun k => mm (304 * mv + (64 * l + p9 + 8 * (k / 1) + k % 1)) = mm (304 * mv + (64 * l + p9))) i c1) → (1 - i).toNat < n_6 → T x 6 [(0, vR 200), (1, vI l), (2, vI 1), (3, vI p9), (4, vI c1), (5, vI i)] [] h 0 0 := by
    intro n_6
    induction n_6 with
    | zero => intro c1 i g1 g2 g3 hm_6; exact absurd hm_6 (Nat.not_lt_zero _)
    | succ n_6 ih_6 =>
      intro c1 i g1 g2 g3 hm_6
      have fc := allB_b g3
      refine st_iload C dX11_isOne_6 rfl ?_
      refine st_iload_n C 2 dX11_isOne_8 rfl rfl ?_
      refine st_iload_n C 2 dX11_isOne_9 rfl rfl ?_
      refine st_imul C dX11_isOne_10 ⟨(by omega), (by omega)⟩ ?_
      refine st_icmp_ge (tgt := 66) C dX11_isOne_11 (by decide) (fun c_11 => ?_) (fun c_11 => ?_)
      · refine st_iload C dX11_isOne_66 rfl ?_
        exact st_zreturn C F dX11_isOne_68 rfl (by omega) (rt_i (allB_2 g3 (by omega) hP) rfl) (by omega) (by omega)
      · refine st_iload C dX11_isOne_14 rfl ?_
        refine st_aload_n C 0 dX11_isOne_16 rfl rfl ?_
        refine st_bipush C dX11_isOne_17 (by decide) (by decide) ?_
        refine st_iload_n C 1 dX11_isOne_19 rfl rfl ?_
        refine st_imul C dX11_isOne_20 ⟨(by omega), (by omega)⟩ ?_
        refine st_iload_n C 3 dX11_isOne_21 rfl rfl ?_
        refine st_iadd C dX11_isOne_22 ⟨(by omega), (by omega)⟩ ?_
        refine st_bipush C dX11_isOne_23 (by decide) (by decide) ?_
        refine st_iload C dX11_isOne_25 rfl ?_
        refine st_iload_n C 2 dX11_isOne_27 rfl rfl ?_
        refine st_idiv C dX11_isOne_28 (by omega) (by omega) ?_
        refine st_imul C dX11_isOne_29 ⟨(by omega), (by omega)⟩ ?_
        refine st_iadd C dX11_isOne_30 ⟨(by omega), (by omega)⟩ ?_
        refine st_iload C dX11_isOne_31 rfl ?_
        refine st_iload_n C 2 dX11_isOne_33 rfl rfl ?_
        refine st_irem C dX11_isOne_34 (by omega) (by omega) ?_
        refine st_iadd C dX11_isOne_35 ⟨(by omega), (by omega)⟩ ?_
        refine st_callV (st := [vI c1]) C dX11_isOne_36 [vI (64 * l + p9 + (8 * (i / 1)) + (i % 1))] (k_now (mm := mm) (s9 := (64 * l + p9 + (8 * (i / 1)) + (i % 1))) hm hmm hv (by omega)) hm w_X11_105 rfl (by decide) (by decide) (by omega) (by omega) (Nat.le_of_ble_eq_true rfl) (ko_rt ?_)
        show T x 39 [(0, vR 200), (1, vI l), (2, vI 1), (3, vI p9), (4, vI c1), (5, vI i)] [vI (mm (304 * mv + (64 * l + p9 + (8 * (i / 1)) + (i % 1)))), vI c1] _ _ _
        refine st_aload_n C 0 dX11_isOne_39 rfl rfl ?_
        refine st_bipush C dX11_isOne_40 (by decide) (by decide) ?_
        refine st_iload_n C 1 dX11_isOne_42 rfl rfl ?_
        refine st_imul C dX11_isOne_43 ⟨(by omega), (by omega)⟩ ?_
        refine st_iload_n C 3 dX11_isOne_44 rfl rfl ?_
        refine st_iadd C dX11_isOne_45 ⟨(by omega), (by omega)⟩ ?_
        refine st_callV (st := [vI (mm (304 * mv + (64 * l + p9 + (8 * (i / 1)) + (i % 1)))), vI c1]) C dX11_isOne_46 [vI (64 * l + p9)] (k_now (mm := mm) (s9 := (64 * l + p9)) hm hmm hv (by omega)) hm w_X11_105 rfl (by decide) (by decide) (by omega) (by omega) (Nat.le_of_ble_eq_true rfl) (ko_rt ?_)
        show T x 49 [(0, vR 200), (1, vI l), (2, vI 1), (3, vI p9), (4, vI c1), (5, vI i)] [vI (mm (304 * mv + (64 * l + p9))), vI (mm (304 * mv + (64 * l + p9 + (8 * (i / 1)) + (i % 1)))), vI c1] _ _ _
        refine st_icmp_ne (tgt := 56) C dX11_isOne_49 (by decide) (fun c_49 => ?_) (fun c_49 => ?_)
        · refine st_iconst C dX11_isOne_56 (by decide) ?_
          refine st_iandB C dX11_isOne_57 (by omega) (by omega) ?_
          rw [Int.mul_zero]
          refine st_istore C dX11_isOne_58 (by decide) rfl ?_
          show T x 60 [(0, vR 200), (1, vI l), (2, vI 1), (3, vI p9), (4, vI 0), (5, vI i)] [] _ _ _
          refine st_iinc C dX11_isOne_60 rfl (by decide) rfl ⟨(by omega), (by omega)⟩ ?_
          show T x 63 [(0, vR 200), (1, vI l), (2, vI 1), (3, vI p9), (4, vI 0), (5, vI (i + 1))] [] _ _ _
          refine st_goto (tgt := 6) C dX11_isOne_63 (by decide) ?_
          exact ih_6 0 (i + 1) (by omega) (by omega) (by first | exact allB_t g3 (by assumption) | exact allB_f g1 (by assumption)) (by omega)
        · refine st_iconst C dX11_isOne_52 (by decide) ?_
          refine st_goto (tgt := 57) C dX11_isOne_53 (by decide) ?_
          refine st_iandB C dX11_isOne_57 (by omega) (by omega) ?_
          refine st_istore C dX11_isOne_58 (by decide) rfl ?_
          show T x 60 [(0, vR 200), (1, vI l), (2, vI 1), (3, vI p9), (4, vI (c1 * 1)), (5, vI i)] [] _ _ _
          refine st_iinc C dX11_isOne_60 rfl (by decide) rfl ⟨(by omega), (by omega)⟩ ?_
          show T x 63 [(0, vR 200), (1, vI l), (2, vI 1), (3, vI p9), (4, vI (c1 * 1)), (5, vI (i + 1))] [] _ _ _
          refine st_goto (tgt := 6) C dX11_isOne_63 (by decide) ?_
          exact ih_6 (c1 * 1) (i + 1) (by omega) (by omega) (by first | exact allB_t g3 (by assumption) | exact allB_f g1 (by assumption)) (by omega)
  exact loop_6 _ 1 0 (by omega) (by omega) (allB_0) (Nat.lt_succ_self _)
set_option maxRecDepth 20000 in
set_option maxHeartbeats 4000000 in
theorem k_isOne2_t {g : Gx} {h : HP} {mv mrc mmc mmk mdv mwl mwa mwp mth : Int} {mm : Int → Int} {l p9 : Int} (hm : mO h mv mrc mmc mmk mdv mwl mwa mwp mth) (hmm : h 201 = some (oI 12464 mm)) (hv : 0 ≤ mv ∧ mv ≤ 40) (hl : 0 ≤ l ∧ l ≤ 2) (hp : 0 ≤ p9 ∧ p9 ≤ 63 ∧ p9 % 8 ≤ 6 ∧ p9 / 8 ≤ 6) (hP : (∀ k, 0 ≤ k → k < 4 → mm (304 * mv + (64 * l + p9 + 8 * (k / 2) + k % 2)) = mm (304 * mv + (64 * l + p9)))) : Ct g yX11_isOne (.code yX11_isOne cX11_isOne 6 (some .boolean)) 2 0 0 [vR 200, vI l, vI 2, vI p9] h (Rt (some (vI 1)) h) := by
  refine Ct.of (by decide) (Nat.le_of_ble_eq_true rfl) (fun x hg C F => ?_)
  subst hg
  show T x 0 [(0, vR 200), (1, vI l), (2, vI 2), (3, vI p9)] [] h 0 0
  refine st_iconst C dX11_isOne_0 (by decide) ?_
  refine st_istore C dX11_isOne_1 (by decide) rfl ?_
  show T x 3 [(0, vR 200), (1, vI l), (2, vI 2), (3, vI p9), (4, vI 1)] [] _ _ _
  refine st_iconst C dX11_isOne_3 (by decide) ?_
  refine st_istore C dX11_isOne_4 (by decide) rfl ?_
  show T x 6 [(0, vR 200), (1, vI l), (2, vI 2), (3, vI p9), (4, vI 1), (5, vI 0)] [] _ _ _
  have loop_6 : ∀ (n_6 : Nat) (c1 : Int) (i : Int), (0 ≤ i) → (i ≤ 4) → (AllB (fun k => mm (304 * mv + (64 * l + p9 + 8 * (k / 2) + k % 2)) = mm (304 * mv + (64 * l + p9))) i c1) → (4 - i).toNat < n_6 → T x 6 [(0, vR 200), (1, vI l), (2, vI 2), (3, vI p9), (4, vI c1), (5, vI i)] [] h 0 0 := by
    intro n_6
    induction n_6 with
    | zero => intro c1 i g1 g2 g3 hm_6; exact absurd hm_6 (Nat.not_lt_zero _)
    | succ n_6 ih_6 =>
      intro c1 i g1 g2 g3 hm_6
      have fc := allB_b g3
      refine st_iload C dX11_isOne_6 rfl ?_
      refine st_iload_n C 2 dX11_isOne_8 rfl rfl ?_
      refine st_iload_n C 2 dX11_isOne_9 rfl rfl ?_
      refine st_imul C dX11_isOne_10 ⟨(by omega), (by omega)⟩ ?_
      refine st_icmp_ge (tgt := 66) C dX11_isOne_11 (by decide) (fun c_11 => ?_) (fun c_11 => ?_)
      · refine st_iload C dX11_isOne_66 rfl ?_
        exact st_zreturn C F dX11_isOne_68 rfl (by omega) (rt_i (allB_1 g3 (by omega) hP) rfl) (by omega) (by omega)
      · refine st_iload C dX11_isOne_14 rfl ?_
        refine st_aload_n C 0 dX11_isOne_16 rfl rfl ?_
        refine st_bipush C dX11_isOne_17 (by decide) (by decide) ?_
        refine st_iload_n C 1 dX11_isOne_19 rfl rfl ?_
        refine st_imul C dX11_isOne_20 ⟨(by omega), (by omega)⟩ ?_
        refine st_iload_n C 3 dX11_isOne_21 rfl rfl ?_
        refine st_iadd C dX11_isOne_22 ⟨(by omega), (by omega)⟩ ?_
        refine st_bipush C dX11_isOne_23 (by decide) (by decide) ?_
        refine st_iload C dX11_isOne_25 rfl ?_
        refine st_iload_n C 2 dX11_isOne_27 rfl rfl ?_
        refine st_idiv C dX11_isOne_28 (by omega) (by omega) ?_
        refine st_imul C dX11_isOne_29 ⟨(by omega), (by omega)⟩ ?_
        refine st_iadd C dX11_isOne_30 ⟨(by omega), (by omega)⟩ ?_
        refine st_iload C dX11_isOne_31 rfl ?_
        refine st_iload_n C 2 dX11_isOne_33 rfl rfl ?_
        refine st_irem C dX11_isOne_34 (by omega) (by omega) ?_
        refine st_iadd C dX11_isOne_35 ⟨(by omega), (by omega)⟩ ?_
        refine st_callV (st := [vI c1]) C dX11_isOne_36 [vI (64 * l + p9 + (8 * (i / 2)) + (i % 2))] (k_now (mm := mm) (s9 := (64 * l + p9 + (8 * (i / 2)) + (i % 2))) hm hmm hv (by omega)) hm w_X11_105 rfl (by decide) (by decide) (by omega) (by omega) (Nat.le_of_ble_eq_true rfl) (ko_rt ?_)
        show T x 39 [(0, vR 200), (1, vI l), (2, vI 2), (3, vI p9), (4, vI c1), (5, vI i)] [vI (mm (304 * mv + (64 * l + p9 + (8 * (i / 2)) + (i % 2)))), vI c1] _ _ _
        refine st_aload_n C 0 dX11_isOne_39 rfl rfl ?_
        refine st_bipush C dX11_isOne_40 (by decide) (by decide) ?_
        refine st_iload_n C 1 dX11_isOne_42 rfl rfl ?_
        refine st_imul C dX11_isOne_43 ⟨(by omega), (by omega)⟩ ?_
        refine st_iload_n C 3 dX11_isOne_44 rfl rfl ?_
        refine st_iadd C dX11_isOne_45 ⟨(by omega), (by omega)⟩ ?_
        refine st_callV (st := [vI (mm (304 * mv + (64 * l + p9 + (8 * (i / 2)) + (i % 2)))), vI c1]) C dX11_isOne_46 [vI (64 * l + p9)] (k_now (mm := mm) (s9 := (64 * l + p9)) hm hmm hv (by omega)) hm w_X11_105 rfl (by decide) (by decide) (by omega) (by omega) (Nat.le_of_ble_eq_true rfl) (ko_rt ?_)
        show T x 49 [(0, vR 200), (1, vI l), (2, vI 2), (3, vI p9), (4, vI c1), (5, vI i)] [vI (mm (304 * mv + (64 * l + p9))), vI (mm (304 * mv + (64 * l + p9 + (8 * (i / 2)) + (i % 2)))), vI c1] _ _ _
        refine st_icmp_ne (tgt := 56) C dX11_isOne_49 (by decide) (fun c_49 => ?_) (fun c_49 => ?_)
        · refine st_iconst C dX11_isOne_56 (by decide) ?_
          refine st_iandB C dX11_isOne_57 (by omega) (by omega) ?_
          rw [Int.mul_zero]
          refine st_istore C dX11_isOne_58 (by decide) rfl ?_
          show T x 60 [(0, vR 200), (1, vI l), (2, vI 2), (3, vI p9), (4, vI 0), (5, vI i)] [] _ _ _
          refine st_iinc C dX11_isOne_60 rfl (by decide) rfl ⟨(by omega), (by omega)⟩ ?_
          show T x 63 [(0, vR 200), (1, vI l), (2, vI 2), (3, vI p9), (4, vI 0), (5, vI (i + 1))] [] _ _ _
          refine st_goto (tgt := 6) C dX11_isOne_63 (by decide) ?_
          exact ih_6 0 (i + 1) (by omega) (by omega) (by first | exact allB_t g3 (by assumption) | exact allB_f g1 (by assumption)) (by omega)
        · refine st_iconst C dX11_isOne_52 (by decide) ?_
          refine st_goto (tgt := 57) C dX11_isOne_53 (by decide) ?_
          refine st_iandB C dX11_isOne_57 (by omega) (by omega) ?_
          refine st_istore C dX11_isOne_58 (by decide) rfl ?_
          show T x 60 [(0, vR 200), (1, vI l), (2, vI 2), (3, vI p9), (4, vI (c1 * 1)), (5, vI i)] [] _ _ _
          refine st_iinc C dX11_isOne_60 rfl (by decide) rfl ⟨(by omega), (by omega)⟩ ?_
          show T x 63 [(0, vR 200), (1, vI l), (2, vI 2), (3, vI p9), (4, vI (c1 * 1)), (5, vI (i + 1))] [] _ _ _
          refine st_goto (tgt := 6) C dX11_isOne_63 (by decide) ?_
          exact ih_6 (c1 * 1) (i + 1) (by omega) (by omega) (by first | exact allB_t g3 (by assumption) | exact allB_f g1 (by assumption)) (by omega)
  exact loop_6 _ 1 0 (by omega) (by omega) (allB_0) (Nat.lt_succ_self _)
set_option maxRecDepth 20000 in
set_option maxHeartbeats 4000000 in
theorem k_isOne2_f {g : Gx} {h : HP} {mv mrc mmc mmk mdv mwl mwa mwp mth : Int} {mm : Int → Int} {l p9 : Int} (hm : mO h mv mrc mmc mmk mdv mwl mwa mwp mth) (hmm : h 201 = some (oI 12464 mm)) (hv : 0 ≤ mv ∧ mv ≤ 40) (hl : 0 ≤ l ∧ l ≤ 2) (hp : 0 ≤ p9 ∧ p9 ≤ 63 ∧ p9 % 8 ≤ 6 ∧ p9 / 8 ≤ 6) (hP : ¬ (∀ k, 0 ≤ k → k < 4 → mm (304 * mv + (64 * l + p9 + 8 * (k / 2) + k % 2)) = mm (304 * mv + (64 * l + p9)))) : Ct g yX11_isOne (.code yX11_isOne cX11_isOne 6 (some .boolean)) 2 0 0 [vR 200, vI l, vI 2, vI p9] h (Rt (some (vI 0)) h) := by
  refine Ct.of (by decide) (Nat.le_of_ble_eq_true rfl) (fun x hg C F => ?_)
  subst hg
  show T x 0 [(0, vR 200), (1, vI l), (2, vI 2), (3, vI p9)] [] h 0 0
  refine st_iconst C dX11_isOne_0 (by decide) ?_
  refine st_istore C dX11_isOne_1 (by decide) rfl ?_
  show T x 3 [(0, vR 200), (1, vI l), (2, vI 2), (3, vI p9), (4, vI 1)] [] _ _ _
  refine st_iconst C dX11_isOne_3 (by decide) ?_
  refine st_istore C dX11_isOne_4 (by decide) rfl ?_
  show T x 6 [(0, vR 200), (1, vI l), (2, vI 2), (3, vI p9), (4, vI 1), (5, vI 0)] [] _ _ _
  have loop_6 : ∀ (n_6 : Nat) (c1 : Int) (i : Int), (0 ≤ i) → (i ≤ 4) → (AllB (fun k => mm (304 * mv + (64 * l + p9 + 8 * (k / 2) + k % 2)) = mm (304 * mv + (64 * l + p9))) i c1) → (4 - i).toNat < n_6 → T x 6 [(0, vR 200), (1, vI l), (2, vI 2), (3, vI p9), (4, vI c1), (5, vI i)] [] h 0 0 := by
    intro n_6
    induction n_6 with
    | zero => intro c1 i g1 g2 g3 hm_6; exact absurd hm_6 (Nat.not_lt_zero _)
    | succ n_6 ih_6 =>
      intro c1 i g1 g2 g3 hm_6
      have fc := allB_b g3
      refine st_iload C dX11_isOne_6 rfl ?_
      refine st_iload_n C 2 dX11_isOne_8 rfl rfl ?_
      refine st_iload_n C 2 dX11_isOne_9 rfl rfl ?_
      refine st_imul C dX11_isOne_10 ⟨(by omega), (by omega)⟩ ?_
      refine st_icmp_ge (tgt := 66) C dX11_isOne_11 (by decide) (fun c_11 => ?_) (fun c_11 => ?_)
      · refine st_iload C dX11_isOne_66 rfl ?_
        exact st_zreturn C F dX11_isOne_68 rfl (by omega) (rt_i (allB_2 g3 (by omega) hP) rfl) (by omega) (by omega)
      · refine st_iload C dX11_isOne_14 rfl ?_
        refine st_aload_n C 0 dX11_isOne_16 rfl rfl ?_
        refine st_bipush C dX11_isOne_17 (by decide) (by decide) ?_
        refine st_iload_n C 1 dX11_isOne_19 rfl rfl ?_
        refine st_imul C dX11_isOne_20 ⟨(by omega), (by omega)⟩ ?_
        refine st_iload_n C 3 dX11_isOne_21 rfl rfl ?_
        refine st_iadd C dX11_isOne_22 ⟨(by omega), (by omega)⟩ ?_
        refine st_bipush C dX11_isOne_23 (by decide) (by decide) ?_
        refine st_iload C dX11_isOne_25 rfl ?_
        refine st_iload_n C 2 dX11_isOne_27 rfl rfl ?_
        refine st_idiv C dX11_isOne_28 (by omega) (by omega) ?_
        refine st_imul C dX11_isOne_29 ⟨(by omega), (by omega)⟩ ?_
        refine st_iadd C dX11_isOne_30 ⟨(by omega), (by omega)⟩ ?_
        refine st_iload C dX11_isOne_31 rfl ?_
        refine st_iload_n C 2 dX11_isOne_33 rfl rfl ?_
        refine st_irem C dX11_isOne_34 (by omega) (by omega) ?_
        refine st_iadd C dX11_isOne_35 ⟨(by omega), (by omega)⟩ ?_
        refine st_callV (st := [vI c1]) C dX11_isOne_36 [vI (64 * l + p9 + (8 * (i / 2)) + (i % 2))] (k_now (mm := mm) (s9 := (64 * l + p9 + (8 * (i / 2)) + (i % 2))) hm hmm hv (by omega)) hm w_X11_105 rfl (by decide) (by decide) (by omega) (by omega) (Nat.le_of_ble_eq_true rfl) (ko_rt ?_)
        show T x 39 [(0, vR 200), (1, vI l), (2, vI 2), (3, vI p9), (4, vI c1), (5, vI i)] [vI (mm (304 * mv + (64 * l + p9 + (8 * (i / 2)) + (i % 2)))), vI c1] _ _ _
        refine st_aload_n C 0 dX11_isOne_39 rfl rfl ?_
        refine st_bipush C dX11_isOne_40 (by decide) (by decide) ?_
        refine st_iload_n C 1 dX11_isOne_42 rfl rfl ?_
        refine st_imul C dX11_isOne_43 ⟨(by omega), (by omega)⟩ ?_
        refine st_iload_n C 3 dX11_isOne_44 rfl rfl ?_
        refine st_iadd C dX11_isOne_45 ⟨(by omega), (by omega)⟩ ?_
        refine st_callV (st := [vI (mm (304 * mv + (64 * l + p9 + (8 * (i / 2)) + (i % 2)))), vI c1]) C dX11_isOne_46 [vI (64 * l + p9)] (k_now (mm := mm) (s9 := (64 * l + p9)) hm hmm hv (by omega)) hm w_X11_105 rfl (by decide) (by decide) (by omega) (by omega) (Nat.le_of_ble_eq_true rfl) (ko_rt ?_)
        show T x 49 [(0, vR 200), (1, vI l), (2, vI 2), (3, vI p9), (4, vI c1), (5, vI i)] [vI (mm (304 * mv + (64 * l + p9))), vI (mm (304 * mv + (64 * l + p9 + (8 * (i / 2)) + (i % 2)))), vI c1] _ _ _
        refine st_icmp_ne (tgt := 56) C dX11_isOne_49 (by decide) (fun c_49 => ?_) (fun c_49 => ?_)
        · refine st_iconst C dX11_isOne_56 (by decide) ?_
          refine st_iandB C dX11_isOne_57 (by omega) (by omega) ?_
          rw [Int.mul_zero]
          refine st_istore C dX11_isOne_58 (by decide) rfl ?_
          show T x 60 [(0, vR 200), (1, vI l), (2, vI 2), (3, vI p9), (4, vI 0), (5, vI i)] [] _ _ _
          refine st_iinc C dX11_isOne_60 rfl (by decide) rfl ⟨(by omega), (by omega)⟩ ?_
          show T x 63 [(0, vR 200), (1, vI l), (2, vI 2), (3, vI p9), (4, vI 0), (5, vI (i + 1))] [] _ _ _
          refine st_goto (tgt := 6) C dX11_isOne_63 (by decide) ?_
          exact ih_6 0 (i + 1) (by omega) (by omega) (by first | exact allB_t g3 (by assumption) | exact allB_f g1 (by assumption)) (by omega)
        · refine st_iconst C dX11_isOne_52 (by decide) ?_
          refine st_goto (tgt := 57) C dX11_isOne_53 (by decide) ?_
          refine st_iandB C dX11_isOne_57 (by omega) (by omega) ?_
          refine st_istore C dX11_isOne_58 (by decide) rfl ?_
          show T x 60 [(0, vR 200), (1, vI l), (2, vI 2), (3, vI p9), (4, vI (c1 * 1)), (5, vI i)] [] _ _ _
          refine st_iinc C dX11_isOne_60 rfl (by decide) rfl ⟨(by omega), (by omega)⟩ ?_
          show T x 63 [(0, vR 200), (1, vI l), (2, vI 2), (3, vI p9), (4, vI (c1 * 1)), (5, vI (i + 1))] [] _ _ _
          refine st_goto (tgt := 6) C dX11_isOne_63 (by decide) ?_
          exact ih_6 (c1 * 1) (i + 1) (by omega) (by omega) (by first | exact allB_t g3 (by assumption) | exact allB_f g1 (by assumption)) (by omega)
  exact loop_6 _ 1 0 (by omega) (by omega) (allB_0) (Nat.lt_succ_self _)
set_option maxRecDepth 20000 in
set_option maxHeartbeats 4000000 in
theorem k_isOne4_t {g : Gx} {h : HP} {mv mrc mmc mmk mdv mwl mwa mwp mth : Int} {mm : Int → Int} {l p9 : Int} (hm : mO h mv mrc mmc mmk mdv mwl mwa mwp mth) (hmm : h 201 = some (oI 12464 mm)) (hv : 0 ≤ mv ∧ mv ≤ 40) (hl : 0 ≤ l ∧ l ≤ 2) (hp : 0 ≤ p9 ∧ p9 ≤ 63 ∧ p9 % 8 ≤ 4 ∧ p9 / 8 ≤ 4) (hP : (∀ k, 0 ≤ k → k < 16 → mm (304 * mv + (64 * l + p9 + 8 * (k / 4) + k % 4)) = mm (304 * mv + (64 * l + p9)))) : Ct g yX11_isOne (.code yX11_isOne cX11_isOne 6 (some .boolean)) 2 0 0 [vR 200, vI l, vI 4, vI p9] h (Rt (some (vI 1)) h) := by
  refine Ct.of (by decide) (Nat.le_of_ble_eq_true rfl) (fun x hg C F => ?_)
  subst hg
  show T x 0 [(0, vR 200), (1, vI l), (2, vI 4), (3, vI p9)] [] h 0 0
  refine st_iconst C dX11_isOne_0 (by decide) ?_
  refine st_istore C dX11_isOne_1 (by decide) rfl ?_
  show T x 3 [(0, vR 200), (1, vI l), (2, vI 4), (3, vI p9), (4, vI 1)] [] _ _ _
  refine st_iconst C dX11_isOne_3 (by decide) ?_
  refine st_istore C dX11_isOne_4 (by decide) rfl ?_
  show T x 6 [(0, vR 200), (1, vI l), (2, vI 4), (3, vI p9), (4, vI 1), (5, vI 0)] [] _ _ _
  have loop_6 : ∀ (n_6 : Nat) (c1 : Int) (i : Int), (0 ≤ i) → (i ≤ 16) → (AllB (fun k => mm (304 * mv + (64 * l + p9 + 8 * (k / 4) + k % 4)) = mm (304 * mv + (64 * l + p9))) i c1) → (16 - i).toNat < n_6 → T x 6 [(0, vR 200), (1, vI l), (2, vI 4), (3, vI p9), (4, vI c1), (5, vI i)] [] h 0 0 := by
    intro n_6
    induction n_6 with
    | zero => intro c1 i g1 g2 g3 hm_6; exact absurd hm_6 (Nat.not_lt_zero _)
    | succ n_6 ih_6 =>
      intro c1 i g1 g2 g3 hm_6
      have fc := allB_b g3
      refine st_iload C dX11_isOne_6 rfl ?_
      refine st_iload_n C 2 dX11_isOne_8 rfl rfl ?_
      refine st_iload_n C 2 dX11_isOne_9 rfl rfl ?_
      refine st_imul C dX11_isOne_10 ⟨(by omega), (by omega)⟩ ?_
      refine st_icmp_ge (tgt := 66) C dX11_isOne_11 (by decide) (fun c_11 => ?_) (fun c_11 => ?_)
      · refine st_iload C dX11_isOne_66 rfl ?_
        exact st_zreturn C F dX11_isOne_68 rfl (by omega) (rt_i (allB_1 g3 (by omega) hP) rfl) (by omega) (by omega)
      · refine st_iload C dX11_isOne_14 rfl ?_
        refine st_aload_n C 0 dX11_isOne_16 rfl rfl ?_
        refine st_bipush C dX11_isOne_17 (by decide) (by decide) ?_
        refine st_iload_n C 1 dX11_isOne_19 rfl rfl ?_
        refine st_imul C dX11_isOne_20 ⟨(by omega), (by omega)⟩ ?_
        refine st_iload_n C 3 dX11_isOne_21 rfl rfl ?_
        refine st_iadd C dX11_isOne_22 ⟨(by omega), (by omega)⟩ ?_
        refine st_bipush C dX11_isOne_23 (by decide) (by decide) ?_
        refine st_iload C dX11_isOne_25 rfl ?_
        refine st_iload_n C 2 dX11_isOne_27 rfl rfl ?_
        refine st_idiv C dX11_isOne_28 (by omega) (by omega) ?_
        refine st_imul C dX11_isOne_29 ⟨(by omega), (by omega)⟩ ?_
        refine st_iadd C dX11_isOne_30 ⟨(by omega), (by omega)⟩ ?_
        refine st_iload C dX11_isOne_31 rfl ?_
        refine st_iload_n C 2 dX11_isOne_33 rfl rfl ?_
        refine st_irem C dX11_isOne_34 (by omega) (by omega) ?_
        refine st_iadd C dX11_isOne_35 ⟨(by omega), (by omega)⟩ ?_
        refine st_callV (st := [vI c1]) C dX11_isOne_36 [vI (64 * l + p9 + (8 * (i / 4)) + (i % 4))] (k_now (mm := mm) (s9 := (64 * l + p9 + (8 * (i / 4)) + (i % 4))) hm hmm hv (by omega)) hm w_X11_105 rfl (by decide) (by decide) (by omega) (by omega) (Nat.le_of_ble_eq_true rfl) (ko_rt ?_)
        show T x 39 [(0, vR 200), (1, vI l), (2, vI 4), (3, vI p9), (4, vI c1), (5, vI i)] [vI (mm (304 * mv + (64 * l + p9 + (8 * (i / 4)) + (i % 4)))), vI c1] _ _ _
        refine st_aload_n C 0 dX11_isOne_39 rfl rfl ?_
        refine st_bipush C dX11_isOne_40 (by decide) (by decide) ?_
        refine st_iload_n C 1 dX11_isOne_42 rfl rfl ?_
        refine st_imul C dX11_isOne_43 ⟨(by omega), (by omega)⟩ ?_
        refine st_iload_n C 3 dX11_isOne_44 rfl rfl ?_
        refine st_iadd C dX11_isOne_45 ⟨(by omega), (by omega)⟩ ?_
        refine st_callV (st := [vI (mm (304 * mv + (64 * l + p9 + (8 * (i / 4)) + (i % 4)))), vI c1]) C dX11_isOne_46 [vI (64 * l + p9)] (k_now (mm := mm) (s9 := (64 * l + p9)) hm hmm hv (by omega)) hm w_X11_105 rfl (by decide) (by decide) (by omega) (by omega) (Nat.le_of_ble_eq_true rfl) (ko_rt ?_)
        show T x 49 [(0, vR 200), (1, vI l), (2, vI 4), (3, vI p9), (4, vI c1), (5, vI i)] [vI (mm (304 * mv + (64 * l + p9))), vI (mm (304 * mv + (64 * l + p9 + (8 * (i / 4)) + (i % 4)))), vI c1] _ _ _
        refine st_icmp_ne (tgt := 56) C dX11_isOne_49 (by decide) (fun c_49 => ?_) (fun c_49 => ?_)
        · refine st_iconst C dX11_isOne_56 (by decide) ?_
          refine st_iandB C dX11_isOne_57 (by omega) (by omega) ?_
          rw [Int.mul_zero]
          refine st_istore C dX11_isOne_58 (by decide) rfl ?_
          show T x 60 [(0, vR 200), (1, vI l), (2, vI 4), (3, vI p9), (4, vI 0), (5, vI i)] [] _ _ _
          refine st_iinc C dX11_isOne_60 rfl (by decide) rfl ⟨(by omega), (by omega)⟩ ?_
          show T x 63 [(0, vR 200), (1, vI l), (2, vI 4), (3, vI p9), (4, vI 0), (5, vI (i + 1))] [] _ _ _
          refine st_goto (tgt := 6) C dX11_isOne_63 (by decide) ?_
          exact ih_6 0 (i + 1) (by omega) (by omega) (by first | exact allB_t g3 (by assumption) | exact allB_f g1 (by assumption)) (by omega)
        · refine st_iconst C dX11_isOne_52 (by decide) ?_
          refine st_goto (tgt := 57) C dX11_isOne_53 (by decide) ?_
          refine st_iandB C dX11_isOne_57 (by omega) (by omega) ?_
          refine st_istore C dX11_isOne_58 (by decide) rfl ?_
          show T x 60 [(0, vR 200), (1, vI l), (2, vI 4), (3, vI p9), (4, vI (c1 * 1)), (5, vI i)] [] _ _ _
          refine st_iinc C dX11_isOne_60 rfl (by decide) rfl ⟨(by omega), (by omega)⟩ ?_
          show T x 63 [(0, vR 200), (1, vI l), (2, vI 4), (3, vI p9), (4, vI (c1 * 1)), (5, vI (i + 1))] [] _ _ _
          refine st_goto (tgt := 6) C dX11_isOne_63 (by decide) ?_
          exact ih_6 (c1 * 1) (i + 1) (by omega) (by omega) (by first | exact allB_t g3 (by assumption) | exact allB_f g1 (by assumption)) (by omega)
  exact loop_6 _ 1 0 (by omega) (by omega) (allB_0) (Nat.lt_succ_self _)
set_option maxRecDepth 20000 in
set_option maxHeartbeats 4000000 in
theorem k_isOne4_f {g : Gx} {h : HP} {mv mrc mmc mmk mdv mwl mwa mwp mth : Int} {mm : Int → Int} {l p9 : Int} (hm : mO h mv mrc mmc mmk mdv mwl mwa mwp mth) (hmm : h 201 = some (oI 12464 mm)) (hv : 0 ≤ mv ∧ mv ≤ 40) (hl : 0 ≤ l ∧ l ≤ 2) (hp : 0 ≤ p9 ∧ p9 ≤ 63 ∧ p9 % 8 ≤ 4 ∧ p9 / 8 ≤ 4) (hP : ¬ (∀ k, 0 ≤ k → k < 16 → mm (304 * mv + (64 * l + p9 + 8 * (k / 4) + k % 4)) = mm (304 * mv + (64 * l + p9)))) : Ct g yX11_isOne (.code yX11_isOne cX11_isOne 6 (some .boolean)) 2 0 0 [vR 200, vI l, vI 4, vI p9] h (Rt (some (vI 0)) h) := by
  refine Ct.of (by decide) (Nat.le_of_ble_eq_true rfl) (fun x hg C F => ?_)
  subst hg
  show T x 0 [(0, vR 200), (1, vI l), (2, vI 4), (3, vI p9)] [] h 0 0
  refine st_iconst C dX11_isOne_0 (by decide) ?_
  refine st_istore C dX11_isOne_1 (by decide) rfl ?_
  show T x 3 [(0, vR 200), (1, vI l), (2, vI 4), (3, vI p9), (4, vI 1)] [] _ _ _
  refine st_iconst C dX11_isOne_3 (by decide) ?_
  refine st_istore C dX11_isOne_4 (by decide) rfl ?_
  show T x 6 [(0, vR 200), (1, vI l), (2, vI 4), (3, vI p9), (4, vI 1), (5, vI 0)] [] _ _ _
  have loop_6 : ∀ (n_6 : Nat) (c1 : Int) (i : Int), (0 ≤ i) → (i ≤ 16) → (AllB (fun k => mm (304 * mv + (64 * l + p9 + 8 * (k / 4) + k % 4)) = mm (304 * mv + (64 * l + p9))) i c1) → (16 - i).toNat < n_6 → T x 6 [(0, vR 200), (1, vI l), (2, vI 4), (3, vI p9), (4, vI c1), (5, vI i)] [] h 0 0 := by
    intro n_6
    induction n_6 with
    | zero => intro c1 i g1 g2 g3 hm_6; exact absurd hm_6 (Nat.not_lt_zero _)
    | succ n_6 ih_6 =>
      intro c1 i g1 g2 g3 hm_6
      have fc := allB_b g3
      refine st_iload C dX11_isOne_6 rfl ?_
      refine st_iload_n C 2 dX11_isOne_8 rfl rfl ?_
      refine st_iload_n C 2 dX11_isOne_9 rfl rfl ?_
      refine st_imul C dX11_isOne_10 ⟨(by omega), (by omega)⟩ ?_
      refine st_icmp_ge (tgt := 66) C dX11_isOne_11 (by decide) (fun c_11 => ?_) (fun c_11 => ?_)
      · refine st_iload C dX11_isOne_66 rfl ?_
        exact st_zreturn C F dX11_isOne_68 rfl (by omega) (rt_i (allB_2 g3 (by omega) hP) rfl) (by omega) (by omega)
      · refine st_iload C dX11_isOne_14 rfl ?_
        refine st_aload_n C 0 dX11_isOne_16 rfl rfl ?_
        refine st_bipush C dX11_isOne_17 (by decide) (by decide) ?_
        refine st_iload_n C 1 dX11_isOne_19 rfl rfl ?_
        refine st_imul C dX11_isOne_20 ⟨(by omega), (by omega)⟩ ?_
        refine st_iload_n C 3 dX11_isOne_21 rfl rfl ?_
        refine st_iadd C dX11_isOne_22 ⟨(by omega), (by omega)⟩ ?_
        refine st_bipush C dX11_isOne_23 (by decide) (by decide) ?_
        refine st_iload C dX11_isOne_25 rfl ?_
        refine st_iload_n C 2 dX11_isOne_27 rfl rfl ?_
        refine st_idiv C dX11_isOne_28 (by omega) (by omega) ?_
        refine st_imul C dX11_isOne_29 ⟨(by omega), (by omega)⟩ ?_
        refine st_iadd C dX11_isOne_30 ⟨(by omega), (by omega)⟩ ?_
        refine st_iload C dX11_isOne_31 rfl ?_
        refine st_iload_n C 2 dX11_isOne_33 rfl rfl ?_
        refine st_irem C dX11_isOne_34 (by omega) (by omega) ?_
        refine st_iadd C dX11_isOne_35 ⟨(by omega), (by omega)⟩ ?_
        refine st_callV (st := [vI c1]) C dX11_isOne_36 [vI (64 * l + p9 + (8 * (i / 4)) + (i % 4))] (k_now (mm := mm) (s9 := (64 * l + p9 + (8 * (i / 4)) + (i % 4))) hm hmm hv (by omega)) hm w_X11_105 rfl (by decide) (by decide) (by omega) (by omega) (Nat.le_of_ble_eq_true rfl) (ko_rt ?_)
        show T x 39 [(0, vR 200), (1, vI l), (2, vI 4), (3, vI p9), (4, vI c1), (5, vI i)] [vI (mm (304 * mv + (64 * l + p9 + (8 * (i / 4)) + (i % 4)))), vI c1] _ _ _
        refine st_aload_n C 0 dX11_isOne_39 rfl rfl ?_
        refine st_bipush C dX11_isOne_40 (by decide) (by decide) ?_
        refine st_iload_n C 1 dX11_isOne_42 rfl rfl ?_
        refine st_imul C dX11_isOne_43 ⟨(by omega), (by omega)⟩ ?_
        refine st_iload_n C 3 dX11_isOne_44 rfl rfl ?_
        refine st_iadd C dX11_isOne_45 ⟨(by omega), (by omega)⟩ ?_
        refine st_callV (st := [vI (mm (304 * mv + (64 * l + p9 + (8 * (i / 4)) + (i % 4)))), vI c1]) C dX11_isOne_46 [vI (64 * l + p9)] (k_now (mm := mm) (s9 := (64 * l + p9)) hm hmm hv (by omega)) hm w_X11_105 rfl (by decide) (by decide) (by omega) (by omega) (Nat.le_of_ble_eq_true rfl) (ko_rt ?_)
        show T x 49 [(0, vR 200), (1, vI l), (2, vI 4), (3, vI p9), (4, vI c1), (5, vI i)] [vI (mm (304 * mv + (64 * l + p9))), vI (mm (304 * mv + (64 * l + p9 + (8 * (i / 4)) + (i % 4)))), vI c1] _ _ _
        refine st_icmp_ne (tgt := 56) C dX11_isOne_49 (by decide) (fun c_49 => ?_) (fun c_49 => ?_)
        · refine st_iconst C dX11_isOne_56 (by decide) ?_
          refine st_iandB C dX11_isOne_57 (by omega) (by omega) ?_
          rw [Int.mul_zero]
          refine st_istore C dX11_isOne_58 (by decide) rfl ?_
          show T x 60 [(0, vR 200), (1, vI l), (2, vI 4), (3, vI p9), (4, vI 0), (5, vI i)] [] _ _ _
          refine st_iinc C dX11_isOne_60 rfl (by decide) rfl ⟨(by omega), (by omega)⟩ ?_
          show T x 63 [(0, vR 200), (1, vI l), (2, vI 4), (3, vI p9), (4, vI 0), (5, vI (i + 1))] [] _ _ _
          refine st_goto (tgt := 6) C dX11_isOne_63 (by decide) ?_
          exact ih_6 0 (i + 1) (by omega) (by omega) (by first | exact allB_t g3 (by assumption) | exact allB_f g1 (by assumption)) (by omega)
        · refine st_iconst C dX11_isOne_52 (by decide) ?_
          refine st_goto (tgt := 57) C dX11_isOne_53 (by decide) ?_
          refine st_iandB C dX11_isOne_57 (by omega) (by omega) ?_
          refine st_istore C dX11_isOne_58 (by decide) rfl ?_
          show T x 60 [(0, vR 200), (1, vI l), (2, vI 4), (3, vI p9), (4, vI (c1 * 1)), (5, vI i)] [] _ _ _
          refine st_iinc C dX11_isOne_60 rfl (by decide) rfl ⟨(by omega), (by omega)⟩ ?_
          show T x 63 [(0, vR 200), (1, vI l), (2, vI 4), (3, vI p9), (4, vI (c1 * 1)), (5, vI (i + 1))] [] _ _ _
          refine st_goto (tgt := 6) C dX11_isOne_63 (by decide) ?_
          exact ih_6 (c1 * 1) (i + 1) (by omega) (by omega) (by first | exact allB_t g3 (by assumption) | exact allB_f g1 (by assumption)) (by omega)
  exact loop_6 _ 1 0 (by omega) (by omega) (allB_0) (Nat.lt_succ_self _)
set_option maxRecDepth 20000 in
set_option maxHeartbeats 4000000 in
theorem k_isOne8_t {g : Gx} {h : HP} {mv mrc mmc mmk mdv mwl mwa mwp mth : Int} {mm : Int → Int} {l p9 : Int} (hm : mO h mv mrc mmc mmk mdv mwl mwa mwp mth) (hmm : h 201 = some (oI 12464 mm)) (hv : 0 ≤ mv ∧ mv ≤ 40) (hl : 0 ≤ l ∧ l ≤ 2) (hp : 0 ≤ p9 ∧ p9 ≤ 63 ∧ p9 % 8 ≤ 0 ∧ p9 / 8 ≤ 0) (hP : (∀ k, 0 ≤ k → k < 64 → mm (304 * mv + (64 * l + p9 + 8 * (k / 8) + k % 8)) = mm (304 * mv + (64 * l + p9)))) : Ct g yX11_isOne (.code yX11_isOne cX11_isOne 6 (some .boolean)) 2 0 0 [vR 200, vI l, vI 8, vI p9] h (Rt (some (vI 1)) h) := by
  refine Ct.of (by decide) (Nat.le_of_ble_eq_true rfl) (fun x hg C F => ?_)
  subst hg
  show T x 0 [(0, vR 200), (1, vI l), (2, vI 8), (3, vI p9)] [] h 0 0
  refine st_iconst C dX11_isOne_0 (by decide) ?_
  refine st_istore C dX11_isOne_1 (by decide) rfl ?_
  show T x 3 [(0, vR 200), (1, vI l), (2, vI 8), (3, vI p9), (4, vI 1)] [] _ _ _
  refine st_iconst C dX11_isOne_3 (by decide) ?_
  refine st_istore C dX11_isOne_4 (by decide) rfl ?_
  show T x 6 [(0, vR 200), (1, vI l), (2, vI 8), (3, vI p9), (4, vI 1), (5, vI 0)] [] _ _ _
  have loop_6 : ∀ (n_6 : Nat) (c1 : Int) (i : Int), (0 ≤ i) → (i ≤ 64) → (AllB (fun k => mm (304 * mv + (64 * l + p9 + 8 * (k / 8) + k % 8)) = mm (304 * mv + (64 * l + p9))) i c1) → (64 - i).toNat < n_6 → T x 6 [(0, vR 200), (1, vI l), (2, vI 8), (3, vI p9), (4, vI c1), (5, vI i)] [] h 0 0 := by
    intro n_6
    induction n_6 with
    | zero => intro c1 i g1 g2 g3 hm_6; exact absurd hm_6 (Nat.not_lt_zero _)
    | succ n_6 ih_6 =>
      intro c1 i g1 g2 g3 hm_6
      have fc := allB_b g3
      refine st_iload C dX11_isOne_6 rfl ?_
      refine st_iload_n C 2 dX11_isOne_8 rfl rfl ?_
      refine st_iload_n C 2 dX11_isOne_9 rfl rfl ?_
      refine st_imul C dX11_isOne_10 ⟨(by omega), (by omega)⟩ ?_
      refine st_icmp_ge (tgt := 66) C dX11_isOne_11 (by decide) (fun c_11 => ?_) (fun c_11 => ?_)
      · refine st_iload C dX11_isOne_66 rfl ?_
        exact st_zreturn C F dX11_isOne_68 rfl (by omega) (rt_i (allB_1 g3 (by omega) hP) rfl) (by omega) (by omega)
      · refine st_iload C dX11_isOne_14 rfl ?_
        refine st_aload_n C 0 dX11_isOne_16 rfl rfl ?_
        refine st_bipush C dX11_isOne_17 (by decide) (by decide) ?_
        refine st_iload_n C 1 dX11_isOne_19 rfl rfl ?_
        refine st_imul C dX11_isOne_20 ⟨(by omega), (by omega)⟩ ?_
        refine st_iload_n C 3 dX11_isOne_21 rfl rfl ?_
        refine st_iadd C dX11_isOne_22 ⟨(by omega), (by omega)⟩ ?_
        refine st_bipush C dX11_isOne_23 (by decide) (by decide) ?_
        refine st_iload C dX11_isOne_25 rfl ?_
        refine st_iload_n C 2 dX11_isOne_27 rfl rfl ?_
        refine st_idiv C dX11_isOne_28 (by omega) (by omega) ?_
        refine st_imul C dX11_isOne_29 ⟨(by omega), (by omega)⟩ ?_
        refine st_iadd C dX11_isOne_30 ⟨(by omega), (by omega)⟩ ?_
        refine st_iload C dX11_isOne_31 rfl ?_
        refine st_iload_n C 2 dX11_isOne_33 rfl rfl ?_
        refine st_irem C dX11_isOne_34 (by omega) (by omega) ?_
        refine st_iadd C dX11_isOne_35 ⟨(by omega), (by omega)⟩ ?_
        refine st_callV (st := [vI c1]) C dX11_isOne_36 [vI (64 * l + p9 + (8 * (i / 8)) + (i % 8))] (k_now (mm := mm) (s9 := (64 * l + p9 + (8 * (i / 8)) + (i % 8))) hm hmm hv (by omega)) hm w_X11_105 rfl (by decide) (by decide) (by omega) (by omega) (Nat.le_of_ble_eq_true rfl) (ko_rt ?_)
        show T x 39 [(0, vR 200), (1, vI l), (2, vI 8), (3, vI p9), (4, vI c1), (5, vI i)] [vI (mm (304 * mv + (64 * l + p9 + (8 * (i / 8)) + (i % 8)))), vI c1] _ _ _
        refine st_aload_n C 0 dX11_isOne_39 rfl rfl ?_
        refine st_bipush C dX11_isOne_40 (by decide) (by decide) ?_
        refine st_iload_n C 1 dX11_isOne_42 rfl rfl ?_
        refine st_imul C dX11_isOne_43 ⟨(by omega), (by omega)⟩ ?_
        refine st_iload_n C 3 dX11_isOne_44 rfl rfl ?_
        refine st_iadd C dX11_isOne_45 ⟨(by omega), (by omega)⟩ ?_
        refine st_callV (st := [vI (mm (304 * mv + (64 * l + p9 + (8 * (i / 8)) + (i % 8)))), vI c1]) C dX11_isOne_46 [vI (64 * l + p9)] (k_now (mm := mm) (s9 := (64 * l + p9)) hm hmm hv (by omega)) hm w_X11_105 rfl (by decide) (by decide) (by omega) (by omega) (Nat.le_of_ble_eq_true rfl) (ko_rt ?_)
        show T x 49 [(0, vR 200), (1, vI l), (2, vI 8), (3, vI p9), (4, vI c1), (5, vI i)] [vI (mm (304 * mv + (64 * l + p9))), vI (mm (304 * mv + (64 * l + p9 + (8 * (i / 8)) + (i % 8)))), vI c1] _ _ _
        refine st_icmp_ne (tgt := 56) C dX11_isOne_49 (by decide) (fun c_49 => ?_) (fun c_49 => ?_)
        · refine st_iconst C dX11_isOne_56 (by decide) ?_
          refine st_iandB C dX11_isOne_57 (by omega) (by omega) ?_
          rw [Int.mul_zero]
          refine st_istore C dX11_isOne_58 (by decide) rfl ?_
          show T x 60 [(0, vR 200), (1, vI l), (2, vI 8), (3, vI p9), (4, vI 0), (5, vI i)] [] _ _ _
          refine st_iinc C dX11_isOne_60 rfl (by decide) rfl ⟨(by omega), (by omega)⟩ ?_
          show T x 63 [(0, vR 200), (1, vI l), (2, vI 8), (3, vI p9), (4, vI 0), (5, vI (i + 1))] [] _ _ _
          refine st_goto (tgt := 6) C dX11_isOne_63 (by decide) ?_
          exact ih_6 0 (i + 1) (by omega) (by omega) (by first | exact allB_t g3 (by assumption) | exact allB_f g1 (by assumption)) (by omega)
        · refine st_iconst C dX11_isOne_52 (by decide) ?_
          refine st_goto (tgt := 57) C dX11_isOne_53 (by decide) ?_
          refine st_iandB C dX11_isOne_57 (by omega) (by omega) ?_
          refine st_istore C dX11_isOne_58 (by decide) rfl ?_
          show T x 60 [(0, vR 200), (1, vI l), (2, vI 8), (3, vI p9), (4, vI (c1 * 1)), (5, vI i)] [] _ _ _
          refine st_iinc C dX11_isOne_60 rfl (by decide) rfl ⟨(by omega), (by omega)⟩ ?_
          show T x 63 [(0, vR 200), (1, vI l), (2, vI 8), (3, vI p9), (4, vI (c1 * 1)), (5, vI (i + 1))] [] _ _ _
          refine st_goto (tgt := 6) C dX11_isOne_63 (by decide) ?_
          exact ih_6 (c1 * 1) (i + 1) (by omega) (by omega) (by first | exact allB_t g3 (by assumption) | exact allB_f g1 (by assumption)) (by omega)
  exact loop_6 _ 1 0 (by omega) (by omega) (allB_0) (Nat.lt_succ_self _)
set_option maxRecDepth 20000 in
set_option maxHeartbeats 4000000 in
theorem k_isOne8_f {g : Gx} {h : HP} {mv mrc mmc mmk mdv mwl mwa mwp mth : Int} {mm : Int → Int} {l p9 : Int} (hm : mO h mv mrc mmc mmk mdv mwl mwa mwp mth) (hmm : h 201 = some (oI 12464 mm)) (hv : 0 ≤ mv ∧ mv ≤ 40) (hl : 0 ≤ l ∧ l ≤ 2) (hp : 0 ≤ p9 ∧ p9 ≤ 63 ∧ p9 % 8 ≤ 0 ∧ p9 / 8 ≤ 0) (hP : ¬ (∀ k, 0 ≤ k → k < 64 → mm (304 * mv + (64 * l + p9 + 8 * (k / 8) + k % 8)) = mm (304 * mv + (64 * l + p9)))) : Ct g yX11_isOne (.code yX11_isOne cX11_isOne 6 (some .boolean)) 2 0 0 [vR 200, vI l, vI 8, vI p9] h (Rt (some (vI 0)) h) := by
  refine Ct.of (by decide) (Nat.le_of_ble_eq_true rfl) (fun x hg C F => ?_)
  subst hg
  show T x 0 [(0, vR 200), (1, vI l), (2, vI 8), (3, vI p9)] [] h 0 0
  refine st_iconst C dX11_isOne_0 (by decide) ?_
  refine st_istore C dX11_isOne_1 (by decide) rfl ?_
  show T x 3 [(0, vR 200), (1, vI l), (2, vI 8), (3, vI p9), (4, vI 1)] [] _ _ _
  refine st_iconst C dX11_isOne_3 (by decide) ?_
  refine st_istore C dX11_isOne_4 (by decide) rfl ?_
  show T x 6 [(0, vR 200), (1, vI l), (2, vI 8), (3, vI p9), (4, vI 1), (5, vI 0)] [] _ _ _
  have loop_6 : ∀ (n_6 : Nat) (c1 : Int) (i : Int), (0 ≤ i) → (i ≤ 64) → (AllB (fun k => mm (304 * mv + (64 * l + p9 + 8 * (k / 8) + k % 8)) = mm (304 * mv + (64 * l + p9))) i c1) → (64 - i).toNat < n_6 → T x 6 [(0, vR 200), (1, vI l), (2, vI 8), (3, vI p9), (4, vI c1), (5, vI i)] [] h 0 0 := by
    intro n_6
    induction n_6 with
    | zero => intro c1 i g1 g2 g3 hm_6; exact absurd hm_6 (Nat.not_lt_zero _)
    | succ n_6 ih_6 =>
      intro c1 i g1 g2 g3 hm_6
      have fc := allB_b g3
      refine st_iload C dX11_isOne_6 rfl ?_
      refine st_iload_n C 2 dX11_isOne_8 rfl rfl ?_
      refine st_iload_n C 2 dX11_isOne_9 rfl rfl ?_
      refine st_imul C dX11_isOne_10 ⟨(by omega), (by omega)⟩ ?_
      refine st_icmp_ge (tgt := 66) C dX11_isOne_11 (by decide) (fun c_11 => ?_) (fun c_11 => ?_)
      · refine st_iload C dX11_isOne_66 rfl ?_
        exact st_zreturn C F dX11_isOne_68 rfl (by omega) (rt_i (allB_2 g3 (by omega) hP) rfl) (by omega) (by omega)
      · refine st_iload C dX11_isOne_14 rfl ?_
        refine st_aload_n C 0 dX11_isOne_16 rfl rfl ?_
        refine st_bipush C dX11_isOne_17 (by decide) (by decide) ?_
        refine st_iload_n C 1 dX11_isOne_19 rfl rfl ?_
        refine st_imul C dX11_isOne_20 ⟨(by omega), (by omega)⟩ ?_
        refine st_iload_n C 3 dX11_isOne_21 rfl rfl ?_
        refine st_iadd C dX11_isOne_22 ⟨(by omega), (by omega)⟩ ?_
        refine st_bipush C dX11_isOne_23 (by decide) (by decide) ?_
        refine st_iload C dX11_isOne_25 rfl ?_
        refine st_iload_n C 2 dX11_isOne_27 rfl rfl ?_
        refine st_idiv C dX11_isOne_28 (by omega) (by omega) ?_
        refine st_imul C dX11_isOne_29 ⟨(by omega), (by omega)⟩ ?_
        refine st_iadd C dX11_isOne_30 ⟨(by omega), (by omega)⟩ ?_
        refine st_iload C dX11_isOne_31 rfl ?_
        refine st_iload_n C 2 dX11_isOne_33 rfl rfl ?_
        refine st_irem C dX11_isOne_34 (by omega) (by omega) ?_
        refine st_iadd C dX11_isOne_35 ⟨(by omega), (by omega)⟩ ?_
        refine st_callV (st := [vI c1]) C dX11_isOne_36 [vI (64 * l + p9 + (8 * (i / 8)) + (i % 8))] (k_now (mm := mm) (s9 := (64 * l + p9 + (8 * (i / 8)) + (i % 8))) hm hmm hv (by omega)) hm w_X11_105 rfl (by decide) (by decide) (by omega) (by omega) (Nat.le_of_ble_eq_true rfl) (ko_rt ?_)
        show T x 39 [(0, vR 200), (1, vI l), (2, vI 8), (3, vI p9), (4, vI c1), (5, vI i)] [vI (mm (304 * mv + (64 * l + p9 + (8 * (i / 8)) + (i % 8)))), vI c1] _ _ _
        refine st_aload_n C 0 dX11_isOne_39 rfl rfl ?_
        refine st_bipush C dX11_isOne_40 (by decide) (by decide) ?_
        refine st_iload_n C 1 dX11_isOne_42 rfl rfl ?_
        refine st_imul C dX11_isOne_43 ⟨(by omega), (by omega)⟩ ?_
        refine st_iload_n C 3 dX11_isOne_44 rfl rfl ?_
        refine st_iadd C dX11_isOne_45 ⟨(by omega), (by omega)⟩ ?_
        refine st_callV (st := [vI (mm (304 * mv + (64 * l + p9 + (8 * (i / 8)) + (i % 8)))), vI c1]) C dX11_isOne_46 [vI (64 * l + p9)] (k_now (mm := mm) (s9 := (64 * l + p9)) hm hmm hv (by omega)) hm w_X11_105 rfl (by decide) (by decide) (by omega) (by omega) (Nat.le_of_ble_eq_true rfl) (ko_rt ?_)
        show T x 49 [(0, vR 200), (1, vI l), (2, vI 8), (3, vI p9), (4, vI c1), (5, vI i)] [vI (mm (304 * mv + (64 * l + p9))), vI (mm (304 * mv + (64 * l + p9 + (8 * (i / 8)) + (i % 8)))), vI c1] _ _ _
        refine st_icmp_ne (tgt := 56) C dX11_isOne_49 (by decide) (fun c_49 => ?_) (fun c_49 => ?_)
        · refine st_iconst C dX11_isOne_56 (by decide) ?_
          refine st_iandB C dX11_isOne_57 (by omega) (by omega) ?_
          rw [Int.mul_zero]
          refine st_istore C dX11_isOne_58 (by decide) rfl ?_
          show T x 60 [(0, vR 200), (1, vI l), (2, vI 8), (3, vI p9), (4, vI 0), (5, vI i)] [] _ _ _
          refine st_iinc C dX11_isOne_60 rfl (by decide) rfl ⟨(by omega), (by omega)⟩ ?_
          show T x 63 [(0, vR 200), (1, vI l), (2, vI 8), (3, vI p9), (4, vI 0), (5, vI (i + 1))] [] _ _ _
          refine st_goto (tgt := 6) C dX11_isOne_63 (by decide) ?_
          exact ih_6 0 (i + 1) (by omega) (by omega) (by first | exact allB_t g3 (by assumption) | exact allB_f g1 (by assumption)) (by omega)
        · refine st_iconst C dX11_isOne_52 (by decide) ?_
          refine st_goto (tgt := 57) C dX11_isOne_53 (by decide) ?_
          refine st_iandB C dX11_isOne_57 (by omega) (by omega) ?_
          refine st_istore C dX11_isOne_58 (by decide) rfl ?_
          show T x 60 [(0, vR 200), (1, vI l), (2, vI 8), (3, vI p9), (4, vI (c1 * 1)), (5, vI i)] [] _ _ _
          refine st_iinc C dX11_isOne_60 rfl (by decide) rfl ⟨(by omega), (by omega)⟩ ?_
          show T x 63 [(0, vR 200), (1, vI l), (2, vI 8), (3, vI p9), (4, vI (c1 * 1)), (5, vI (i + 1))] [] _ _ _
          refine st_goto (tgt := 6) C dX11_isOne_63 (by decide) ?_
          exact ih_6 (c1 * 1) (i + 1) (by omega) (by omega) (by first | exact allB_t g3 (by assumption) | exact allB_f g1 (by assumption)) (by omega)
  exact loop_6 _ 1 0 (by omega) (by omega) (allB_0) (Nat.lt_succ_self _)
set_option maxRecDepth 20000 in
set_option maxHeartbeats 4000000 in
theorem k_nextPlace {g : Gx} {h : HP} {mv mrc mmc mmk mdv mwl mwa mwp mth : Int} {mm : Int → Int} {r9 : Int} (hm : mO h mv mrc mmc mmk mdv mwl mwa mwp mth) (hmm : h 201 = some (oI 12464 mm)) (hv : 0 ≤ mv ∧ mv ≤ 40) (hwl : 0 ≤ mwl ∧ mwl ≤ 2) (hwp : -1 ≤ mwp ∧ mwp ≤ 63) (hr : IsNext (fun j => mm (304 * mv + (64 * mwl + j)) = mwa) (mwp + 1) r9) : Ct g yX11_nextPlace (.code yX11_nextPlace cX11_nextPlace 3 (some .int)) 2 0 0 [vR 200] h (Rt (some (vI r9)) h) := by
  refine Ct.of (by decide) (Nat.le_of_ble_eq_true rfl) (fun x hg C F => ?_)
  subst hg
  show T x 0 [(0, vR 200)] [] h 0 0
  refine st_iconst C dX11_nextPlace_0 (by decide) ?_
  refine st_istore_n C 1 dX11_nextPlace_1 rfl (by decide) rfl ?_
  show T x 2 [(0, vR 200), (1, vI (-1))] [] _ _ _
  refine st_bipush C dX11_nextPlace_2 (by decide) (by decide) ?_
  refine st_istore_n C 2 dX11_nextPlace_4 rfl (by decide) rfl ?_
  show T x 5 [(0, vR 200), (1, vI (-1)), (2, vI 63)] [] _ _ _
  have loop_5 : ∀ (n_5 : Nat) (c1 : Int) (i : Int), (mwp ≤ i) → (i ≤ 63) → (IsNext (fun j => mm (304 * mv + (64 * mwl + j)) = mwa) (i + 1) c1) → (i - mwp).toNat < n_5 → T x 5 [(0, vR 200), (1, vI c1), (2, vI i)] [] h 0 0 := by
    intro n_5
    induction n_5 with
    | zero => intro c1 i g1 g2 g3 hm_5; exact absurd hm_5 (Nat.not_lt_zero _)
    | succ n_5 ih_5 =>
      intro c1 i g1 g2 g3 hm_5
      refine st_iload_n C 2 dX11_nextPlace_5 rfl rfl ?_
      refine st_aload_n C 0 dX11_nextPlace_6 rfl rfl ?_
      refine st_getf C dX11_nextPlace_7 fl_X11_196 hm rfl ?_
      refine st_icmp_le (tgt := 52) C dX11_nextPlace_10 (by decide) (fun c_10 => ?_) (fun c_10 => ?_)
      · refine st_iload_n C 1 dX11_nextPlace_52 rfl rfl ?_
        exact st_ireturn C F dX11_nextPlace_53 rfl (rt_i (by rw [show i = mwp by omega] at g3; exact next_u (by omega) g3 hr) rfl) (by omega) (by omega)
      · refine st_aload_n C 0 dX11_nextPlace_13 rfl rfl ?_
        refine st_getf C dX11_nextPlace_14 fl_X11_65 hm rfl ?_
        refine st_if_lt (tgt := 52) C dX11_nextPlace_17 (by decide) (fun c_17 => by omega) (fun c_17 => ?_)
        refine st_aload_n C 0 dX11_nextPlace_20 rfl rfl ?_
        refine st_bipush C dX11_nextPlace_21 (by decide) (by decide) ?_
        refine st_aload_n C 0 dX11_nextPlace_23 rfl rfl ?_
        refine st_getf C dX11_nextPlace_24 fl_X11_65 hm rfl ?_
        refine st_imul C dX11_nextPlace_27 ⟨(by omega), (by omega)⟩ ?_
        refine st_iload_n C 2 dX11_nextPlace_28 rfl rfl ?_
        refine st_iadd C dX11_nextPlace_29 ⟨(by omega), (by omega)⟩ ?_
        refine st_callV (st := []) C dX11_nextPlace_30 [vI (64 * mwl + i)] (k_now (mm := mm) (s9 := (64 * mwl + i)) hm hmm hv (by omega)) hm w_X11_105 rfl (by decide) (by decide) (by omega) (by omega) (Nat.le_of_ble_eq_true rfl) (ko_rt ?_)
        show T x 33 [(0, vR 200), (1, vI c1), (2, vI i)] [vI (mm (304 * mv + (64 * mwl + i)))] _ _ _
        refine st_aload_n C 0 dX11_nextPlace_33 rfl rfl ?_
        refine st_getf C dX11_nextPlace_34 fl_X11_193 hm rfl ?_
        refine st_icmp_ne (tgt := 44) C dX11_nextPlace_37 (by decide) (fun c_37 => ?_) (fun c_37 => ?_)
        · refine st_iload_n C 1 dX11_nextPlace_44 rfl rfl ?_
          refine st_istore_n C 1 dX11_nextPlace_45 rfl (by decide) rfl ?_
          show T x 46 [(0, vR 200), (1, vI c1), (2, vI i)] [] _ _ _
          refine st_iinc C dX11_nextPlace_46 rfl (by decide) rfl ⟨(by omega), (by omega)⟩ ?_
          show T x 49 [(0, vR 200), (1, vI c1), (2, vI (i + (-1)))] [] _ _ _
          refine st_goto (tgt := 5) C dX11_nextPlace_49 (by decide) ?_
          exact ih_5 c1 (i + (-1)) (by omega) (by omega) (by rw [show i + -1 + 1 = i by omega]; first | exact next_t (c := 0) (by omega) (by assumption) | exact next_f g3 (by assumption)) (by omega)
        · refine st_iload_n C 2 dX11_nextPlace_40 rfl rfl ?_
          refine st_goto (tgt := 45) C dX11_nextPlace_41 (by decide) ?_
          refine st_istore_n C 1 dX11_nextPlace_45 rfl (by decide) rfl ?_
          show T x 46 [(0, vR 200), (1, vI i), (2, vI i)] [] _ _ _
          refine st_iinc C dX11_nextPlace_46 rfl (by decide) rfl ⟨(by omega), (by omega)⟩ ?_
          show T x 49 [(0, vR 200), (1, vI i), (2, vI (i + (-1)))] [] _ _ _
          refine st_goto (tgt := 5) C dX11_nextPlace_49 (by decide) ?_
          exact ih_5 i (i + (-1)) (by omega) (by omega) (by rw [show i + -1 + 1 = i by omega]; first | exact next_t (c := 0) (by omega) (by assumption) | exact next_f g3 (by assumption)) (by omega)
  exact loop_5 _ (-1) 63 (by omega) (by omega) (Or.inr ⟨rfl, fun j h1 h2 => absurd h2 (by omega)⟩) (Nat.lt_succ_self _)
set_option maxRecDepth 20000 in
set_option maxHeartbeats 4000000 in
theorem k_nextPlace_0 {g : Gx} {h : HP} {mv mrc mmc mmk mdv mwl mwa mwp mth : Int} (hm : mO h mv mrc mmc mmk mdv mwl mwa mwp mth) (hwl : mwl < 0) : Ct g yX11_nextPlace (.code yX11_nextPlace cX11_nextPlace 3 (some .int)) 2 0 0 [vR 200] h (Rt (some (vI (-1))) h) := by
  refine Ct.of (by decide) (Nat.le_of_ble_eq_true rfl) (fun x hg C F => ?_)
  subst hg
  show T x 0 [(0, vR 200)] [] h 0 0
  refine st_iconst C dX11_nextPlace_0 (by decide) ?_
  refine st_istore_n C 1 dX11_nextPlace_1 rfl (by decide) rfl ?_
  show T x 2 [(0, vR 200), (1, vI (-1))] [] _ _ _
  refine st_bipush C dX11_nextPlace_2 (by decide) (by decide) ?_
  refine st_istore_n C 2 dX11_nextPlace_4 rfl (by decide) rfl ?_
  show T x 5 [(0, vR 200), (1, vI (-1)), (2, vI 63)] [] _ _ _
  have loop_5 : ∀ (n_5 : Nat) (c1 : Int) (i : Int), (c1 = -1) → (i = 63) → 0 < n_5 → T x 5 [(0, vR 200), (1, vI c1), (2, vI i)] [] h 0 0 := by
    intro n_5
    induction n_5 with
    | zero => intro c1 i g1 g2 hm_5; exact absurd hm_5 (Nat.not_lt_zero _)
    | succ n_5 ih_5 =>
      intro c1 i g1 g2 hm_5
      refine st_iload_n C 2 dX11_nextPlace_5 rfl rfl ?_
      refine st_aload_n C 0 dX11_nextPlace_6 rfl rfl ?_
      refine st_getf C dX11_nextPlace_7 fl_X11_196 hm rfl ?_
      refine st_icmp_le (tgt := 52) C dX11_nextPlace_10 (by decide) (fun c_10 => ?_) (fun c_10 => ?_)
      · refine st_iload_n C 1 dX11_nextPlace_52 rfl rfl ?_
        exact st_ireturn C F dX11_nextPlace_53 rfl (rt_i (by omega) rfl) (by omega) (by omega)
      · refine st_aload_n C 0 dX11_nextPlace_13 rfl rfl ?_
        refine st_getf C dX11_nextPlace_14 fl_X11_65 hm rfl ?_
        refine st_if_lt (tgt := 52) C dX11_nextPlace_17 (by decide) (fun c_17 => ?_) (fun c_17 => by omega)
        refine st_iload_n C 1 dX11_nextPlace_52 rfl rfl ?_
        exact st_ireturn C F dX11_nextPlace_53 rfl (rt_i (by omega) rfl) (by omega) (by omega)
  exact loop_5 _ (-1) 63 (rfl) (rfl) (Nat.lt_succ_self _)
set_option maxRecDepth 20000 in
set_option maxHeartbeats 4000000 in
theorem k_isDevice_t {g : Gx} {h : HP} {mv mrc mmc mmk mdv mwl mwa mwp mth : Int} {d9 : Int} (hm : mO h mv mrc mmc mmk mdv mwl mwa mwp mth) (hdv : 0 ≤ mdv ∧ mdv ≤ 3) (hP : 0 ≤ d9 ∧ d9 < mdv) : Ct g yX11_isDevice (.code yX11_isDevice cX11_isDevice 2 (some .boolean)) 2 0 0 [vR 200, vI d9] h (Rt (some (vI 1)) h) := by
  refine Ct.of (by decide) (Nat.le_of_ble_eq_true rfl) (fun x hg C F => ?_)
  subst hg
  show T x 0 [(0, vR 200), (1, vI d9)] [] h 0 0
  refine st_iload_n C 1 dX11_isDevice_0 rfl rfl ?_
  refine st_iconst C dX11_isDevice_1 (by decide) ?_
  refine st_aload_n C 0 dX11_isDevice_2 rfl rfl ?_
  refine st_getf C dX11_isDevice_3 fl_X11_202 hm rfl ?_
  refine st_iconst C dX11_isDevice_6 (by decide) ?_
  refine st_isub C dX11_isDevice_7 ⟨(by omega), (by omega)⟩ ?_
  have b_8 : 0 ≤ d9 ∧ d9 ≤ (mdv - 1) := by omega
  refine st_callS (st := []) C dX11_isDevice_8 [vI d9, vI 0, vI (mdv - 1)] (k_isIn_t (v9 := d9) (l9 := 0) (u9 := (mdv - 1))  b_8) w_X11_75 rfl (by decide) (by decide) (by omega) (by omega) (Nat.le_of_ble_eq_true rfl) (ko_rt ?_)
  show T x 11 [(0, vR 200), (1, vI d9)] [vI 1] _ _ _
  exact st_zreturn C F dX11_isDevice_11 rfl (by omega) (rt_i (by first | rfl | omega) rfl) (by omega) (by omega)
set_option maxRecDepth 20000 in
set_option maxHeartbeats 4000000 in
theorem k_isDevice_f {g : Gx} {h : HP} {mv mrc mmc mmk mdv mwl mwa mwp mth : Int} {d9 : Int} (hm : mO h mv mrc mmc mmk mdv mwl mwa mwp mth) (hdv : 0 ≤ mdv ∧ mdv ≤ 3) (hP : ¬ (0 ≤ d9 ∧ d9 < mdv)) : Ct g yX11_isDevice (.code yX11_isDevice cX11_isDevice 2 (some .boolean)) 2 0 0 [vR 200, vI d9] h (Rt (some (vI 0)) h) := by
  refine Ct.of (by decide) (Nat.le_of_ble_eq_true rfl) (fun x hg C F => ?_)
  subst hg
  show T x 0 [(0, vR 200), (1, vI d9)] [] h 0 0
  refine st_iload_n C 1 dX11_isDevice_0 rfl rfl ?_
  refine st_iconst C dX11_isDevice_1 (by decide) ?_
  refine st_aload_n C 0 dX11_isDevice_2 rfl rfl ?_
  refine st_getf C dX11_isDevice_3 fl_X11_202 hm rfl ?_
  refine st_iconst C dX11_isDevice_6 (by decide) ?_
  refine st_isub C dX11_isDevice_7 ⟨(by omega), (by omega)⟩ ?_
  by_cases b_8 : 0 ≤ d9 ∧ d9 ≤ (mdv - 1)
  · refine st_callS (st := []) C dX11_isDevice_8 [vI d9, vI 0, vI (mdv - 1)] (k_isIn_t (v9 := d9) (l9 := 0) (u9 := (mdv - 1))  b_8) w_X11_75 rfl (by decide) (by decide) (by omega) (by omega) (Nat.le_of_ble_eq_true rfl) (ko_rt ?_)
    show T x 11 [(0, vR 200), (1, vI d9)] [vI 1] _ _ _
    exact st_zreturn C F dX11_isDevice_11 rfl (by omega) (rt_i (by first | rfl | omega) rfl) (by omega) (by omega)
  · refine st_callS (st := []) C dX11_isDevice_8 [vI d9, vI 0, vI (mdv - 1)] (k_isIn_f (v9 := d9) (l9 := 0) (u9 := (mdv - 1))  b_8) w_X11_75 rfl (by decide) (by decide) (by omega) (by omega) (Nat.le_of_ble_eq_true rfl) (ko_rt ?_)
    show T x 11 [(0, vR 200), (1, vI d9)] [vI 0] _ _ _
    exact st_zreturn C F dX11_isDevice_11 rfl (by omega) (rt_i (by first | rfl | omega) rfl) (by omega) (by omega)
set_option maxRecDepth 20000 in
set_option maxHeartbeats 4000000 in
theorem k_noTile1_t {g : Gx} {h : HP} {mv mrc mmc mmk mdv mwl mwa mwp mth : Int} {l x9 y9 : Int} (hm : mO h mv mrc mmc mmk mdv mwl mwa mwp mth) (hP : TileOk 1 l x9 y9) : Ct g yX11_noTile (.code yX11_noTile cX11_noTile 7 (some .boolean)) 3 0 0 [vR 200, vI 1, vI l, vI x9, vI y9] h (Rt (some (vI 0)) (hput h 200 (oO 10 [vR 201, vR 202, vR 203, vR 204, vR 205, vR 206, vR 207, vR 208, vR 209, vR 210, vR 211, vR 212, vR 213, vR 214, vR 215, vR 216, vR 217, vR 218, vI mv, vI mrc, vI mmc, vI mmk, vI mdv, vI mwl, vI mwa, vI mwp, vI 0]))) := by
  refine Ct.of (by decide) (Nat.le_of_ble_eq_true rfl) (fun x hg C F => ?_)
  subst hg
  have hP2 := hP
  unfold TileOk at hP2
  show T x 0 [(0, vR 200), (1, vI 1), (2, vI l), (3, vI x9), (4, vI y9)] [] h 0 0
  refine st_iload_n C 1 dX11_noTile_0 rfl rfl ?_
  refine st_callS (st := []) C dX11_noTile_1 [vI 1] k_depth1 w_X11_174 rfl (by decide) (by decide) (by omega) (by omega) (Nat.le_of_ble_eq_true rfl) (ko_rt ?_)
  show T x 4 [(0, vR 200), (1, vI 1), (2, vI l), (3, vI x9), (4, vI y9)] [vI 0] _ _ _
  refine st_if_lt (tgt := 18) C dX11_noTile_4 (by decide) (fun c_4 => by omega) (fun c_4 => ?_)
  refine st_iload_n C 2 dX11_noTile_7 rfl rfl ?_
  by_cases b_8 : 0 ≤ l ∧ l ≤ 2
  · refine st_callS (st := []) C dX11_noTile_8 [vI l] (k_mLayer_t (v9 := l)  b_8) w_X11_108 rfl (by decide) (by decide) (by omega) (by omega) (Nat.le_of_ble_eq_true rfl) (ko_rt ?_)
    show T x 11 [(0, vR 200), (1, vI 1), (2, vI l), (3, vI x9), (4, vI y9)] [vI 1] _ _ _
    refine st_if_eq (tgt := 18) C dX11_noTile_11 (by decide) (fun c_11 => by omega) (fun c_11 => ?_)
    refine st_iconst C dX11_noTile_14 (by decide) ?_
    refine st_goto (tgt := 19) C dX11_noTile_15 (by decide) ?_
    refine st_istore C dX11_noTile_19 (by decide) rfl ?_
    show T x 21 [(0, vR 200), (1, vI 1), (2, vI l), (3, vI x9), (4, vI y9), (5, vI 1)] [] _ _ _
    refine st_iload C dX11_noTile_21 rfl ?_
    refine st_if_eq (tgt := 35) C dX11_noTile_23 (by decide) (fun c_23 => by omega) (fun c_23 => ?_)
    refine st_bipush C dX11_noTile_26 (by decide) (by decide) ?_
    refine st_iload_n C 1 dX11_noTile_28 rfl rfl ?_
    refine st_idiv C dX11_noTile_29 (by omega) (by omega) ?_
    refine st_iconst C dX11_noTile_30 (by decide) ?_
    refine st_isub C dX11_noTile_31 ⟨(by omega), (by omega)⟩ ?_
    refine st_goto (tgt := 36) C dX11_noTile_32 (by decide) ?_
    refine st_istore C dX11_noTile_36 (by decide) rfl ?_
    show T x 38 [(0, vR 200), (1, vI 1), (2, vI l), (3, vI x9), (4, vI y9), (5, vI 1), (6, vI (8 / 1 - 1))] [] _ _ _
    refine st_aload_n C 0 dX11_noTile_38 rfl rfl ?_
    refine st_iload C dX11_noTile_39 rfl ?_
    refine st_if_eq (tgt := 69) C dX11_noTile_41 (by decide) (fun c_41 => by omega) (fun c_41 => ?_)
    refine st_iload_n C 3 dX11_noTile_44 rfl rfl ?_
    refine st_iconst C dX11_noTile_45 (by decide) ?_
    refine st_iload C dX11_noTile_46 rfl ?_
    by_cases b_48 : 0 ≤ x9 ∧ x9 ≤ (8 / 1 - 1)
    · refine st_callS (st := [vR 200]) C dX11_noTile_48 [vI x9, vI 0, vI (8 / 1 - 1)] (k_isIn_t (v9 := x9) (l9 := 0) (u9 := (8 / 1 - 1))  b_48) w_X11_75 rfl (by decide) (by decide) (by omega) (by omega) (Nat.le_of_ble_eq_true rfl) (ko_rt ?_)
      show T x 51 [(0, vR 200), (1, vI 1), (2, vI l), (3, vI x9), (4, vI y9), (5, vI 1), (6, vI (8 / 1 - 1))] [vI 1, vR 200] _ _ _
      refine st_if_eq (tgt := 69) C dX11_noTile_51 (by decide) (fun c_51 => by omega) (fun c_51 => ?_)
      refine st_iload C dX11_noTile_54 rfl ?_
      refine st_iconst C dX11_noTile_56 (by decide) ?_
      refine st_iload C dX11_noTile_57 rfl ?_
      by_cases b_59 : 0 ≤ y9 ∧ y9 ≤ (8 / 1 - 1)
      · refine st_callS (st := [vR 200]) C dX11_noTile_59 [vI y9, vI 0, vI (8 / 1 - 1)] (k_isIn_t (v9 := y9) (l9 := 0) (u9 := (8 / 1 - 1))  b_59) w_X11_75 rfl (by decide) (by decide) (by omega) (by omega) (Nat.le_of_ble_eq_true rfl) (ko_rt ?_)
        show T x 62 [(0, vR 200), (1, vI 1), (2, vI l), (3, vI x9), (4, vI y9), (5, vI 1), (6, vI (8 / 1 - 1))] [vI 1, vR 200] _ _ _
        refine st_if_eq (tgt := 69) C dX11_noTile_62 (by decide) (fun c_62 => by omega) (fun c_62 => ?_)
        refine st_iconst C dX11_noTile_65 (by decide) ?_
        refine st_goto (tgt := 70) C dX11_noTile_66 (by decide) ?_
        refine st_iconst C dX11_noTile_70 (by decide) ?_
        refine st_callV (st := []) C dX11_noTile_71 [vI 1, vI 1] (k_no_t (p9 := 1) hm) hm w_X11_112 rfl (by decide) (by decide) (by omega) (by omega) (Nat.le_of_ble_eq_true rfl) (ko_rt ?_)
        show T x 74 [(0, vR 200), (1, vI 1), (2, vI l), (3, vI x9), (4, vI y9), (5, vI 1), (6, vI (8 / 1 - 1))] [vI 0] (hput h 200 (oO 10 [vR 201, vR 202, vR 203, vR 204, vR 205, vR 206, vR 207, vR 208, vR 209, vR 210, vR 211, vR 212, vR 213, vR 214, vR 215, vR 216, vR 217, vR 218, vI mv, vI mrc, vI mmc, vI mmk, vI mdv, vI mwl, vI mwa, vI mwp, vI 0])) _ _
        exact st_zreturn C F dX11_noTile_74 rfl (by omega) (by first | exact ⟨rfl, rfl⟩ | (exfalso; omega)) (by omega) (by omega)
      · refine st_callS (st := [vR 200]) C dX11_noTile_59 [vI y9, vI 0, vI (8 / 1 - 1)] (k_isIn_f (v9 := y9) (l9 := 0) (u9 := (8 / 1 - 1))  b_59) w_X11_75 rfl (by decide) (by decide) (by omega) (by omega) (Nat.le_of_ble_eq_true rfl) (ko_rt ?_)
        show T x 62 [(0, vR 200), (1, vI 1), (2, vI l), (3, vI x9), (4, vI y9), (5, vI 1), (6, vI (8 / 1 - 1))] [vI 0, vR 200] _ _ _
        refine st_if_eq (tgt := 69) C dX11_noTile_62 (by decide) (fun c_62 => ?_) (fun c_62 => by omega)
        refine st_iconst C dX11_noTile_69 (by decide) ?_
        refine st_iconst C dX11_noTile_70 (by decide) ?_
        refine st_callV (st := []) C dX11_noTile_71 [vI 0, vI 1] (k_no_f (p9 := 1) hm) hm w_X11_112 rfl (by decide) (by decide) (by omega) (by omega) (Nat.le_of_ble_eq_true rfl) (ko_rt ?_)
        show T x 74 [(0, vR 200), (1, vI 1), (2, vI l), (3, vI x9), (4, vI y9), (5, vI 1), (6, vI (8 / 1 - 1))] [vI 1] (hput h 200 (oO 10 [vR 201, vR 202, vR 203, vR 204, vR 205, vR 206, vR 207, vR 208, vR 209, vR 210, vR 211, vR 212, vR 213, vR 214, vR 215, vR 216, vR 217, vR 218, vI mv, vI mrc, vI mmc, vI mmk, vI mdv, vI mwl, vI mwa, vI mwp, vI 1])) _ _
        exact st_zreturn C F dX11_noTile_74 rfl (by omega) (by first | exact ⟨rfl, rfl⟩ | (exfalso; omega)) (by omega) (by omega)
    · refine st_callS (st := [vR 200]) C dX11_noTile_48 [vI x9, vI 0, vI (8 / 1 - 1)] (k_isIn_f (v9 := x9) (l9 := 0) (u9 := (8 / 1 - 1))  b_48) w_X11_75 rfl (by decide) (by decide) (by omega) (by omega) (Nat.le_of_ble_eq_true rfl) (ko_rt ?_)
      show T x 51 [(0, vR 200), (1, vI 1), (2, vI l), (3, vI x9), (4, vI y9), (5, vI 1), (6, vI (8 / 1 - 1))] [vI 0, vR 200] _ _ _
      refine st_if_eq (tgt := 69) C dX11_noTile_51 (by decide) (fun c_51 => ?_) (fun c_51 => by omega)
      refine st_iconst C dX11_noTile_69 (by decide) ?_
      refine st_iconst C dX11_noTile_70 (by decide) ?_
      refine st_callV (st := []) C dX11_noTile_71 [vI 0, vI 1] (k_no_f (p9 := 1) hm) hm w_X11_112 rfl (by decide) (by decide) (by omega) (by omega) (Nat.le_of_ble_eq_true rfl) (ko_rt ?_)
      show T x 74 [(0, vR 200), (1, vI 1), (2, vI l), (3, vI x9), (4, vI y9), (5, vI 1), (6, vI (8 / 1 - 1))] [vI 1] (hput h 200 (oO 10 [vR 201, vR 202, vR 203, vR 204, vR 205, vR 206, vR 207, vR 208, vR 209, vR 210, vR 211, vR 212, vR 213, vR 214, vR 215, vR 216, vR 217, vR 218, vI mv, vI mrc, vI mmc, vI mmk, vI mdv, vI mwl, vI mwa, vI mwp, vI 1])) _ _
      exact st_zreturn C F dX11_noTile_74 rfl (by omega) (by first | exact ⟨rfl, rfl⟩ | (exfalso; omega)) (by omega) (by omega)
  · refine st_callS (st := []) C dX11_noTile_8 [vI l] (k_mLayer_f (v9 := l)  b_8) w_X11_108 rfl (by decide) (by decide) (by omega) (by omega) (Nat.le_of_ble_eq_true rfl) (ko_rt ?_)
    show T x 11 [(0, vR 200), (1, vI 1), (2, vI l), (3, vI x9), (4, vI y9)] [vI 0] _ _ _
    refine st_if_eq (tgt := 18) C dX11_noTile_11 (by decide) (fun c_11 => ?_) (fun c_11 => by omega)
    refine st_iconst C dX11_noTile_18 (by decide) ?_
    refine st_istore C dX11_noTile_19 (by decide) rfl ?_
    show T x 21 [(0, vR 200), (1, vI 1), (2, vI l), (3, vI x9), (4, vI y9), (5, vI 0)] [] _ _ _
    refine st_iload C dX11_noTile_21 rfl ?_
    refine st_if_eq (tgt := 35) C dX11_noTile_23 (by decide) (fun c_23 => ?_) (fun c_23 => by omega)
    refine st_iconst C dX11_noTile_35 (by decide) ?_
    refine st_istore C dX11_noTile_36 (by decide) rfl ?_
    show T x 38 [(0, vR 200), (1, vI 1), (2, vI l), (3, vI x9), (4, vI y9), (5, vI 0), (6, vI 0)] [] _ _ _
    refine st_aload_n C 0 dX11_noTile_38 rfl rfl ?_
    refine st_iload C dX11_noTile_39 rfl ?_
    refine st_if_eq (tgt := 69) C dX11_noTile_41 (by decide) (fun c_41 => ?_) (fun c_41 => by omega)
    refine st_iconst C dX11_noTile_69 (by decide) ?_
    refine st_iconst C dX11_noTile_70 (by decide) ?_
    refine st_callV (st := []) C dX11_noTile_71 [vI 0, vI 1] (k_no_f (p9 := 1) hm) hm w_X11_112 rfl (by decide) (by decide) (by omega) (by omega) (Nat.le_of_ble_eq_true rfl) (ko_rt ?_)
    show T x 74 [(0, vR 200), (1, vI 1), (2, vI l), (3, vI x9), (4, vI y9), (5, vI 0), (6, vI 0)] [vI 1] (hput h 200 (oO 10 [vR 201, vR 202, vR 203, vR 204, vR 205, vR 206, vR 207, vR 208, vR 209, vR 210, vR 211, vR 212, vR 213, vR 214, vR 215, vR 216, vR 217, vR 218, vI mv, vI mrc, vI mmc, vI mmk, vI mdv, vI mwl, vI mwa, vI mwp, vI 1])) _ _
    exact st_zreturn C F dX11_noTile_74 rfl (by omega) (by first | exact ⟨rfl, rfl⟩ | (exfalso; omega)) (by omega) (by omega)
set_option maxRecDepth 20000 in
set_option maxHeartbeats 4000000 in
theorem k_noTile1_f {g : Gx} {h : HP} {mv mrc mmc mmk mdv mwl mwa mwp mth : Int} {l x9 y9 : Int} (hm : mO h mv mrc mmc mmk mdv mwl mwa mwp mth) (hP : ¬ TileOk 1 l x9 y9) : Ct g yX11_noTile (.code yX11_noTile cX11_noTile 7 (some .boolean)) 3 0 0 [vR 200, vI 1, vI l, vI x9, vI y9] h (Rt (some (vI 1)) (hput h 200 (oO 10 [vR 201, vR 202, vR 203, vR 204, vR 205, vR 206, vR 207, vR 208, vR 209, vR 210, vR 211, vR 212, vR 213, vR 214, vR 215, vR 216, vR 217, vR 218, vI mv, vI mrc, vI mmc, vI mmk, vI mdv, vI mwl, vI mwa, vI mwp, vI 1]))) := by
  refine Ct.of (by decide) (Nat.le_of_ble_eq_true rfl) (fun x hg C F => ?_)
  subst hg
  have hP2 := hP
  unfold TileOk at hP2
  show T x 0 [(0, vR 200), (1, vI 1), (2, vI l), (3, vI x9), (4, vI y9)] [] h 0 0
  refine st_iload_n C 1 dX11_noTile_0 rfl rfl ?_
  refine st_callS (st := []) C dX11_noTile_1 [vI 1] k_depth1 w_X11_174 rfl (by decide) (by decide) (by omega) (by omega) (Nat.le_of_ble_eq_true rfl) (ko_rt ?_)
  show T x 4 [(0, vR 200), (1, vI 1), (2, vI l), (3, vI x9), (4, vI y9)] [vI 0] _ _ _
  refine st_if_lt (tgt := 18) C dX11_noTile_4 (by decide) (fun c_4 => by omega) (fun c_4 => ?_)
  refine st_iload_n C 2 dX11_noTile_7 rfl rfl ?_
  by_cases b_8 : 0 ≤ l ∧ l ≤ 2
  · refine st_callS (st := []) C dX11_noTile_8 [vI l] (k_mLayer_t (v9 := l)  b_8) w_X11_108 rfl (by decide) (by decide) (by omega) (by omega) (Nat.le_of_ble_eq_true rfl) (ko_rt ?_)
    show T x 11 [(0, vR 200), (1, vI 1), (2, vI l), (3, vI x9), (4, vI y9)] [vI 1] _ _ _
    refine st_if_eq (tgt := 18) C dX11_noTile_11 (by decide) (fun c_11 => by omega) (fun c_11 => ?_)
    refine st_iconst C dX11_noTile_14 (by decide) ?_
    refine st_goto (tgt := 19) C dX11_noTile_15 (by decide) ?_
    refine st_istore C dX11_noTile_19 (by decide) rfl ?_
    show T x 21 [(0, vR 200), (1, vI 1), (2, vI l), (3, vI x9), (4, vI y9), (5, vI 1)] [] _ _ _
    refine st_iload C dX11_noTile_21 rfl ?_
    refine st_if_eq (tgt := 35) C dX11_noTile_23 (by decide) (fun c_23 => by omega) (fun c_23 => ?_)
    refine st_bipush C dX11_noTile_26 (by decide) (by decide) ?_
    refine st_iload_n C 1 dX11_noTile_28 rfl rfl ?_
    refine st_idiv C dX11_noTile_29 (by omega) (by omega) ?_
    refine st_iconst C dX11_noTile_30 (by decide) ?_
    refine st_isub C dX11_noTile_31 ⟨(by omega), (by omega)⟩ ?_
    refine st_goto (tgt := 36) C dX11_noTile_32 (by decide) ?_
    refine st_istore C dX11_noTile_36 (by decide) rfl ?_
    show T x 38 [(0, vR 200), (1, vI 1), (2, vI l), (3, vI x9), (4, vI y9), (5, vI 1), (6, vI (8 / 1 - 1))] [] _ _ _
    refine st_aload_n C 0 dX11_noTile_38 rfl rfl ?_
    refine st_iload C dX11_noTile_39 rfl ?_
    refine st_if_eq (tgt := 69) C dX11_noTile_41 (by decide) (fun c_41 => by omega) (fun c_41 => ?_)
    refine st_iload_n C 3 dX11_noTile_44 rfl rfl ?_
    refine st_iconst C dX11_noTile_45 (by decide) ?_
    refine st_iload C dX11_noTile_46 rfl ?_
    by_cases b_48 : 0 ≤ x9 ∧ x9 ≤ (8 / 1 - 1)
    · refine st_callS (st := [vR 200]) C dX11_noTile_48 [vI x9, vI 0, vI (8 / 1 - 1)] (k_isIn_t (v9 := x9) (l9 := 0) (u9 := (8 / 1 - 1))  b_48) w_X11_75 rfl (by decide) (by decide) (by omega) (by omega) (Nat.le_of_ble_eq_true rfl) (ko_rt ?_)
      show T x 51 [(0, vR 200), (1, vI 1), (2, vI l), (3, vI x9), (4, vI y9), (5, vI 1), (6, vI (8 / 1 - 1))] [vI 1, vR 200] _ _ _
      refine st_if_eq (tgt := 69) C dX11_noTile_51 (by decide) (fun c_51 => by omega) (fun c_51 => ?_)
      refine st_iload C dX11_noTile_54 rfl ?_
      refine st_iconst C dX11_noTile_56 (by decide) ?_
      refine st_iload C dX11_noTile_57 rfl ?_
      by_cases b_59 : 0 ≤ y9 ∧ y9 ≤ (8 / 1 - 1)
      · refine st_callS (st := [vR 200]) C dX11_noTile_59 [vI y9, vI 0, vI (8 / 1 - 1)] (k_isIn_t (v9 := y9) (l9 := 0) (u9 := (8 / 1 - 1))  b_59) w_X11_75 rfl (by decide) (by decide) (by omega) (by omega) (Nat.le_of_ble_eq_true rfl) (ko_rt ?_)
        show T x 62 [(0, vR 200), (1, vI 1), (2, vI l), (3, vI x9), (4, vI y9), (5, vI 1), (6, vI (8 / 1 - 1))] [vI 1, vR 200] _ _ _
        refine st_if_eq (tgt := 69) C dX11_noTile_62 (by decide) (fun c_62 => by omega) (fun c_62 => ?_)
        refine st_iconst C dX11_noTile_65 (by decide) ?_
        refine st_goto (tgt := 70) C dX11_noTile_66 (by decide) ?_
        refine st_iconst C dX11_noTile_70 (by decide) ?_
        refine st_callV (st := []) C dX11_noTile_71 [vI 1, vI 1] (k_no_t (p9 := 1) hm) hm w_X11_112 rfl (by decide) (by decide) (by omega) (by omega) (Nat.le_of_ble_eq_true rfl) (ko_rt ?_)
        show T x 74 [(0, vR 200), (1, vI 1), (2, vI l), (3, vI x9), (4, vI y9), (5, vI 1), (6, vI (8 / 1 - 1))] [vI 0] (hput h 200 (oO 10 [vR 201, vR 202, vR 203, vR 204, vR 205, vR 206, vR 207, vR 208, vR 209, vR 210, vR 211, vR 212, vR 213, vR 214, vR 215, vR 216, vR 217, vR 218, vI mv, vI mrc, vI mmc, vI mmk, vI mdv, vI mwl, vI mwa, vI mwp, vI 0])) _ _
        exact st_zreturn C F dX11_noTile_74 rfl (by omega) (by first | exact ⟨rfl, rfl⟩ | (exfalso; omega)) (by omega) (by omega)
      · refine st_callS (st := [vR 200]) C dX11_noTile_59 [vI y9, vI 0, vI (8 / 1 - 1)] (k_isIn_f (v9 := y9) (l9 := 0) (u9 := (8 / 1 - 1))  b_59) w_X11_75 rfl (by decide) (by decide) (by omega) (by omega) (Nat.le_of_ble_eq_true rfl) (ko_rt ?_)
        show T x 62 [(0, vR 200), (1, vI 1), (2, vI l), (3, vI x9), (4, vI y9), (5, vI 1), (6, vI (8 / 1 - 1))] [vI 0, vR 200] _ _ _
        refine st_if_eq (tgt := 69) C dX11_noTile_62 (by decide) (fun c_62 => ?_) (fun c_62 => by omega)
        refine st_iconst C dX11_noTile_69 (by decide) ?_
        refine st_iconst C dX11_noTile_70 (by decide) ?_
        refine st_callV (st := []) C dX11_noTile_71 [vI 0, vI 1] (k_no_f (p9 := 1) hm) hm w_X11_112 rfl (by decide) (by decide) (by omega) (by omega) (Nat.le_of_ble_eq_true rfl) (ko_rt ?_)
        show T x 74 [(0, vR 200), (1, vI 1), (2, vI l), (3, vI x9), (4, vI y9), (5, vI 1), (6, vI (8 / 1 - 1))] [vI 1] (hput h 200 (oO 10 [vR 201, vR 202, vR 203, vR 204, vR 205, vR 206, vR 207, vR 208, vR 209, vR 210, vR 211, vR 212, vR 213, vR 214, vR 215, vR 216, vR 217, vR 218, vI mv, vI mrc, vI mmc, vI mmk, vI mdv, vI mwl, vI mwa, vI mwp, vI 1])) _ _
        exact st_zreturn C F dX11_noTile_74 rfl (by omega) (by first | exact ⟨rfl, rfl⟩ | (exfalso; omega)) (by omega) (by omega)
    · refine st_callS (st := [vR 200]) C dX11_noTile_48 [vI x9, vI 0, vI (8 / 1 - 1)] (k_isIn_f (v9 := x9) (l9 := 0) (u9 := (8 / 1 - 1))  b_48) w_X11_75 rfl (by decide) (by decide) (by omega) (by omega) (Nat.le_of_ble_eq_true rfl) (ko_rt ?_)
      show T x 51 [(0, vR 200), (1, vI 1), (2, vI l), (3, vI x9), (4, vI y9), (5, vI 1), (6, vI (8 / 1 - 1))] [vI 0, vR 200] _ _ _
      refine st_if_eq (tgt := 69) C dX11_noTile_51 (by decide) (fun c_51 => ?_) (fun c_51 => by omega)
      refine st_iconst C dX11_noTile_69 (by decide) ?_
      refine st_iconst C dX11_noTile_70 (by decide) ?_
      refine st_callV (st := []) C dX11_noTile_71 [vI 0, vI 1] (k_no_f (p9 := 1) hm) hm w_X11_112 rfl (by decide) (by decide) (by omega) (by omega) (Nat.le_of_ble_eq_true rfl) (ko_rt ?_)
      show T x 74 [(0, vR 200), (1, vI 1), (2, vI l), (3, vI x9), (4, vI y9), (5, vI 1), (6, vI (8 / 1 - 1))] [vI 1] (hput h 200 (oO 10 [vR 201, vR 202, vR 203, vR 204, vR 205, vR 206, vR 207, vR 208, vR 209, vR 210, vR 211, vR 212, vR 213, vR 214, vR 215, vR 216, vR 217, vR 218, vI mv, vI mrc, vI mmc, vI mmk, vI mdv, vI mwl, vI mwa, vI mwp, vI 1])) _ _
      exact st_zreturn C F dX11_noTile_74 rfl (by omega) (by first | exact ⟨rfl, rfl⟩ | (exfalso; omega)) (by omega) (by omega)
  · refine st_callS (st := []) C dX11_noTile_8 [vI l] (k_mLayer_f (v9 := l)  b_8) w_X11_108 rfl (by decide) (by decide) (by omega) (by omega) (Nat.le_of_ble_eq_true rfl) (ko_rt ?_)
    show T x 11 [(0, vR 200), (1, vI 1), (2, vI l), (3, vI x9), (4, vI y9)] [vI 0] _ _ _
    refine st_if_eq (tgt := 18) C dX11_noTile_11 (by decide) (fun c_11 => ?_) (fun c_11 => by omega)
    refine st_iconst C dX11_noTile_18 (by decide) ?_
    refine st_istore C dX11_noTile_19 (by decide) rfl ?_
    show T x 21 [(0, vR 200), (1, vI 1), (2, vI l), (3, vI x9), (4, vI y9), (5, vI 0)] [] _ _ _
    refine st_iload C dX11_noTile_21 rfl ?_
    refine st_if_eq (tgt := 35) C dX11_noTile_23 (by decide) (fun c_23 => ?_) (fun c_23 => by omega)
    refine st_iconst C dX11_noTile_35 (by decide) ?_
    refine st_istore C dX11_noTile_36 (by decide) rfl ?_
    show T x 38 [(0, vR 200), (1, vI 1), (2, vI l), (3, vI x9), (4, vI y9), (5, vI 0), (6, vI 0)] [] _ _ _
    refine st_aload_n C 0 dX11_noTile_38 rfl rfl ?_
    refine st_iload C dX11_noTile_39 rfl ?_
    refine st_if_eq (tgt := 69) C dX11_noTile_41 (by decide) (fun c_41 => ?_) (fun c_41 => by omega)
    refine st_iconst C dX11_noTile_69 (by decide) ?_
    refine st_iconst C dX11_noTile_70 (by decide) ?_
    refine st_callV (st := []) C dX11_noTile_71 [vI 0, vI 1] (k_no_f (p9 := 1) hm) hm w_X11_112 rfl (by decide) (by decide) (by omega) (by omega) (Nat.le_of_ble_eq_true rfl) (ko_rt ?_)
    show T x 74 [(0, vR 200), (1, vI 1), (2, vI l), (3, vI x9), (4, vI y9), (5, vI 0), (6, vI 0)] [vI 1] (hput h 200 (oO 10 [vR 201, vR 202, vR 203, vR 204, vR 205, vR 206, vR 207, vR 208, vR 209, vR 210, vR 211, vR 212, vR 213, vR 214, vR 215, vR 216, vR 217, vR 218, vI mv, vI mrc, vI mmc, vI mmk, vI mdv, vI mwl, vI mwa, vI mwp, vI 1])) _ _
    exact st_zreturn C F dX11_noTile_74 rfl (by omega) (by first | exact ⟨rfl, rfl⟩ | (exfalso; omega)) (by omega) (by omega)
set_option maxRecDepth 20000 in
set_option maxHeartbeats 4000000 in
theorem k_noTile2_t {g : Gx} {h : HP} {mv mrc mmc mmk mdv mwl mwa mwp mth : Int} {l x9 y9 : Int} (hm : mO h mv mrc mmc mmk mdv mwl mwa mwp mth) (hP : TileOk 2 l x9 y9) : Ct g yX11_noTile (.code yX11_noTile cX11_noTile 7 (some .boolean)) 3 0 0 [vR 200, vI 2, vI l, vI x9, vI y9] h (Rt (some (vI 0)) (hput h 200 (oO 10 [vR 201, vR 202, vR 203, vR 204, vR 205, vR 206, vR 207, vR 208, vR 209, vR 210, vR 211, vR 212, vR 213, vR 214, vR 215, vR 216, vR 217, vR 218, vI mv, vI mrc, vI mmc, vI mmk, vI mdv, vI mwl, vI mwa, vI mwp, vI 0]))) := by
  refine Ct.of (by decide) (Nat.le_of_ble_eq_true rfl) (fun x hg C F => ?_)
  subst hg
  have hP2 := hP
  unfold TileOk at hP2
  show T x 0 [(0, vR 200), (1, vI 2), (2, vI l), (3, vI x9), (4, vI y9)] [] h 0 0
  refine st_iload_n C 1 dX11_noTile_0 rfl rfl ?_
  refine st_callS (st := []) C dX11_noTile_1 [vI 2] k_depth2 w_X11_174 rfl (by decide) (by decide) (by omega) (by omega) (Nat.le_of_ble_eq_true rfl) (ko_rt ?_)
  show T x 4 [(0, vR 200), (1, vI 2), (2, vI l), (3, vI x9), (4, vI y9)] [vI 1] _ _ _
  refine st_if_lt (tgt := 18) C dX11_noTile_4 (by decide) (fun c_4 => by omega) (fun c_4 => ?_)
  refine st_iload_n C 2 dX11_noTile_7 rfl rfl ?_
  by_cases b_8 : 0 ≤ l ∧ l ≤ 2
  · refine st_callS (st := []) C dX11_noTile_8 [vI l] (k_mLayer_t (v9 := l)  b_8) w_X11_108 rfl (by decide) (by decide) (by omega) (by omega) (Nat.le_of_ble_eq_true rfl) (ko_rt ?_)
    show T x 11 [(0, vR 200), (1, vI 2), (2, vI l), (3, vI x9), (4, vI y9)] [vI 1] _ _ _
    refine st_if_eq (tgt := 18) C dX11_noTile_11 (by decide) (fun c_11 => by omega) (fun c_11 => ?_)
    refine st_iconst C dX11_noTile_14 (by decide) ?_
    refine st_goto (tgt := 19) C dX11_noTile_15 (by decide) ?_
    refine st_istore C dX11_noTile_19 (by decide) rfl ?_
    show T x 21 [(0, vR 200), (1, vI 2), (2, vI l), (3, vI x9), (4, vI y9), (5, vI 1)] [] _ _ _
    refine st_iload C dX11_noTile_21 rfl ?_
    refine st_if_eq (tgt := 35) C dX11_noTile_23 (by decide) (fun c_23 => by omega) (fun c_23 => ?_)
    refine st_bipush C dX11_noTile_26 (by decide) (by decide) ?_
    refine st_iload_n C 1 dX11_noTile_28 rfl rfl ?_
    refine st_idiv C dX11_noTile_29 (by omega) (by omega) ?_
    refine st_iconst C dX11_noTile_30 (by decide) ?_
    refine st_isub C dX11_noTile_31 ⟨(by omega), (by omega)⟩ ?_
    refine st_goto (tgt := 36) C dX11_noTile_32 (by decide) ?_
    refine st_istore C dX11_noTile_36 (by decide) rfl ?_
    show T x 38 [(0, vR 200), (1, vI 2), (2, vI l), (3, vI x9), (4, vI y9), (5, vI 1), (6, vI (8 / 2 - 1))] [] _ _ _
    refine st_aload_n C 0 dX11_noTile_38 rfl rfl ?_
    refine st_iload C dX11_noTile_39 rfl ?_
    refine st_if_eq (tgt := 69) C dX11_noTile_41 (by decide) (fun c_41 => by omega) (fun c_41 => ?_)
    refine st_iload_n C 3 dX11_noTile_44 rfl rfl ?_
    refine st_iconst C dX11_noTile_45 (by decide) ?_
    refine st_iload C dX11_noTile_46 rfl ?_
    by_cases b_48 : 0 ≤ x9 ∧ x9 ≤ (8 / 2 - 1)
    · refine st_callS (st := [vR 200]) C dX11_noTile_48 [vI x9, vI 0, vI (8 / 2 - 1)] (k_isIn_t (v9 := x9) (l9 := 0) (u9 := (8 / 2 - 1))  b_48) w_X11_75 rfl (by decide) (by decide) (by omega) (by omega) (Nat.le_of_ble_eq_true rfl) (ko_rt ?_)
      show T x 51 [(0, vR 200), (1, vI 2), (2, vI l), (3, vI x9), (4, vI y9), (5, vI 1), (6, vI (8 / 2 - 1))] [vI 1, vR 200] _ _ _
      refine st_if_eq (tgt := 69) C dX11_noTile_51 (by decide) (fun c_51 => by omega) (fun c_51 => ?_)
      refine st_iload C dX11_noTile_54 rfl ?_
      refine st_iconst C dX11_noTile_56 (by decide) ?_
      refine st_iload C dX11_noTile_57 rfl ?_
      by_cases b_59 : 0 ≤ y9 ∧ y9 ≤ (8 / 2 - 1)
      · refine st_callS (st := [vR 200]) C dX11_noTile_59 [vI y9, vI 0, vI (8 / 2 - 1)] (k_isIn_t (v9 := y9) (l9 := 0) (u9 := (8 / 2 - 1))  b_59) w_X11_75 rfl (by decide) (by decide) (by omega) (by omega) (Nat.le_of_ble_eq_true rfl) (ko_rt ?_)
        show T x 62 [(0, vR 200), (1, vI 2), (2, vI l), (3, vI x9), (4, vI y9), (5, vI 1), (6, vI (8 / 2 - 1))] [vI 1, vR 200] _ _ _
        refine st_if_eq (tgt := 69) C dX11_noTile_62 (by decide) (fun c_62 => by omega) (fun c_62 => ?_)
        refine st_iconst C dX11_noTile_65 (by decide) ?_
        refine st_goto (tgt := 70) C dX11_noTile_66 (by decide) ?_
        refine st_iconst C dX11_noTile_70 (by decide) ?_
        refine st_callV (st := []) C dX11_noTile_71 [vI 1, vI 1] (k_no_t (p9 := 1) hm) hm w_X11_112 rfl (by decide) (by decide) (by omega) (by omega) (Nat.le_of_ble_eq_true rfl) (ko_rt ?_)
        show T x 74 [(0, vR 200), (1, vI 2), (2, vI l), (3, vI x9), (4, vI y9), (5, vI 1), (6, vI (8 / 2 - 1))] [vI 0] (hput h 200 (oO 10 [vR 201, vR 202, vR 203, vR 204, vR 205, vR 206, vR 207, vR 208, vR 209, vR 210, vR 211, vR 212, vR 213, vR 214, vR 215, vR 216, vR 217, vR 218, vI mv, vI mrc, vI mmc, vI mmk, vI mdv, vI mwl, vI mwa, vI mwp, vI 0])) _ _
        exact st_zreturn C F dX11_noTile_74 rfl (by omega) (by first | exact ⟨rfl, rfl⟩ | (exfalso; omega)) (by omega) (by omega)
      · refine st_callS (st := [vR 200]) C dX11_noTile_59 [vI y9, vI 0, vI (8 / 2 - 1)] (k_isIn_f (v9 := y9) (l9 := 0) (u9 := (8 / 2 - 1))  b_59) w_X11_75 rfl (by decide) (by decide) (by omega) (by omega) (Nat.le_of_ble_eq_true rfl) (ko_rt ?_)
        show T x 62 [(0, vR 200), (1, vI 2), (2, vI l), (3, vI x9), (4, vI y9), (5, vI 1), (6, vI (8 / 2 - 1))] [vI 0, vR 200] _ _ _
        refine st_if_eq (tgt := 69) C dX11_noTile_62 (by decide) (fun c_62 => ?_) (fun c_62 => by omega)
        refine st_iconst C dX11_noTile_69 (by decide) ?_
        refine st_iconst C dX11_noTile_70 (by decide) ?_
        refine st_callV (st := []) C dX11_noTile_71 [vI 0, vI 1] (k_no_f (p9 := 1) hm) hm w_X11_112 rfl (by decide) (by decide) (by omega) (by omega) (Nat.le_of_ble_eq_true rfl) (ko_rt ?_)
        show T x 74 [(0, vR 200), (1, vI 2), (2, vI l), (3, vI x9), (4, vI y9), (5, vI 1), (6, vI (8 / 2 - 1))] [vI 1] (hput h 200 (oO 10 [vR 201, vR 202, vR 203, vR 204, vR 205, vR 206, vR 207, vR 208, vR 209, vR 210, vR 211, vR 212, vR 213, vR 214, vR 215, vR 216, vR 217, vR 218, vI mv, vI mrc, vI mmc, vI mmk, vI mdv, vI mwl, vI mwa, vI mwp, vI 1])) _ _
        exact st_zreturn C F dX11_noTile_74 rfl (by omega) (by first | exact ⟨rfl, rfl⟩ | (exfalso; omega)) (by omega) (by omega)
    · refine st_callS (st := [vR 200]) C dX11_noTile_48 [vI x9, vI 0, vI (8 / 2 - 1)] (k_isIn_f (v9 := x9) (l9 := 0) (u9 := (8 / 2 - 1))  b_48) w_X11_75 rfl (by decide) (by decide) (by omega) (by omega) (Nat.le_of_ble_eq_true rfl) (ko_rt ?_)
      show T x 51 [(0, vR 200), (1, vI 2), (2, vI l), (3, vI x9), (4, vI y9), (5, vI 1), (6, vI (8 / 2 - 1))] [vI 0, vR 200] _ _ _
      refine st_if_eq (tgt := 69) C dX11_noTile_51 (by decide) (fun c_51 => ?_) (fun c_51 => by omega)
      refine st_iconst C dX11_noTile_69 (by decide) ?_
      refine st_iconst C dX11_noTile_70 (by decide) ?_
      refine st_callV (st := []) C dX11_noTile_71 [vI 0, vI 1] (k_no_f (p9 := 1) hm) hm w_X11_112 rfl (by decide) (by decide) (by omega) (by omega) (Nat.le_of_ble_eq_true rfl) (ko_rt ?_)
      show T x 74 [(0, vR 200), (1, vI 2), (2, vI l), (3, vI x9), (4, vI y9), (5, vI 1), (6, vI (8 / 2 - 1))] [vI 1] (hput h 200 (oO 10 [vR 201, vR 202, vR 203, vR 204, vR 205, vR 206, vR 207, vR 208, vR 209, vR 210, vR 211, vR 212, vR 213, vR 214, vR 215, vR 216, vR 217, vR 218, vI mv, vI mrc, vI mmc, vI mmk, vI mdv, vI mwl, vI mwa, vI mwp, vI 1])) _ _
      exact st_zreturn C F dX11_noTile_74 rfl (by omega) (by first | exact ⟨rfl, rfl⟩ | (exfalso; omega)) (by omega) (by omega)
  · refine st_callS (st := []) C dX11_noTile_8 [vI l] (k_mLayer_f (v9 := l)  b_8) w_X11_108 rfl (by decide) (by decide) (by omega) (by omega) (Nat.le_of_ble_eq_true rfl) (ko_rt ?_)
    show T x 11 [(0, vR 200), (1, vI 2), (2, vI l), (3, vI x9), (4, vI y9)] [vI 0] _ _ _
    refine st_if_eq (tgt := 18) C dX11_noTile_11 (by decide) (fun c_11 => ?_) (fun c_11 => by omega)
    refine st_iconst C dX11_noTile_18 (by decide) ?_
    refine st_istore C dX11_noTile_19 (by decide) rfl ?_
    show T x 21 [(0, vR 200), (1, vI 2), (2, vI l), (3, vI x9), (4, vI y9), (5, vI 0)] [] _ _ _
    refine st_iload C dX11_noTile_21 rfl ?_
    refine st_if_eq (tgt := 35) C dX11_noTile_23 (by decide) (fun c_23 => ?_) (fun c_23 => by omega)
    refine st_iconst C dX11_noTile_35 (by decide) ?_
    refine st_istore C dX11_noTile_36 (by decide) rfl ?_
    show T x 38 [(0, vR 200), (1, vI 2), (2, vI l), (3, vI x9), (4, vI y9), (5, vI 0), (6, vI 0)] [] _ _ _
    refine st_aload_n C 0 dX11_noTile_38 rfl rfl ?_
    refine st_iload C dX11_noTile_39 rfl ?_
    refine st_if_eq (tgt := 69) C dX11_noTile_41 (by decide) (fun c_41 => ?_) (fun c_41 => by omega)
    refine st_iconst C dX11_noTile_69 (by decide) ?_
    refine st_iconst C dX11_noTile_70 (by decide) ?_
    refine st_callV (st := []) C dX11_noTile_71 [vI 0, vI 1] (k_no_f (p9 := 1) hm) hm w_X11_112 rfl (by decide) (by decide) (by omega) (by omega) (Nat.le_of_ble_eq_true rfl) (ko_rt ?_)
    show T x 74 [(0, vR 200), (1, vI 2), (2, vI l), (3, vI x9), (4, vI y9), (5, vI 0), (6, vI 0)] [vI 1] (hput h 200 (oO 10 [vR 201, vR 202, vR 203, vR 204, vR 205, vR 206, vR 207, vR 208, vR 209, vR 210, vR 211, vR 212, vR 213, vR 214, vR 215, vR 216, vR 217, vR 218, vI mv, vI mrc, vI mmc, vI mmk, vI mdv, vI mwl, vI mwa, vI mwp, vI 1])) _ _
    exact st_zreturn C F dX11_noTile_74 rfl (by omega) (by first | exact ⟨rfl, rfl⟩ | (exfalso; omega)) (by omega) (by omega)
set_option maxRecDepth 20000 in
set_option maxHeartbeats 4000000 in
theorem k_noTile2_f {g : Gx} {h : HP} {mv mrc mmc mmk mdv mwl mwa mwp mth : Int} {l x9 y9 : Int} (hm : mO h mv mrc mmc mmk mdv mwl mwa mwp mth) (hP : ¬ TileOk 2 l x9 y9) : Ct g yX11_noTile (.code yX11_noTile cX11_noTile 7 (some .boolean)) 3 0 0 [vR 200, vI 2, vI l, vI x9, vI y9] h (Rt (some (vI 1)) (hput h 200 (oO 10 [vR 201, vR 202, vR 203, vR 204, vR 205, vR 206, vR 207, vR 208, vR 209, vR 210, vR 211, vR 212, vR 213, vR 214, vR 215, vR 216, vR 217, vR 218, vI mv, vI mrc, vI mmc, vI mmk, vI mdv, vI mwl, vI mwa, vI mwp, vI 1]))) := by
  refine Ct.of (by decide) (Nat.le_of_ble_eq_true rfl) (fun x hg C F => ?_)
  subst hg
  have hP2 := hP
  unfold TileOk at hP2
  show T x 0 [(0, vR 200), (1, vI 2), (2, vI l), (3, vI x9), (4, vI y9)] [] h 0 0
  refine st_iload_n C 1 dX11_noTile_0 rfl rfl ?_
  refine st_callS (st := []) C dX11_noTile_1 [vI 2] k_depth2 w_X11_174 rfl (by decide) (by decide) (by omega) (by omega) (Nat.le_of_ble_eq_true rfl) (ko_rt ?_)
  show T x 4 [(0, vR 200), (1, vI 2), (2, vI l), (3, vI x9), (4, vI y9)] [vI 1] _ _ _
  refine st_if_lt (tgt := 18) C dX11_noTile_4 (by decide) (fun c_4 => by omega) (fun c_4 => ?_)
  refine st_iload_n C 2 dX11_noTile_7 rfl rfl ?_
  by_cases b_8 : 0 ≤ l ∧ l ≤ 2
  · refine st_callS (st := []) C dX11_noTile_8 [vI l] (k_mLayer_t (v9 := l)  b_8) w_X11_108 rfl (by decide) (by decide) (by omega) (by omega) (Nat.le_of_ble_eq_true rfl) (ko_rt ?_)
    show T x 11 [(0, vR 200), (1, vI 2), (2, vI l), (3, vI x9), (4, vI y9)] [vI 1] _ _ _
    refine st_if_eq (tgt := 18) C dX11_noTile_11 (by decide) (fun c_11 => by omega) (fun c_11 => ?_)
    refine st_iconst C dX11_noTile_14 (by decide) ?_
    refine st_goto (tgt := 19) C dX11_noTile_15 (by decide) ?_
    refine st_istore C dX11_noTile_19 (by decide) rfl ?_
    show T x 21 [(0, vR 200), (1, vI 2), (2, vI l), (3, vI x9), (4, vI y9), (5, vI 1)] [] _ _ _
    refine st_iload C dX11_noTile_21 rfl ?_
    refine st_if_eq (tgt := 35) C dX11_noTile_23 (by decide) (fun c_23 => by omega) (fun c_23 => ?_)
    refine st_bipush C dX11_noTile_26 (by decide) (by decide) ?_
    refine st_iload_n C 1 dX11_noTile_28 rfl rfl ?_
    refine st_idiv C dX11_noTile_29 (by omega) (by omega) ?_
    refine st_iconst C dX11_noTile_30 (by decide) ?_
    refine st_isub C dX11_noTile_31 ⟨(by omega), (by omega)⟩ ?_
    refine st_goto (tgt := 36) C dX11_noTile_32 (by decide) ?_
    refine st_istore C dX11_noTile_36 (by decide) rfl ?_
    show T x 38 [(0, vR 200), (1, vI 2), (2, vI l), (3, vI x9), (4, vI y9), (5, vI 1), (6, vI (8 / 2 - 1))] [] _ _ _
    refine st_aload_n C 0 dX11_noTile_38 rfl rfl ?_
    refine st_iload C dX11_noTile_39 rfl ?_
    refine st_if_eq (tgt := 69) C dX11_noTile_41 (by decide) (fun c_41 => by omega) (fun c_41 => ?_)
    refine st_iload_n C 3 dX11_noTile_44 rfl rfl ?_
    refine st_iconst C dX11_noTile_45 (by decide) ?_
    refine st_iload C dX11_noTile_46 rfl ?_
    by_cases b_48 : 0 ≤ x9 ∧ x9 ≤ (8 / 2 - 1)
    · refine st_callS (st := [vR 200]) C dX11_noTile_48 [vI x9, vI 0, vI (8 / 2 - 1)] (k_isIn_t (v9 := x9) (l9 := 0) (u9 := (8 / 2 - 1))  b_48) w_X11_75 rfl (by decide) (by decide) (by omega) (by omega) (Nat.le_of_ble_eq_true rfl) (ko_rt ?_)
      show T x 51 [(0, vR 200), (1, vI 2), (2, vI l), (3, vI x9), (4, vI y9), (5, vI 1), (6, vI (8 / 2 - 1))] [vI 1, vR 200] _ _ _
      refine st_if_eq (tgt := 69) C dX11_noTile_51 (by decide) (fun c_51 => by omega) (fun c_51 => ?_)
      refine st_iload C dX11_noTile_54 rfl ?_
      refine st_iconst C dX11_noTile_56 (by decide) ?_
      refine st_iload C dX11_noTile_57 rfl ?_
      by_cases b_59 : 0 ≤ y9 ∧ y9 ≤ (8 / 2 - 1)
      · refine st_callS (st := [vR 200]) C dX11_noTile_59 [vI y9, vI 0, vI (8 / 2 - 1)] (k_isIn_t (v9 := y9) (l9 := 0) (u9 := (8 / 2 - 1))  b_59) w_X11_75 rfl (by decide) (by decide) (by omega) (by omega) (Nat.le_of_ble_eq_true rfl) (ko_rt ?_)
        show T x 62 [(0, vR 200), (1, vI 2), (2, vI l), (3, vI x9), (4, vI y9), (5, vI 1), (6, vI (8 / 2 - 1))] [vI 1, vR 200] _ _ _
        refine st_if_eq (tgt := 69) C dX11_noTile_62 (by decide) (fun c_62 => by omega) (fun c_62 => ?_)
        refine st_iconst C dX11_noTile_65 (by decide) ?_
        refine st_goto (tgt := 70) C dX11_noTile_66 (by decide) ?_
        refine st_iconst C dX11_noTile_70 (by decide) ?_
        refine st_callV (st := []) C dX11_noTile_71 [vI 1, vI 1] (k_no_t (p9 := 1) hm) hm w_X11_112 rfl (by decide) (by decide) (by omega) (by omega) (Nat.le_of_ble_eq_true rfl) (ko_rt ?_)
        show T x 74 [(0, vR 200), (1, vI 2), (2, vI l), (3, vI x9), (4, vI y9), (5, vI 1), (6, vI (8 / 2 - 1))] [vI 0] (hput h 200 (oO 10 [vR 201, vR 202, vR 203, vR 204, vR 205, vR 206, vR 207, vR 208, vR 209, vR 210, vR 211, vR 212, vR 213, vR 214, vR 215, vR 216, vR 217, vR 218, vI mv, vI mrc, vI mmc, vI mmk, vI mdv, vI mwl, vI mwa, vI mwp, vI 0])) _ _
        exact st_zreturn C F dX11_noTile_74 rfl (by omega) (by first | exact ⟨rfl, rfl⟩ | (exfalso; omega)) (by omega) (by omega)
      · refine st_callS (st := [vR 200]) C dX11_noTile_59 [vI y9, vI 0, vI (8 / 2 - 1)] (k_isIn_f (v9 := y9) (l9 := 0) (u9 := (8 / 2 - 1))  b_59) w_X11_75 rfl (by decide) (by decide) (by omega) (by omega) (Nat.le_of_ble_eq_true rfl) (ko_rt ?_)
        show T x 62 [(0, vR 200), (1, vI 2), (2, vI l), (3, vI x9), (4, vI y9), (5, vI 1), (6, vI (8 / 2 - 1))] [vI 0, vR 200] _ _ _
        refine st_if_eq (tgt := 69) C dX11_noTile_62 (by decide) (fun c_62 => ?_) (fun c_62 => by omega)
        refine st_iconst C dX11_noTile_69 (by decide) ?_
        refine st_iconst C dX11_noTile_70 (by decide) ?_
        refine st_callV (st := []) C dX11_noTile_71 [vI 0, vI 1] (k_no_f (p9 := 1) hm) hm w_X11_112 rfl (by decide) (by decide) (by omega) (by omega) (Nat.le_of_ble_eq_true rfl) (ko_rt ?_)
        show T x 74 [(0, vR 200), (1, vI 2), (2, vI l), (3, vI x9), (4, vI y9), (5, vI 1), (6, vI (8 / 2 - 1))] [vI 1] (hput h 200 (oO 10 [vR 201, vR 202, vR 203, vR 204, vR 205, vR 206, vR 207, vR 208, vR 209, vR 210, vR 211, vR 212, vR 213, vR 214, vR 215, vR 216, vR 217, vR 218, vI mv, vI mrc, vI mmc, vI mmk, vI mdv, vI mwl, vI mwa, vI mwp, vI 1])) _ _
        exact st_zreturn C F dX11_noTile_74 rfl (by omega) (by first | exact ⟨rfl, rfl⟩ | (exfalso; omega)) (by omega) (by omega)
    · refine st_callS (st := [vR 200]) C dX11_noTile_48 [vI x9, vI 0, vI (8 / 2 - 1)] (k_isIn_f (v9 := x9) (l9 := 0) (u9 := (8 / 2 - 1))  b_48) w_X11_75 rfl (by decide) (by decide) (by omega) (by omega) (Nat.le_of_ble_eq_true rfl) (ko_rt ?_)
      show T x 51 [(0, vR 200), (1, vI 2), (2, vI l), (3, vI x9), (4, vI y9), (5, vI 1), (6, vI (8 / 2 - 1))] [vI 0, vR 200] _ _ _
      refine st_if_eq (tgt := 69) C dX11_noTile_51 (by decide) (fun c_51 => ?_) (fun c_51 => by omega)
      refine st_iconst C dX11_noTile_69 (by decide) ?_
      refine st_iconst C dX11_noTile_70 (by decide) ?_
      refine st_callV (st := []) C dX11_noTile_71 [vI 0, vI 1] (k_no_f (p9 := 1) hm) hm w_X11_112 rfl (by decide) (by decide) (by omega) (by omega) (Nat.le_of_ble_eq_true rfl) (ko_rt ?_)
      show T x 74 [(0, vR 200), (1, vI 2), (2, vI l), (3, vI x9), (4, vI y9), (5, vI 1), (6, vI (8 / 2 - 1))] [vI 1] (hput h 200 (oO 10 [vR 201, vR 202, vR 203, vR 204, vR 205, vR 206, vR 207, vR 208, vR 209, vR 210, vR 211, vR 212, vR 213, vR 214, vR 215, vR 216, vR 217, vR 218, vI mv, vI mrc, vI mmc, vI mmk, vI mdv, vI mwl, vI mwa, vI mwp, vI 1])) _ _
      exact st_zreturn C F dX11_noTile_74 rfl (by omega) (by first | exact ⟨rfl, rfl⟩ | (exfalso; omega)) (by omega) (by omega)
  · refine st_callS (st := []) C dX11_noTile_8 [vI l] (k_mLayer_f (v9 := l)  b_8) w_X11_108 rfl (by decide) (by decide) (by omega) (by omega) (Nat.le_of_ble_eq_true rfl) (ko_rt ?_)
    show T x 11 [(0, vR 200), (1, vI 2), (2, vI l), (3, vI x9), (4, vI y9)] [vI 0] _ _ _
    refine st_if_eq (tgt := 18) C dX11_noTile_11 (by decide) (fun c_11 => ?_) (fun c_11 => by omega)
    refine st_iconst C dX11_noTile_18 (by decide) ?_
    refine st_istore C dX11_noTile_19 (by decide) rfl ?_
    show T x 21 [(0, vR 200), (1, vI 2), (2, vI l), (3, vI x9), (4, vI y9), (5, vI 0)] [] _ _ _
    refine st_iload C dX11_noTile_21 rfl ?_
    refine st_if_eq (tgt := 35) C dX11_noTile_23 (by decide) (fun c_23 => ?_) (fun c_23 => by omega)
    refine st_iconst C dX11_noTile_35 (by decide) ?_
    refine st_istore C dX11_noTile_36 (by decide) rfl ?_
    show T x 38 [(0, vR 200), (1, vI 2), (2, vI l), (3, vI x9), (4, vI y9), (5, vI 0), (6, vI 0)] [] _ _ _
    refine st_aload_n C 0 dX11_noTile_38 rfl rfl ?_
    refine st_iload C dX11_noTile_39 rfl ?_
    refine st_if_eq (tgt := 69) C dX11_noTile_41 (by decide) (fun c_41 => ?_) (fun c_41 => by omega)
    refine st_iconst C dX11_noTile_69 (by decide) ?_
    refine st_iconst C dX11_noTile_70 (by decide) ?_
    refine st_callV (st := []) C dX11_noTile_71 [vI 0, vI 1] (k_no_f (p9 := 1) hm) hm w_X11_112 rfl (by decide) (by decide) (by omega) (by omega) (Nat.le_of_ble_eq_true rfl) (ko_rt ?_)
    show T x 74 [(0, vR 200), (1, vI 2), (2, vI l), (3, vI x9), (4, vI y9), (5, vI 0), (6, vI 0)] [vI 1] (hput h 200 (oO 10 [vR 201, vR 202, vR 203, vR 204, vR 205, vR 206, vR 207, vR 208, vR 209, vR 210, vR 211, vR 212, vR 213, vR 214, vR 215, vR 216, vR 217, vR 218, vI mv, vI mrc, vI mmc, vI mmk, vI mdv, vI mwl, vI mwa, vI mwp, vI 1])) _ _
    exact st_zreturn C F dX11_noTile_74 rfl (by omega) (by first | exact ⟨rfl, rfl⟩ | (exfalso; omega)) (by omega) (by omega)
set_option maxRecDepth 20000 in
set_option maxHeartbeats 4000000 in
theorem k_noTile4_t {g : Gx} {h : HP} {mv mrc mmc mmk mdv mwl mwa mwp mth : Int} {l x9 y9 : Int} (hm : mO h mv mrc mmc mmk mdv mwl mwa mwp mth) (hP : TileOk 4 l x9 y9) : Ct g yX11_noTile (.code yX11_noTile cX11_noTile 7 (some .boolean)) 3 0 0 [vR 200, vI 4, vI l, vI x9, vI y9] h (Rt (some (vI 0)) (hput h 200 (oO 10 [vR 201, vR 202, vR 203, vR 204, vR 205, vR 206, vR 207, vR 208, vR 209, vR 210, vR 211, vR 212, vR 213, vR 214, vR 215, vR 216, vR 217, vR 218, vI mv, vI mrc, vI mmc, vI mmk, vI mdv, vI mwl, vI mwa, vI mwp, vI 0]))) := by
  refine Ct.of (by decide) (Nat.le_of_ble_eq_true rfl) (fun x hg C F => ?_)
  subst hg
  have hP2 := hP
  unfold TileOk at hP2
  show T x 0 [(0, vR 200), (1, vI 4), (2, vI l), (3, vI x9), (4, vI y9)] [] h 0 0
  refine st_iload_n C 1 dX11_noTile_0 rfl rfl ?_
  refine st_callS (st := []) C dX11_noTile_1 [vI 4] k_depth4 w_X11_174 rfl (by decide) (by decide) (by omega) (by omega) (Nat.le_of_ble_eq_true rfl) (ko_rt ?_)
  show T x 4 [(0, vR 200), (1, vI 4), (2, vI l), (3, vI x9), (4, vI y9)] [vI 2] _ _ _
  refine st_if_lt (tgt := 18) C dX11_noTile_4 (by decide) (fun c_4 => by omega) (fun c_4 => ?_)
  refine st_iload_n C 2 dX11_noTile_7 rfl rfl ?_
  by_cases b_8 : 0 ≤ l ∧ l ≤ 2
  · refine st_callS (st := []) C dX11_noTile_8 [vI l] (k_mLayer_t (v9 := l)  b_8) w_X11_108 rfl (by decide) (by decide) (by omega) (by omega) (Nat.le_of_ble_eq_true rfl) (ko_rt ?_)
    show T x 11 [(0, vR 200), (1, vI 4), (2, vI l), (3, vI x9), (4, vI y9)] [vI 1] _ _ _
    refine st_if_eq (tgt := 18) C dX11_noTile_11 (by decide) (fun c_11 => by omega) (fun c_11 => ?_)
    refine st_iconst C dX11_noTile_14 (by decide) ?_
    refine st_goto (tgt := 19) C dX11_noTile_15 (by decide) ?_
    refine st_istore C dX11_noTile_19 (by decide) rfl ?_
    show T x 21 [(0, vR 200), (1, vI 4), (2, vI l), (3, vI x9), (4, vI y9), (5, vI 1)] [] _ _ _
    refine st_iload C dX11_noTile_21 rfl ?_
    refine st_if_eq (tgt := 35) C dX11_noTile_23 (by decide) (fun c_23 => by omega) (fun c_23 => ?_)
    refine st_bipush C dX11_noTile_26 (by decide) (by decide) ?_
    refine st_iload_n C 1 dX11_noTile_28 rfl rfl ?_
    refine st_idiv C dX11_noTile_29 (by omega) (by omega) ?_
    refine st_iconst C dX11_noTile_30 (by decide) ?_
    refine st_isub C dX11_noTile_31 ⟨(by omega), (by omega)⟩ ?_
    refine st_goto (tgt := 36) C dX11_noTile_32 (by decide) ?_
    refine st_istore C dX11_noTile_36 (by decide) rfl ?_
    show T x 38 [(0, vR 200), (1, vI 4), (2, vI l), (3, vI x9), (4, vI y9), (5, vI 1), (6, vI (8 / 4 - 1))] [] _ _ _
    refine st_aload_n C 0 dX11_noTile_38 rfl rfl ?_
    refine st_iload C dX11_noTile_39 rfl ?_
    refine st_if_eq (tgt := 69) C dX11_noTile_41 (by decide) (fun c_41 => by omega) (fun c_41 => ?_)
    refine st_iload_n C 3 dX11_noTile_44 rfl rfl ?_
    refine st_iconst C dX11_noTile_45 (by decide) ?_
    refine st_iload C dX11_noTile_46 rfl ?_
    by_cases b_48 : 0 ≤ x9 ∧ x9 ≤ (8 / 4 - 1)
    · refine st_callS (st := [vR 200]) C dX11_noTile_48 [vI x9, vI 0, vI (8 / 4 - 1)] (k_isIn_t (v9 := x9) (l9 := 0) (u9 := (8 / 4 - 1))  b_48) w_X11_75 rfl (by decide) (by decide) (by omega) (by omega) (Nat.le_of_ble_eq_true rfl) (ko_rt ?_)
      show T x 51 [(0, vR 200), (1, vI 4), (2, vI l), (3, vI x9), (4, vI y9), (5, vI 1), (6, vI (8 / 4 - 1))] [vI 1, vR 200] _ _ _
      refine st_if_eq (tgt := 69) C dX11_noTile_51 (by decide) (fun c_51 => by omega) (fun c_51 => ?_)
      refine st_iload C dX11_noTile_54 rfl ?_
      refine st_iconst C dX11_noTile_56 (by decide) ?_
      refine st_iload C dX11_noTile_57 rfl ?_
      by_cases b_59 : 0 ≤ y9 ∧ y9 ≤ (8 / 4 - 1)
      · refine st_callS (st := [vR 200]) C dX11_noTile_59 [vI y9, vI 0, vI (8 / 4 - 1)] (k_isIn_t (v9 := y9) (l9 := 0) (u9 := (8 / 4 - 1))  b_59) w_X11_75 rfl (by decide) (by decide) (by omega) (by omega) (Nat.le_of_ble_eq_true rfl) (ko_rt ?_)
        show T x 62 [(0, vR 200), (1, vI 4), (2, vI l), (3, vI x9), (4, vI y9), (5, vI 1), (6, vI (8 / 4 - 1))] [vI 1, vR 200] _ _ _
        refine st_if_eq (tgt := 69) C dX11_noTile_62 (by decide) (fun c_62 => by omega) (fun c_62 => ?_)
        refine st_iconst C dX11_noTile_65 (by decide) ?_
        refine st_goto (tgt := 70) C dX11_noTile_66 (by decide) ?_
        refine st_iconst C dX11_noTile_70 (by decide) ?_
        refine st_callV (st := []) C dX11_noTile_71 [vI 1, vI 1] (k_no_t (p9 := 1) hm) hm w_X11_112 rfl (by decide) (by decide) (by omega) (by omega) (Nat.le_of_ble_eq_true rfl) (ko_rt ?_)
        show T x 74 [(0, vR 200), (1, vI 4), (2, vI l), (3, vI x9), (4, vI y9), (5, vI 1), (6, vI (8 / 4 - 1))] [vI 0] (hput h 200 (oO 10 [vR 201, vR 202, vR 203, vR 204, vR 205, vR 206, vR 207, vR 208, vR 209, vR 210, vR 211, vR 212, vR 213, vR 214, vR 215, vR 216, vR 217, vR 218, vI mv, vI mrc, vI mmc, vI mmk, vI mdv, vI mwl, vI mwa, vI mwp, vI 0])) _ _
        exact st_zreturn C F dX11_noTile_74 rfl (by omega) (by first | exact ⟨rfl, rfl⟩ | (exfalso; omega)) (by omega) (by omega)
      · refine st_callS (st := [vR 200]) C dX11_noTile_59 [vI y9, vI 0, vI (8 / 4 - 1)] (k_isIn_f (v9 := y9) (l9 := 0) (u9 := (8 / 4 - 1))  b_59) w_X11_75 rfl (by decide) (by decide) (by omega) (by omega) (Nat.le_of_ble_eq_true rfl) (ko_rt ?_)
        show T x 62 [(0, vR 200), (1, vI 4), (2, vI l), (3, vI x9), (4, vI y9), (5, vI 1), (6, vI (8 / 4 - 1))] [vI 0, vR 200] _ _ _
        refine st_if_eq (tgt := 69) C dX11_noTile_62 (by decide) (fun c_62 => ?_) (fun c_62 => by omega)
        refine st_iconst C dX11_noTile_69 (by decide) ?_
        refine st_iconst C dX11_noTile_70 (by decide) ?_
        refine st_callV (st := []) C dX11_noTile_71 [vI 0, vI 1] (k_no_f (p9 := 1) hm) hm w_X11_112 rfl (by decide) (by decide) (by omega) (by omega) (Nat.le_of_ble_eq_true rfl) (ko_rt ?_)
        show T x 74 [(0, vR 200), (1, vI 4), (2, vI l), (3, vI x9), (4, vI y9), (5, vI 1), (6, vI (8 / 4 - 1))] [vI 1] (hput h 200 (oO 10 [vR 201, vR 202, vR 203, vR 204, vR 205, vR 206, vR 207, vR 208, vR 209, vR 210, vR 211, vR 212, vR 213, vR 214, vR 215, vR 216, vR 217, vR 218, vI mv, vI mrc, vI mmc, vI mmk, vI mdv, vI mwl, vI mwa, vI mwp, vI 1])) _ _
        exact st_zreturn C F dX11_noTile_74 rfl (by omega) (by first | exact ⟨rfl, rfl⟩ | (exfalso; omega)) (by omega) (by omega)
    · refine st_callS (st := [vR 200]) C dX11_noTile_48 [vI x9, vI 0, vI (8 / 4 - 1)] (k_isIn_f (v9 := x9) (l9 := 0) (u9 := (8 / 4 - 1))  b_48) w_X11_75 rfl (by decide) (by decide) (by omega) (by omega) (Nat.le_of_ble_eq_true rfl) (ko_rt ?_)
      show T x 51 [(0, vR 200), (1, vI 4), (2, vI l), (3, vI x9), (4, vI y9), (5, vI 1), (6, vI (8 / 4 - 1))] [vI 0, vR 200] _ _ _
      refine st_if_eq (tgt := 69) C dX11_noTile_51 (by decide) (fun c_51 => ?_) (fun c_51 => by omega)
      refine st_iconst C dX11_noTile_69 (by decide) ?_
      refine st_iconst C dX11_noTile_70 (by decide) ?_
      refine st_callV (st := []) C dX11_noTile_71 [vI 0, vI 1] (k_no_f (p9 := 1) hm) hm w_X11_112 rfl (by decide) (by decide) (by omega) (by omega) (Nat.le_of_ble_eq_true rfl) (ko_rt ?_)
      show T x 74 [(0, vR 200), (1, vI 4), (2, vI l), (3, vI x9), (4, vI y9), (5, vI 1), (6, vI (8 / 4 - 1))] [vI 1] (hput h 200 (oO 10 [vR 201, vR 202, vR 203, vR 204, vR 205, vR 206, vR 207, vR 208, vR 209, vR 210, vR 211, vR 212, vR 213, vR 214, vR 215, vR 216, vR 217, vR 218, vI mv, vI mrc, vI mmc, vI mmk, vI mdv, vI mwl, vI mwa, vI mwp, vI 1])) _ _
      exact st_zreturn C F dX11_noTile_74 rfl (by omega) (by first | exact ⟨rfl, rfl⟩ | (exfalso; omega)) (by omega) (by omega)
  · refine st_callS (st := []) C dX11_noTile_8 [vI l] (k_mLayer_f (v9 := l)  b_8) w_X11_108 rfl (by decide) (by decide) (by omega) (by omega) (Nat.le_of_ble_eq_true rfl) (ko_rt ?_)
    show T x 11 [(0, vR 200), (1, vI 4), (2, vI l), (3, vI x9), (4, vI y9)] [vI 0] _ _ _
    refine st_if_eq (tgt := 18) C dX11_noTile_11 (by decide) (fun c_11 => ?_) (fun c_11 => by omega)
    refine st_iconst C dX11_noTile_18 (by decide) ?_
    refine st_istore C dX11_noTile_19 (by decide) rfl ?_
    show T x 21 [(0, vR 200), (1, vI 4), (2, vI l), (3, vI x9), (4, vI y9), (5, vI 0)] [] _ _ _
    refine st_iload C dX11_noTile_21 rfl ?_
    refine st_if_eq (tgt := 35) C dX11_noTile_23 (by decide) (fun c_23 => ?_) (fun c_23 => by omega)
    refine st_iconst C dX11_noTile_35 (by decide) ?_
    refine st_istore C dX11_noTile_36 (by decide) rfl ?_
    show T x 38 [(0, vR 200), (1, vI 4), (2, vI l), (3, vI x9), (4, vI y9), (5, vI 0), (6, vI 0)] [] _ _ _
    refine st_aload_n C 0 dX11_noTile_38 rfl rfl ?_
    refine st_iload C dX11_noTile_39 rfl ?_
    refine st_if_eq (tgt := 69) C dX11_noTile_41 (by decide) (fun c_41 => ?_) (fun c_41 => by omega)
    refine st_iconst C dX11_noTile_69 (by decide) ?_
    refine st_iconst C dX11_noTile_70 (by decide) ?_
    refine st_callV (st := []) C dX11_noTile_71 [vI 0, vI 1] (k_no_f (p9 := 1) hm) hm w_X11_112 rfl (by decide) (by decide) (by omega) (by omega) (Nat.le_of_ble_eq_true rfl) (ko_rt ?_)
    show T x 74 [(0, vR 200), (1, vI 4), (2, vI l), (3, vI x9), (4, vI y9), (5, vI 0), (6, vI 0)] [vI 1] (hput h 200 (oO 10 [vR 201, vR 202, vR 203, vR 204, vR 205, vR 206, vR 207, vR 208, vR 209, vR 210, vR 211, vR 212, vR 213, vR 214, vR 215, vR 216, vR 217, vR 218, vI mv, vI mrc, vI mmc, vI mmk, vI mdv, vI mwl, vI mwa, vI mwp, vI 1])) _ _
    exact st_zreturn C F dX11_noTile_74 rfl (by omega) (by first | exact ⟨rfl, rfl⟩ | (exfalso; omega)) (by omega) (by omega)
set_option maxRecDepth 20000 in
set_option maxHeartbeats 4000000 in
theorem k_noTile4_f {g : Gx} {h : HP} {mv mrc mmc mmk mdv mwl mwa mwp mth : Int} {l x9 y9 : Int} (hm : mO h mv mrc mmc mmk mdv mwl mwa mwp mth) (hP : ¬ TileOk 4 l x9 y9) : Ct g yX11_noTile (.code yX11_noTile cX11_noTile 7 (some .boolean)) 3 0 0 [vR 200, vI 4, vI l, vI x9, vI y9] h (Rt (some (vI 1)) (hput h 200 (oO 10 [vR 201, vR 202, vR 203, vR 204, vR 205, vR 206, vR 207, vR 208, vR 209, vR 210, vR 211, vR 212, vR 213, vR 214, vR 215, vR 216, vR 217, vR 218, vI mv, vI mrc, vI mmc, vI mmk, vI mdv, vI mwl, vI mwa, vI mwp, vI 1]))) := by
  refine Ct.of (by decide) (Nat.le_of_ble_eq_true rfl) (fun x hg C F => ?_)
  subst hg
  have hP2 := hP
  unfold TileOk at hP2
  show T x 0 [(0, vR 200), (1, vI 4), (2, vI l), (3, vI x9), (4, vI y9)] [] h 0 0
  refine st_iload_n C 1 dX11_noTile_0 rfl rfl ?_
  refine st_callS (st := []) C dX11_noTile_1 [vI 4] k_depth4 w_X11_174 rfl (by decide) (by decide) (by omega) (by omega) (Nat.le_of_ble_eq_true rfl) (ko_rt ?_)
  show T x 4 [(0, vR 200), (1, vI 4), (2, vI l), (3, vI x9), (4, vI y9)] [vI 2] _ _ _
  refine st_if_lt (tgt := 18) C dX11_noTile_4 (by decide) (fun c_4 => by omega) (fun c_4 => ?_)
  refine st_iload_n C 2 dX11_noTile_7 rfl rfl ?_
  by_cases b_8 : 0 ≤ l ∧ l ≤ 2
  · refine st_callS (st := []) C dX11_noTile_8 [vI l] (k_mLayer_t (v9 := l)  b_8) w_X11_108 rfl (by decide) (by decide) (by omega) (by omega) (Nat.le_of_ble_eq_true rfl) (ko_rt ?_)
    show T x 11 [(0, vR 200), (1, vI 4), (2, vI l), (3, vI x9), (4, vI y9)] [vI 1] _ _ _
    refine st_if_eq (tgt := 18) C dX11_noTile_11 (by decide) (fun c_11 => by omega) (fun c_11 => ?_)
    refine st_iconst C dX11_noTile_14 (by decide) ?_
    refine st_goto (tgt := 19) C dX11_noTile_15 (by decide) ?_
    refine st_istore C dX11_noTile_19 (by decide) rfl ?_
    show T x 21 [(0, vR 200), (1, vI 4), (2, vI l), (3, vI x9), (4, vI y9), (5, vI 1)] [] _ _ _
    refine st_iload C dX11_noTile_21 rfl ?_
    refine st_if_eq (tgt := 35) C dX11_noTile_23 (by decide) (fun c_23 => by omega) (fun c_23 => ?_)
    refine st_bipush C dX11_noTile_26 (by decide) (by decide) ?_
    refine st_iload_n C 1 dX11_noTile_28 rfl rfl ?_
    refine st_idiv C dX11_noTile_29 (by omega) (by omega) ?_
    refine st_iconst C dX11_noTile_30 (by decide) ?_
    refine st_isub C dX11_noTile_31 ⟨(by omega), (by omega)⟩ ?_
    refine st_goto (tgt := 36) C dX11_noTile_32 (by decide) ?_
    refine st_istore C dX11_noTile_36 (by decide) rfl ?_
    show T x 38 [(0, vR 200), (1, vI 4), (2, vI l), (3, vI x9), (4, vI y9), (5, vI 1), (6, vI (8 / 4 - 1))] [] _ _ _
    refine st_aload_n C 0 dX11_noTile_38 rfl rfl ?_
    refine st_iload C dX11_noTile_39 rfl ?_
    refine st_if_eq (tgt := 69) C dX11_noTile_41 (by decide) (fun c_41 => by omega) (fun c_41 => ?_)
    refine st_iload_n C 3 dX11_noTile_44 rfl rfl ?_
    refine st_iconst C dX11_noTile_45 (by decide) ?_
    refine st_iload C dX11_noTile_46 rfl ?_
    by_cases b_48 : 0 ≤ x9 ∧ x9 ≤ (8 / 4 - 1)
    · refine st_callS (st := [vR 200]) C dX11_noTile_48 [vI x9, vI 0, vI (8 / 4 - 1)] (k_isIn_t (v9 := x9) (l9 := 0) (u9 := (8 / 4 - 1))  b_48) w_X11_75 rfl (by decide) (by decide) (by omega) (by omega) (Nat.le_of_ble_eq_true rfl) (ko_rt ?_)
      show T x 51 [(0, vR 200), (1, vI 4), (2, vI l), (3, vI x9), (4, vI y9), (5, vI 1), (6, vI (8 / 4 - 1))] [vI 1, vR 200] _ _ _
      refine st_if_eq (tgt := 69) C dX11_noTile_51 (by decide) (fun c_51 => by omega) (fun c_51 => ?_)
      refine st_iload C dX11_noTile_54 rfl ?_
      refine st_iconst C dX11_noTile_56 (by decide) ?_
      refine st_iload C dX11_noTile_57 rfl ?_
      by_cases b_59 : 0 ≤ y9 ∧ y9 ≤ (8 / 4 - 1)
      · refine st_callS (st := [vR 200]) C dX11_noTile_59 [vI y9, vI 0, vI (8 / 4 - 1)] (k_isIn_t (v9 := y9) (l9 := 0) (u9 := (8 / 4 - 1))  b_59) w_X11_75 rfl (by decide) (by decide) (by omega) (by omega) (Nat.le_of_ble_eq_true rfl) (ko_rt ?_)
        show T x 62 [(0, vR 200), (1, vI 4), (2, vI l), (3, vI x9), (4, vI y9), (5, vI 1), (6, vI (8 / 4 - 1))] [vI 1, vR 200] _ _ _
        refine st_if_eq (tgt := 69) C dX11_noTile_62 (by decide) (fun c_62 => by omega) (fun c_62 => ?_)
        refine st_iconst C dX11_noTile_65 (by decide) ?_
        refine st_goto (tgt := 70) C dX11_noTile_66 (by decide) ?_
        refine st_iconst C dX11_noTile_70 (by decide) ?_
        refine st_callV (st := []) C dX11_noTile_71 [vI 1, vI 1] (k_no_t (p9 := 1) hm) hm w_X11_112 rfl (by decide) (by decide) (by omega) (by omega) (Nat.le_of_ble_eq_true rfl) (ko_rt ?_)
        show T x 74 [(0, vR 200), (1, vI 4), (2, vI l), (3, vI x9), (4, vI y9), (5, vI 1), (6, vI (8 / 4 - 1))] [vI 0] (hput h 200 (oO 10 [vR 201, vR 202, vR 203, vR 204, vR 205, vR 206, vR 207, vR 208, vR 209, vR 210, vR 211, vR 212, vR 213, vR 214, vR 215, vR 216, vR 217, vR 218, vI mv, vI mrc, vI mmc, vI mmk, vI mdv, vI mwl, vI mwa, vI mwp, vI 0])) _ _
        exact st_zreturn C F dX11_noTile_74 rfl (by omega) (by first | exact ⟨rfl, rfl⟩ | (exfalso; omega)) (by omega) (by omega)
      · refine st_callS (st := [vR 200]) C dX11_noTile_59 [vI y9, vI 0, vI (8 / 4 - 1)] (k_isIn_f (v9 := y9) (l9 := 0) (u9 := (8 / 4 - 1))  b_59) w_X11_75 rfl (by decide) (by decide) (by omega) (by omega) (Nat.le_of_ble_eq_true rfl) (ko_rt ?_)
        show T x 62 [(0, vR 200), (1, vI 4), (2, vI l), (3, vI x9), (4, vI y9), (5, vI 1), (6, vI (8 / 4 - 1))] [vI 0, vR 200] _ _ _
        refine st_if_eq (tgt := 69) C dX11_noTile_62 (by decide) (fun c_62 => ?_) (fun c_62 => by omega)
        refine st_iconst C dX11_noTile_69 (by decide) ?_
        refine st_iconst C dX11_noTile_70 (by decide) ?_
        refine st_callV (st := []) C dX11_noTile_71 [vI 0, vI 1] (k_no_f (p9 := 1) hm) hm w_X11_112 rfl (by decide) (by decide) (by omega) (by omega) (Nat.le_of_ble_eq_true rfl) (ko_rt ?_)
        show T x 74 [(0, vR 200), (1, vI 4), (2, vI l), (3, vI x9), (4, vI y9), (5, vI 1), (6, vI (8 / 4 - 1))] [vI 1] (hput h 200 (oO 10 [vR 201, vR 202, vR 203, vR 204, vR 205, vR 206, vR 207, vR 208, vR 209, vR 210, vR 211, vR 212, vR 213, vR 214, vR 215, vR 216, vR 217, vR 218, vI mv, vI mrc, vI mmc, vI mmk, vI mdv, vI mwl, vI mwa, vI mwp, vI 1])) _ _
        exact st_zreturn C F dX11_noTile_74 rfl (by omega) (by first | exact ⟨rfl, rfl⟩ | (exfalso; omega)) (by omega) (by omega)
    · refine st_callS (st := [vR 200]) C dX11_noTile_48 [vI x9, vI 0, vI (8 / 4 - 1)] (k_isIn_f (v9 := x9) (l9 := 0) (u9 := (8 / 4 - 1))  b_48) w_X11_75 rfl (by decide) (by decide) (by omega) (by omega) (Nat.le_of_ble_eq_true rfl) (ko_rt ?_)
      show T x 51 [(0, vR 200), (1, vI 4), (2, vI l), (3, vI x9), (4, vI y9), (5, vI 1), (6, vI (8 / 4 - 1))] [vI 0, vR 200] _ _ _
      refine st_if_eq (tgt := 69) C dX11_noTile_51 (by decide) (fun c_51 => ?_) (fun c_51 => by omega)
      refine st_iconst C dX11_noTile_69 (by decide) ?_
      refine st_iconst C dX11_noTile_70 (by decide) ?_
      refine st_callV (st := []) C dX11_noTile_71 [vI 0, vI 1] (k_no_f (p9 := 1) hm) hm w_X11_112 rfl (by decide) (by decide) (by omega) (by omega) (Nat.le_of_ble_eq_true rfl) (ko_rt ?_)
      show T x 74 [(0, vR 200), (1, vI 4), (2, vI l), (3, vI x9), (4, vI y9), (5, vI 1), (6, vI (8 / 4 - 1))] [vI 1] (hput h 200 (oO 10 [vR 201, vR 202, vR 203, vR 204, vR 205, vR 206, vR 207, vR 208, vR 209, vR 210, vR 211, vR 212, vR 213, vR 214, vR 215, vR 216, vR 217, vR 218, vI mv, vI mrc, vI mmc, vI mmk, vI mdv, vI mwl, vI mwa, vI mwp, vI 1])) _ _
      exact st_zreturn C F dX11_noTile_74 rfl (by omega) (by first | exact ⟨rfl, rfl⟩ | (exfalso; omega)) (by omega) (by omega)
  · refine st_callS (st := []) C dX11_noTile_8 [vI l] (k_mLayer_f (v9 := l)  b_8) w_X11_108 rfl (by decide) (by decide) (by omega) (by omega) (Nat.le_of_ble_eq_true rfl) (ko_rt ?_)
    show T x 11 [(0, vR 200), (1, vI 4), (2, vI l), (3, vI x9), (4, vI y9)] [vI 0] _ _ _
    refine st_if_eq (tgt := 18) C dX11_noTile_11 (by decide) (fun c_11 => ?_) (fun c_11 => by omega)
    refine st_iconst C dX11_noTile_18 (by decide) ?_
    refine st_istore C dX11_noTile_19 (by decide) rfl ?_
    show T x 21 [(0, vR 200), (1, vI 4), (2, vI l), (3, vI x9), (4, vI y9), (5, vI 0)] [] _ _ _
    refine st_iload C dX11_noTile_21 rfl ?_
    refine st_if_eq (tgt := 35) C dX11_noTile_23 (by decide) (fun c_23 => ?_) (fun c_23 => by omega)
    refine st_iconst C dX11_noTile_35 (by decide) ?_
    refine st_istore C dX11_noTile_36 (by decide) rfl ?_
    show T x 38 [(0, vR 200), (1, vI 4), (2, vI l), (3, vI x9), (4, vI y9), (5, vI 0), (6, vI 0)] [] _ _ _
    refine st_aload_n C 0 dX11_noTile_38 rfl rfl ?_
    refine st_iload C dX11_noTile_39 rfl ?_
    refine st_if_eq (tgt := 69) C dX11_noTile_41 (by decide) (fun c_41 => ?_) (fun c_41 => by omega)
    refine st_iconst C dX11_noTile_69 (by decide) ?_
    refine st_iconst C dX11_noTile_70 (by decide) ?_
    refine st_callV (st := []) C dX11_noTile_71 [vI 0, vI 1] (k_no_f (p9 := 1) hm) hm w_X11_112 rfl (by decide) (by decide) (by omega) (by omega) (Nat.le_of_ble_eq_true rfl) (ko_rt ?_)
    show T x 74 [(0, vR 200), (1, vI 4), (2, vI l), (3, vI x9), (4, vI y9), (5, vI 0), (6, vI 0)] [vI 1] (hput h 200 (oO 10 [vR 201, vR 202, vR 203, vR 204, vR 205, vR 206, vR 207, vR 208, vR 209, vR 210, vR 211, vR 212, vR 213, vR 214, vR 215, vR 216, vR 217, vR 218, vI mv, vI mrc, vI mmc, vI mmk, vI mdv, vI mwl, vI mwa, vI mwp, vI 1])) _ _
    exact st_zreturn C F dX11_noTile_74 rfl (by omega) (by first | exact ⟨rfl, rfl⟩ | (exfalso; omega)) (by omega) (by omega)
set_option maxRecDepth 20000 in
set_option maxHeartbeats 4000000 in
theorem k_noTile8_t {g : Gx} {h : HP} {mv mrc mmc mmk mdv mwl mwa mwp mth : Int} {l x9 y9 : Int} (hm : mO h mv mrc mmc mmk mdv mwl mwa mwp mth) (hP : TileOk 8 l x9 y9) : Ct g yX11_noTile (.code yX11_noTile cX11_noTile 7 (some .boolean)) 3 0 0 [vR 200, vI 8, vI l, vI x9, vI y9] h (Rt (some (vI 0)) (hput h 200 (oO 10 [vR 201, vR 202, vR 203, vR 204, vR 205, vR 206, vR 207, vR 208, vR 209, vR 210, vR 211, vR 212, vR 213, vR 214, vR 215, vR 216, vR 217, vR 218, vI mv, vI mrc, vI mmc, vI mmk, vI mdv, vI mwl, vI mwa, vI mwp, vI 0]))) := by
  refine Ct.of (by decide) (Nat.le_of_ble_eq_true rfl) (fun x hg C F => ?_)
  subst hg
  have hP2 := hP
  unfold TileOk at hP2
  show T x 0 [(0, vR 200), (1, vI 8), (2, vI l), (3, vI x9), (4, vI y9)] [] h 0 0
  refine st_iload_n C 1 dX11_noTile_0 rfl rfl ?_
  refine st_callS (st := []) C dX11_noTile_1 [vI 8] k_depth8 w_X11_174 rfl (by decide) (by decide) (by omega) (by omega) (Nat.le_of_ble_eq_true rfl) (ko_rt ?_)
  show T x 4 [(0, vR 200), (1, vI 8), (2, vI l), (3, vI x9), (4, vI y9)] [vI 3] _ _ _
  refine st_if_lt (tgt := 18) C dX11_noTile_4 (by decide) (fun c_4 => by omega) (fun c_4 => ?_)
  refine st_iload_n C 2 dX11_noTile_7 rfl rfl ?_
  by_cases b_8 : 0 ≤ l ∧ l ≤ 2
  · refine st_callS (st := []) C dX11_noTile_8 [vI l] (k_mLayer_t (v9 := l)  b_8) w_X11_108 rfl (by decide) (by decide) (by omega) (by omega) (Nat.le_of_ble_eq_true rfl) (ko_rt ?_)
    show T x 11 [(0, vR 200), (1, vI 8), (2, vI l), (3, vI x9), (4, vI y9)] [vI 1] _ _ _
    refine st_if_eq (tgt := 18) C dX11_noTile_11 (by decide) (fun c_11 => by omega) (fun c_11 => ?_)
    refine st_iconst C dX11_noTile_14 (by decide) ?_
    refine st_goto (tgt := 19) C dX11_noTile_15 (by decide) ?_
    refine st_istore C dX11_noTile_19 (by decide) rfl ?_
    show T x 21 [(0, vR 200), (1, vI 8), (2, vI l), (3, vI x9), (4, vI y9), (5, vI 1)] [] _ _ _
    refine st_iload C dX11_noTile_21 rfl ?_
    refine st_if_eq (tgt := 35) C dX11_noTile_23 (by decide) (fun c_23 => by omega) (fun c_23 => ?_)
    refine st_bipush C dX11_noTile_26 (by decide) (by decide) ?_
    refine st_iload_n C 1 dX11_noTile_28 rfl rfl ?_
    refine st_idiv C dX11_noTile_29 (by omega) (by omega) ?_
    refine st_iconst C dX11_noTile_30 (by decide) ?_
    refine st_isub C dX11_noTile_31 ⟨(by omega), (by omega)⟩ ?_
    refine st_goto (tgt := 36) C dX11_noTile_32 (by decide) ?_
    refine st_istore C dX11_noTile_36 (by decide) rfl ?_
    show T x 38 [(0, vR 200), (1, vI 8), (2, vI l), (3, vI x9), (4, vI y9), (5, vI 1), (6, vI (8 / 8 - 1))] [] _ _ _
    refine st_aload_n C 0 dX11_noTile_38 rfl rfl ?_
    refine st_iload C dX11_noTile_39 rfl ?_
    refine st_if_eq (tgt := 69) C dX11_noTile_41 (by decide) (fun c_41 => by omega) (fun c_41 => ?_)
    refine st_iload_n C 3 dX11_noTile_44 rfl rfl ?_
    refine st_iconst C dX11_noTile_45 (by decide) ?_
    refine st_iload C dX11_noTile_46 rfl ?_
    by_cases b_48 : 0 ≤ x9 ∧ x9 ≤ (8 / 8 - 1)
    · refine st_callS (st := [vR 200]) C dX11_noTile_48 [vI x9, vI 0, vI (8 / 8 - 1)] (k_isIn_t (v9 := x9) (l9 := 0) (u9 := (8 / 8 - 1))  b_48) w_X11_75 rfl (by decide) (by decide) (by omega) (by omega) (Nat.le_of_ble_eq_true rfl) (ko_rt ?_)
      show T x 51 [(0, vR 200), (1, vI 8), (2, vI l), (3, vI x9), (4, vI y9), (5, vI 1), (6, vI (8 / 8 - 1))] [vI 1, vR 200] _ _ _
      refine st_if_eq (tgt := 69) C dX11_noTile_51 (by decide) (fun c_51 => by omega) (fun c_51 => ?_)
      refine st_iload C dX11_noTile_54 rfl ?_
      refine st_iconst C dX11_noTile_56 (by decide) ?_
      refine st_iload C dX11_noTile_57 rfl ?_
      by_cases b_59 : 0 ≤ y9 ∧ y9 ≤ (8 / 8 - 1)
      · refine st_callS (st := [vR 200]) C dX11_noTile_59 [vI y9, vI 0, vI (8 / 8 - 1)] (k_isIn_t (v9 := y9) (l9 := 0) (u9 := (8 / 8 - 1))  b_59) w_X11_75 rfl (by decide) (by decide) (by omega) (by omega) (Nat.le_of_ble_eq_true rfl) (ko_rt ?_)
        show T x 62 [(0, vR 200), (1, vI 8), (2, vI l), (3, vI x9), (4, vI y9), (5, vI 1), (6, vI (8 / 8 - 1))] [vI 1, vR 200] _ _ _
        refine st_if_eq (tgt := 69) C dX11_noTile_62 (by decide) (fun c_62 => by omega) (fun c_62 => ?_)
        refine st_iconst C dX11_noTile_65 (by decide) ?_
        refine st_goto (tgt := 70) C dX11_noTile_66 (by decide) ?_
        refine st_iconst C dX11_noTile_70 (by decide) ?_
        refine st_callV (st := []) C dX11_noTile_71 [vI 1, vI 1] (k_no_t (p9 := 1) hm) hm w_X11_112 rfl (by decide) (by decide) (by omega) (by omega) (Nat.le_of_ble_eq_true rfl) (ko_rt ?_)
        show T x 74 [(0, vR 200), (1, vI 8), (2, vI l), (3, vI x9), (4, vI y9), (5, vI 1), (6, vI (8 / 8 - 1))] [vI 0] (hput h 200 (oO 10 [vR 201, vR 202, vR 203, vR 204, vR 205, vR 206, vR 207, vR 208, vR 209, vR 210, vR 211, vR 212, vR 213, vR 214, vR 215, vR 216, vR 217, vR 218, vI mv, vI mrc, vI mmc, vI mmk, vI mdv, vI mwl, vI mwa, vI mwp, vI 0])) _ _
        exact st_zreturn C F dX11_noTile_74 rfl (by omega) (by first | exact ⟨rfl, rfl⟩ | (exfalso; omega)) (by omega) (by omega)
      · refine st_callS (st := [vR 200]) C dX11_noTile_59 [vI y9, vI 0, vI (8 / 8 - 1)] (k_isIn_f (v9 := y9) (l9 := 0) (u9 := (8 / 8 - 1))  b_59) w_X11_75 rfl (by decide) (by decide) (by omega) (by omega) (Nat.le_of_ble_eq_true rfl) (ko_rt ?_)
        show T x 62 [(0, vR 200), (1, vI 8), (2, vI l), (3, vI x9), (4, vI y9), (5, vI 1), (6, vI (8 / 8 - 1))] [vI 0, vR 200] _ _ _
        refine st_if_eq (tgt := 69) C dX11_noTile_62 (by decide) (fun c_62 => ?_) (fun c_62 => by omega)
        refine st_iconst C dX11_noTile_69 (by decide) ?_
        refine st_iconst C dX11_noTile_70 (by decide) ?_
        refine st_callV (st := []) C dX11_noTile_71 [vI 0, vI 1] (k_no_f (p9 := 1) hm) hm w_X11_112 rfl (by decide) (by decide) (by omega) (by omega) (Nat.le_of_ble_eq_true rfl) (ko_rt ?_)
        show T x 74 [(0, vR 200), (1, vI 8), (2, vI l), (3, vI x9), (4, vI y9), (5, vI 1), (6, vI (8 / 8 - 1))] [vI 1] (hput h 200 (oO 10 [vR 201, vR 202, vR 203, vR 204, vR 205, vR 206, vR 207, vR 208, vR 209, vR 210, vR 211, vR 212, vR 213, vR 214, vR 215, vR 216, vR 217, vR 218, vI mv, vI mrc, vI mmc, vI mmk, vI mdv, vI mwl, vI mwa, vI mwp, vI 1])) _ _
        exact st_zreturn C F dX11_noTile_74 rfl (by omega) (by first | exact ⟨rfl, rfl⟩ | (exfalso; omega)) (by omega) (by omega)
    · refine st_callS (st := [vR 200]) C dX11_noTile_48 [vI x9, vI 0, vI (8 / 8 - 1)] (k_isIn_f (v9 := x9) (l9 := 0) (u9 := (8 / 8 - 1))  b_48) w_X11_75 rfl (by decide) (by decide) (by omega) (by omega) (Nat.le_of_ble_eq_true rfl) (ko_rt ?_)
      show T x 51 [(0, vR 200), (1, vI 8), (2, vI l), (3, vI x9), (4, vI y9), (5, vI 1), (6, vI (8 / 8 - 1))] [vI 0, vR 200] _ _ _
      refine st_if_eq (tgt := 69) C dX11_noTile_51 (by decide) (fun c_51 => ?_) (fun c_51 => by omega)
      refine st_iconst C dX11_noTile_69 (by decide) ?_
      refine st_iconst C dX11_noTile_70 (by decide) ?_
      refine st_callV (st := []) C dX11_noTile_71 [vI 0, vI 1] (k_no_f (p9 := 1) hm) hm w_X11_112 rfl (by decide) (by decide) (by omega) (by omega) (Nat.le_of_ble_eq_true rfl) (ko_rt ?_)
      show T x 74 [(0, vR 200), (1, vI 8), (2, vI l), (3, vI x9), (4, vI y9), (5, vI 1), (6, vI (8 / 8 - 1))] [vI 1] (hput h 200 (oO 10 [vR 201, vR 202, vR 203, vR 204, vR 205, vR 206, vR 207, vR 208, vR 209, vR 210, vR 211, vR 212, vR 213, vR 214, vR 215, vR 216, vR 217, vR 218, vI mv, vI mrc, vI mmc, vI mmk, vI mdv, vI mwl, vI mwa, vI mwp, vI 1])) _ _
      exact st_zreturn C F dX11_noTile_74 rfl (by omega) (by first | exact ⟨rfl, rfl⟩ | (exfalso; omega)) (by omega) (by omega)
  · refine st_callS (st := []) C dX11_noTile_8 [vI l] (k_mLayer_f (v9 := l)  b_8) w_X11_108 rfl (by decide) (by decide) (by omega) (by omega) (Nat.le_of_ble_eq_true rfl) (ko_rt ?_)
    show T x 11 [(0, vR 200), (1, vI 8), (2, vI l), (3, vI x9), (4, vI y9)] [vI 0] _ _ _
    refine st_if_eq (tgt := 18) C dX11_noTile_11 (by decide) (fun c_11 => ?_) (fun c_11 => by omega)
    refine st_iconst C dX11_noTile_18 (by decide) ?_
    refine st_istore C dX11_noTile_19 (by decide) rfl ?_
    show T x 21 [(0, vR 200), (1, vI 8), (2, vI l), (3, vI x9), (4, vI y9), (5, vI 0)] [] _ _ _
    refine st_iload C dX11_noTile_21 rfl ?_
    refine st_if_eq (tgt := 35) C dX11_noTile_23 (by decide) (fun c_23 => ?_) (fun c_23 => by omega)
    refine st_iconst C dX11_noTile_35 (by decide) ?_
    refine st_istore C dX11_noTile_36 (by decide) rfl ?_
    show T x 38 [(0, vR 200), (1, vI 8), (2, vI l), (3, vI x9), (4, vI y9), (5, vI 0), (6, vI 0)] [] _ _ _
    refine st_aload_n C 0 dX11_noTile_38 rfl rfl ?_
    refine st_iload C dX11_noTile_39 rfl ?_
    refine st_if_eq (tgt := 69) C dX11_noTile_41 (by decide) (fun c_41 => ?_) (fun c_41 => by omega)
    refine st_iconst C dX11_noTile_69 (by decide) ?_
    refine st_iconst C dX11_noTile_70 (by decide) ?_
    refine st_callV (st := []) C dX11_noTile_71 [vI 0, vI 1] (k_no_f (p9 := 1) hm) hm w_X11_112 rfl (by decide) (by decide) (by omega) (by omega) (Nat.le_of_ble_eq_true rfl) (ko_rt ?_)
    show T x 74 [(0, vR 200), (1, vI 8), (2, vI l), (3, vI x9), (4, vI y9), (5, vI 0), (6, vI 0)] [vI 1] (hput h 200 (oO 10 [vR 201, vR 202, vR 203, vR 204, vR 205, vR 206, vR 207, vR 208, vR 209, vR 210, vR 211, vR 212, vR 213, vR 214, vR 215, vR 216, vR 217, vR 218, vI mv, vI mrc, vI mmc, vI mmk, vI mdv, vI mwl, vI mwa, vI mwp, vI 1])) _ _
    exact st_zreturn C F dX11_noTile_74 rfl (by omega) (by first | exact ⟨rfl, rfl⟩ | (exfalso; omega)) (by omega) (by omega)
set_option maxRecDepth 20000 in
set_option maxHeartbeats 4000000 in
theorem k_noTile8_f {g : Gx} {h : HP} {mv mrc mmc mmk mdv mwl mwa mwp mth : Int} {l x9 y9 : Int} (hm : mO h mv mrc mmc mmk mdv mwl mwa mwp mth) (hP : ¬ TileOk 8 l x9 y9) : Ct g yX11_noTile (.code yX11_noTile cX11_noTile 7 (some .boolean)) 3 0 0 [vR 200, vI 8, vI l, vI x9, vI y9] h (Rt (some (vI 1)) (hput h 200 (oO 10 [vR 201, vR 202, vR 203, vR 204, vR 205, vR 206, vR 207, vR 208, vR 209, vR 210, vR 211, vR 212, vR 213, vR 214, vR 215, vR 216, vR 217, vR 218, vI mv, vI mrc, vI mmc, vI mmk, vI mdv, vI mwl, vI mwa, vI mwp, vI 1]))) := by
  refine Ct.of (by decide) (Nat.le_of_ble_eq_true rfl) (fun x hg C F => ?_)
  subst hg
  have hP2 := hP
  unfold TileOk at hP2
  show T x 0 [(0, vR 200), (1, vI 8), (2, vI l), (3, vI x9), (4, vI y9)] [] h 0 0
  refine st_iload_n C 1 dX11_noTile_0 rfl rfl ?_
  refine st_callS (st := []) C dX11_noTile_1 [vI 8] k_depth8 w_X11_174 rfl (by decide) (by decide) (by omega) (by omega) (Nat.le_of_ble_eq_true rfl) (ko_rt ?_)
  show T x 4 [(0, vR 200), (1, vI 8), (2, vI l), (3, vI x9), (4, vI y9)] [vI 3] _ _ _
  refine st_if_lt (tgt := 18) C dX11_noTile_4 (by decide) (fun c_4 => by omega) (fun c_4 => ?_)
  refine st_iload_n C 2 dX11_noTile_7 rfl rfl ?_
  by_cases b_8 : 0 ≤ l ∧ l ≤ 2
  · refine st_callS (st := []) C dX11_noTile_8 [vI l] (k_mLayer_t (v9 := l)  b_8) w_X11_108 rfl (by decide) (by decide) (by omega) (by omega) (Nat.le_of_ble_eq_true rfl) (ko_rt ?_)
    show T x 11 [(0, vR 200), (1, vI 8), (2, vI l), (3, vI x9), (4, vI y9)] [vI 1] _ _ _
    refine st_if_eq (tgt := 18) C dX11_noTile_11 (by decide) (fun c_11 => by omega) (fun c_11 => ?_)
    refine st_iconst C dX11_noTile_14 (by decide) ?_
    refine st_goto (tgt := 19) C dX11_noTile_15 (by decide) ?_
    refine st_istore C dX11_noTile_19 (by decide) rfl ?_
    show T x 21 [(0, vR 200), (1, vI 8), (2, vI l), (3, vI x9), (4, vI y9), (5, vI 1)] [] _ _ _
    refine st_iload C dX11_noTile_21 rfl ?_
    refine st_if_eq (tgt := 35) C dX11_noTile_23 (by decide) (fun c_23 => by omega) (fun c_23 => ?_)
    refine st_bipush C dX11_noTile_26 (by decide) (by decide) ?_
    refine st_iload_n C 1 dX11_noTile_28 rfl rfl ?_
    refine st_idiv C dX11_noTile_29 (by omega) (by omega) ?_
    refine st_iconst C dX11_noTile_30 (by decide) ?_
    refine st_isub C dX11_noTile_31 ⟨(by omega), (by omega)⟩ ?_
    refine st_goto (tgt := 36) C dX11_noTile_32 (by decide) ?_
    refine st_istore C dX11_noTile_36 (by decide) rfl ?_
    show T x 38 [(0, vR 200), (1, vI 8), (2, vI l), (3, vI x9), (4, vI y9), (5, vI 1), (6, vI (8 / 8 - 1))] [] _ _ _
    refine st_aload_n C 0 dX11_noTile_38 rfl rfl ?_
    refine st_iload C dX11_noTile_39 rfl ?_
    refine st_if_eq (tgt := 69) C dX11_noTile_41 (by decide) (fun c_41 => by omega) (fun c_41 => ?_)
    refine st_iload_n C 3 dX11_noTile_44 rfl rfl ?_
    refine st_iconst C dX11_noTile_45 (by decide) ?_
    refine st_iload C dX11_noTile_46 rfl ?_
    by_cases b_48 : 0 ≤ x9 ∧ x9 ≤ (8 / 8 - 1)
    · refine st_callS (st := [vR 200]) C dX11_noTile_48 [vI x9, vI 0, vI (8 / 8 - 1)] (k_isIn_t (v9 := x9) (l9 := 0) (u9 := (8 / 8 - 1))  b_48) w_X11_75 rfl (by decide) (by decide) (by omega) (by omega) (Nat.le_of_ble_eq_true rfl) (ko_rt ?_)
      show T x 51 [(0, vR 200), (1, vI 8), (2, vI l), (3, vI x9), (4, vI y9), (5, vI 1), (6, vI (8 / 8 - 1))] [vI 1, vR 200] _ _ _
      refine st_if_eq (tgt := 69) C dX11_noTile_51 (by decide) (fun c_51 => by omega) (fun c_51 => ?_)
      refine st_iload C dX11_noTile_54 rfl ?_
      refine st_iconst C dX11_noTile_56 (by decide) ?_
      refine st_iload C dX11_noTile_57 rfl ?_
      by_cases b_59 : 0 ≤ y9 ∧ y9 ≤ (8 / 8 - 1)
      · refine st_callS (st := [vR 200]) C dX11_noTile_59 [vI y9, vI 0, vI (8 / 8 - 1)] (k_isIn_t (v9 := y9) (l9 := 0) (u9 := (8 / 8 - 1))  b_59) w_X11_75 rfl (by decide) (by decide) (by omega) (by omega) (Nat.le_of_ble_eq_true rfl) (ko_rt ?_)
        show T x 62 [(0, vR 200), (1, vI 8), (2, vI l), (3, vI x9), (4, vI y9), (5, vI 1), (6, vI (8 / 8 - 1))] [vI 1, vR 200] _ _ _
        refine st_if_eq (tgt := 69) C dX11_noTile_62 (by decide) (fun c_62 => by omega) (fun c_62 => ?_)
        refine st_iconst C dX11_noTile_65 (by decide) ?_
        refine st_goto (tgt := 70) C dX11_noTile_66 (by decide) ?_
        refine st_iconst C dX11_noTile_70 (by decide) ?_
        refine st_callV (st := []) C dX11_noTile_71 [vI 1, vI 1] (k_no_t (p9 := 1) hm) hm w_X11_112 rfl (by decide) (by decide) (by omega) (by omega) (Nat.le_of_ble_eq_true rfl) (ko_rt ?_)
        show T x 74 [(0, vR 200), (1, vI 8), (2, vI l), (3, vI x9), (4, vI y9), (5, vI 1), (6, vI (8 / 8 - 1))] [vI 0] (hput h 200 (oO 10 [vR 201, vR 202, vR 203, vR 204, vR 205, vR 206, vR 207, vR 208, vR 209, vR 210, vR 211, vR 212, vR 213, vR 214, vR 215, vR 216, vR 217, vR 218, vI mv, vI mrc, vI mmc, vI mmk, vI mdv, vI mwl, vI mwa, vI mwp, vI 0])) _ _
        exact st_zreturn C F dX11_noTile_74 rfl (by omega) (by first | exact ⟨rfl, rfl⟩ | (exfalso; omega)) (by omega) (by omega)
      · refine st_callS (st := [vR 200]) C dX11_noTile_59 [vI y9, vI 0, vI (8 / 8 - 1)] (k_isIn_f (v9 := y9) (l9 := 0) (u9 := (8 / 8 - 1))  b_59) w_X11_75 rfl (by decide) (by decide) (by omega) (by omega) (Nat.le_of_ble_eq_true rfl) (ko_rt ?_)
        show T x 62 [(0, vR 200), (1, vI 8), (2, vI l), (3, vI x9), (4, vI y9), (5, vI 1), (6, vI (8 / 8 - 1))] [vI 0, vR 200] _ _ _
        refine st_if_eq (tgt := 69) C dX11_noTile_62 (by decide) (fun c_62 => ?_) (fun c_62 => by omega)
        refine st_iconst C dX11_noTile_69 (by decide) ?_
        refine st_iconst C dX11_noTile_70 (by decide) ?_
        refine st_callV (st := []) C dX11_noTile_71 [vI 0, vI 1] (k_no_f (p9 := 1) hm) hm w_X11_112 rfl (by decide) (by decide) (by omega) (by omega) (Nat.le_of_ble_eq_true rfl) (ko_rt ?_)
        show T x 74 [(0, vR 200), (1, vI 8), (2, vI l), (3, vI x9), (4, vI y9), (5, vI 1), (6, vI (8 / 8 - 1))] [vI 1] (hput h 200 (oO 10 [vR 201, vR 202, vR 203, vR 204, vR 205, vR 206, vR 207, vR 208, vR 209, vR 210, vR 211, vR 212, vR 213, vR 214, vR 215, vR 216, vR 217, vR 218, vI mv, vI mrc, vI mmc, vI mmk, vI mdv, vI mwl, vI mwa, vI mwp, vI 1])) _ _
        exact st_zreturn C F dX11_noTile_74 rfl (by omega) (by first | exact ⟨rfl, rfl⟩ | (exfalso; omega)) (by omega) (by omega)
    · refine st_callS (st := [vR 200]) C dX11_noTile_48 [vI x9, vI 0, vI (8 / 8 - 1)] (k_isIn_f (v9 := x9) (l9 := 0) (u9 := (8 / 8 - 1))  b_48) w_X11_75 rfl (by decide) (by decide) (by omega) (by omega) (Nat.le_of_ble_eq_true rfl) (ko_rt ?_)
      show T x 51 [(0, vR 200), (1, vI 8), (2, vI l), (3, vI x9), (4, vI y9), (5, vI 1), (6, vI (8 / 8 - 1))] [vI 0, vR 200] _ _ _
      refine st_if_eq (tgt := 69) C dX11_noTile_51 (by decide) (fun c_51 => ?_) (fun c_51 => by omega)
      refine st_iconst C dX11_noTile_69 (by decide) ?_
      refine st_iconst C dX11_noTile_70 (by decide) ?_
      refine st_callV (st := []) C dX11_noTile_71 [vI 0, vI 1] (k_no_f (p9 := 1) hm) hm w_X11_112 rfl (by decide) (by decide) (by omega) (by omega) (Nat.le_of_ble_eq_true rfl) (ko_rt ?_)
      show T x 74 [(0, vR 200), (1, vI 8), (2, vI l), (3, vI x9), (4, vI y9), (5, vI 1), (6, vI (8 / 8 - 1))] [vI 1] (hput h 200 (oO 10 [vR 201, vR 202, vR 203, vR 204, vR 205, vR 206, vR 207, vR 208, vR 209, vR 210, vR 211, vR 212, vR 213, vR 214, vR 215, vR 216, vR 217, vR 218, vI mv, vI mrc, vI mmc, vI mmk, vI mdv, vI mwl, vI mwa, vI mwp, vI 1])) _ _
      exact st_zreturn C F dX11_noTile_74 rfl (by omega) (by first | exact ⟨rfl, rfl⟩ | (exfalso; omega)) (by omega) (by omega)
  · refine st_callS (st := []) C dX11_noTile_8 [vI l] (k_mLayer_f (v9 := l)  b_8) w_X11_108 rfl (by decide) (by decide) (by omega) (by omega) (Nat.le_of_ble_eq_true rfl) (ko_rt ?_)
    show T x 11 [(0, vR 200), (1, vI 8), (2, vI l), (3, vI x9), (4, vI y9)] [vI 0] _ _ _
    refine st_if_eq (tgt := 18) C dX11_noTile_11 (by decide) (fun c_11 => ?_) (fun c_11 => by omega)
    refine st_iconst C dX11_noTile_18 (by decide) ?_
    refine st_istore C dX11_noTile_19 (by decide) rfl ?_
    show T x 21 [(0, vR 200), (1, vI 8), (2, vI l), (3, vI x9), (4, vI y9), (5, vI 0)] [] _ _ _
    refine st_iload C dX11_noTile_21 rfl ?_
    refine st_if_eq (tgt := 35) C dX11_noTile_23 (by decide) (fun c_23 => ?_) (fun c_23 => by omega)
    refine st_iconst C dX11_noTile_35 (by decide) ?_
    refine st_istore C dX11_noTile_36 (by decide) rfl ?_
    show T x 38 [(0, vR 200), (1, vI 8), (2, vI l), (3, vI x9), (4, vI y9), (5, vI 0), (6, vI 0)] [] _ _ _
    refine st_aload_n C 0 dX11_noTile_38 rfl rfl ?_
    refine st_iload C dX11_noTile_39 rfl ?_
    refine st_if_eq (tgt := 69) C dX11_noTile_41 (by decide) (fun c_41 => ?_) (fun c_41 => by omega)
    refine st_iconst C dX11_noTile_69 (by decide) ?_
    refine st_iconst C dX11_noTile_70 (by decide) ?_
    refine st_callV (st := []) C dX11_noTile_71 [vI 0, vI 1] (k_no_f (p9 := 1) hm) hm w_X11_112 rfl (by decide) (by decide) (by omega) (by omega) (Nat.le_of_ble_eq_true rfl) (ko_rt ?_)
    show T x 74 [(0, vR 200), (1, vI 8), (2, vI l), (3, vI x9), (4, vI y9), (5, vI 0), (6, vI 0)] [vI 1] (hput h 200 (oO 10 [vR 201, vR 202, vR 203, vR 204, vR 205, vR 206, vR 207, vR 208, vR 209, vR 210, vR 211, vR 212, vR 213, vR 214, vR 215, vR 216, vR 217, vR 218, vI mv, vI mrc, vI mmc, vI mmk, vI mdv, vI mwl, vI mwa, vI mwp, vI 1])) _ _
    exact st_zreturn C F dX11_noTile_74 rfl (by omega) (by first | exact ⟨rfl, rfl⟩ | (exfalso; omega)) (by omega) (by omega)
set_option maxRecDepth 20000 in
set_option maxHeartbeats 4000000 in
theorem k_noTileO {g : Gx} {h : HP} {mv mrc mmc mmk mdv mwl mwa mwp mth : Int} {k9 l x9 y9 : Int} (hm : mO h mv mrc mmc mmk mdv mwl mwa mwp mth) (hP : lvOf k9 = -1) : Ct g yX11_noTile (.code yX11_noTile cX11_noTile 7 (some .boolean)) 3 0 0 [vR 200, vI k9, vI l, vI x9, vI y9] h (Rt (some (vI 1)) (hput h 200 (oO 10 [vR 201, vR 202, vR 203, vR 204, vR 205, vR 206, vR 207, vR 208, vR 209, vR 210, vR 211, vR 212, vR 213, vR 214, vR 215, vR 216, vR 217, vR 218, vI mv, vI mrc, vI mmc, vI mmk, vI mdv, vI mwl, vI mwa, vI mwp, vI 1]))) := by
  refine Ct.of (by decide) (Nat.le_of_ble_eq_true rfl) (fun x hg C F => ?_)
  subst hg
  show T x 0 [(0, vR 200), (1, vI k9), (2, vI l), (3, vI x9), (4, vI y9)] [] h 0 0
  refine st_iload_n C 1 dX11_noTile_0 rfl rfl ?_
  refine st_callS (st := []) C dX11_noTile_1 [vI k9] (k_depth (s9 := k9)) w_X11_174 rfl (by decide) (by decide) (by omega) (by omega) (Nat.le_of_ble_eq_true rfl) (ko_rt ?_)
  show T x 4 [(0, vR 200), (1, vI k9), (2, vI l), (3, vI x9), (4, vI y9)] [vI (lvOf k9)] _ _ _
  refine st_if_lt (tgt := 18) C dX11_noTile_4 (by decide) (fun c_4 => ?_) (fun c_4 => by omega)
  refine st_iconst C dX11_noTile_18 (by decide) ?_
  refine st_istore C dX11_noTile_19 (by decide) rfl ?_
  show T x 21 [(0, vR 200), (1, vI k9), (2, vI l), (3, vI x9), (4, vI y9), (5, vI 0)] [] _ _ _
  refine st_iload C dX11_noTile_21 rfl ?_
  refine st_if_eq (tgt := 35) C dX11_noTile_23 (by decide) (fun c_23 => ?_) (fun c_23 => by omega)
  refine st_iconst C dX11_noTile_35 (by decide) ?_
  refine st_istore C dX11_noTile_36 (by decide) rfl ?_
  show T x 38 [(0, vR 200), (1, vI k9), (2, vI l), (3, vI x9), (4, vI y9), (5, vI 0), (6, vI 0)] [] _ _ _
  refine st_aload_n C 0 dX11_noTile_38 rfl rfl ?_
  refine st_iload C dX11_noTile_39 rfl ?_
  refine st_if_eq (tgt := 69) C dX11_noTile_41 (by decide) (fun c_41 => ?_) (fun c_41 => by omega)
  refine st_iconst C dX11_noTile_69 (by decide) ?_
  refine st_iconst C dX11_noTile_70 (by decide) ?_
  refine st_callV (st := []) C dX11_noTile_71 [vI 0, vI 1] (k_no_f (p9 := 1) hm) hm w_X11_112 rfl (by decide) (by decide) (by omega) (by omega) (Nat.le_of_ble_eq_true rfl) (ko_rt ?_)
  show T x 74 [(0, vR 200), (1, vI k9), (2, vI l), (3, vI x9), (4, vI y9), (5, vI 0), (6, vI 0)] [vI 1] (hput h 200 (oO 10 [vR 201, vR 202, vR 203, vR 204, vR 205, vR 206, vR 207, vR 208, vR 209, vR 210, vR 211, vR 212, vR 213, vR 214, vR 215, vR 216, vR 217, vR 218, vI mv, vI mrc, vI mmc, vI mmk, vI mdv, vI mwl, vI mwa, vI mwp, vI 1])) _ _
  exact st_zreturn C F dX11_noTile_74 rfl (by omega) (by first | exact ⟨rfl, rfl⟩ | (exfalso; omega)) (by omega) (by omega)
theorem k_noTile_f {g : Gx} {h : HP} {mv mrc mmc mmk mdv mwl mwa mwp mth : Int} {k9 l x9 y9 : Int} (hm : mO h mv mrc mmc mmk mdv mwl mwa mwp mth) (hP : ¬ TileOk k9 l x9 y9) : Ct g yX11_noTile (.code yX11_noTile cX11_noTile 7 (some .boolean)) 3 0 0 [vR 200, vI k9, vI l, vI x9, vI y9] h (Rt (some (vI 1)) (hput h 200 (oO 10 [vR 201, vR 202, vR 203, vR 204, vR 205, vR 206, vR 207, vR 208, vR 209, vR 210, vR 211, vR 212, vR 213, vR 214, vR 215, vR 216, vR 217, vR 218, vI mv, vI mrc, vI mmc, vI mmk, vI mdv, vI mwl, vI mwa, vI mwp, vI 1]))) := by
  by_cases c1 : k9 = 1
  · subst c1; exact k_noTile1_f hm hP
  by_cases c2 : k9 = 2
  · subst c2; exact k_noTile2_f hm hP
  by_cases c3 : k9 = 4
  · subst c3; exact k_noTile4_f hm hP
  by_cases c4 : k9 = 8
  · subst c4; exact k_noTile8_f hm hP
  exact k_noTileO hm (by unfold lvOf; rw [if_neg c1, if_neg c2, if_neg c3, if_neg c4])
set_option maxRecDepth 20000 in
set_option maxHeartbeats 4000000 in
theorem k_isBrought_f {g : Gx} {h : HP} {mv mrc mmc mmk mdv mwl mwa mwp mth : Int} {mn mi mb me mo : Int → Int} {b9 a9 q9 : Int} (hm : mO h mv mrc mmc mmk mdv mwl mwa mwp mth) (h213 : h 213 = some (oI 180 mn)) (h210 : h 210 = some (oI 1216 mi)) (h207 : h 207 = some (oI 1216 mb)) (h208 : h 208 = some (oI 1216 me)) (h209 : h 209 = some (oI 1216 mo)) (hb : 0 ≤ b9 ∧ b9 ≤ 3) (ha : 0 ≤ a9 ∧ a9 ≤ 177) (hsp : 0 ≤ mn (a9 + 1) ∧ mn (a9 + 1) ≤ 303) (htt : 0 ≤ mn a9 ∧ mn a9 ≤ 9999) (hq : -10000 ≤ q9 ∧ q9 ≤ 10000) (hP : mi (304 * b9 + mn (a9 + 1)) > mn a9 - q9) : Ct g yX11_isBrought (.code yX11_isBrought cX11_isBrought 6 (some .boolean)) 2 0 0 [vR 200, vI b9, vI a9, vI q9] h (Rt (some (vI 0)) h) := by
  refine Ct.of (by decide) (Nat.le_of_ble_eq_true rfl) (fun x hg C F => ?_)
  subst hg
  show T x 0 [(0, vR 200), (1, vI b9), (2, vI a9), (3, vI q9)] [] h 0 0
  refine st_sipush C dX11_isBrought_0 (by decide) (by decide) ?_
  refine st_iload_n C 1 dX11_isBrought_3 rfl rfl ?_
  refine st_imul C dX11_isBrought_4 ⟨(by omega), (by omega)⟩ ?_
  refine st_aload_n C 0 dX11_isBrought_5 rfl rfl ?_
  refine st_getf C dX11_isBrought_6 fl_X11_47 hm rfl ?_
  refine st_iload_n C 2 dX11_isBrought_9 rfl rfl ?_
  refine st_iconst C dX11_isBrought_10 (by decide) ?_
  refine st_iadd C dX11_isBrought_11 ⟨(by omega), (by omega)⟩ ?_
  refine st_iald C dX11_isBrought_12 h213 (by omega) (by omega) ?_
  refine st_iadd C dX11_isBrought_13 ⟨(by omega), (by omega)⟩ ?_
  refine st_istore C dX11_isBrought_14 (by decide) rfl ?_
  show T x 16 [(0, vR 200), (1, vI b9), (2, vI a9), (3, vI q9), (4, vI (304 * b9 + (mn (a9 + 1))))] [] _ _ _
  refine st_aload_n C 0 dX11_isBrought_16 rfl rfl ?_
  refine st_getf C dX11_isBrought_17 fl_X11_47 hm rfl ?_
  refine st_iload_n C 2 dX11_isBrought_20 rfl rfl ?_
  refine st_iald C dX11_isBrought_21 h213 (by omega) (by omega) ?_
  refine st_iload_n C 3 dX11_isBrought_22 rfl rfl ?_
  refine st_isub C dX11_isBrought_23 ⟨(by omega), (by omega)⟩ ?_
  refine st_istore C dX11_isBrought_24 (by decide) rfl ?_
  show T x 26 [(0, vR 200), (1, vI b9), (2, vI a9), (3, vI q9), (4, vI (304 * b9 + (mn (a9 + 1)))), (5, vI (mn a9 - q9))] [] _ _ _
  refine st_aload_n C 0 dX11_isBrought_26 rfl rfl ?_
  refine st_getf C dX11_isBrought_27 fl_X11_38 hm rfl ?_
  refine st_iload C dX11_isBrought_30 rfl ?_
  refine st_iald C dX11_isBrought_32 h210 (by omega) (by omega) ?_
  refine st_iload C dX11_isBrought_33 rfl ?_
  refine st_icmp_le (tgt := 40) C dX11_isBrought_35 (by decide) (fun c_35 => ?_) (fun c_35 => ?_)
  · refine st_aload_n C 0 dX11_isBrought_40 rfl rfl ?_
    refine st_getf C dX11_isBrought_41 fl_X11_38 hm rfl ?_
    refine st_iload C dX11_isBrought_44 rfl ?_
    refine st_iload C dX11_isBrought_46 rfl ?_
    refine st_iast C dX11_isBrought_48 h210 (by omega) (by omega) ?_
    refine st_aload_n C 0 dX11_isBrought_49 rfl rfl ?_
    refine st_iload_n C 1 dX11_isBrought_50 rfl rfl ?_
    refine st_aload_n C 0 dX11_isBrought_51 rfl rfl ?_
    refine st_getf C dX11_isBrought_52 fl_X11_47 (hput_o (by omega) hm) rfl ?_
    refine st_iload_n C 2 dX11_isBrought_55 rfl rfl ?_
    refine st_iconst C dX11_isBrought_56 (by decide) ?_
    refine st_iadd C dX11_isBrought_57 ⟨(by omega), (by omega)⟩ ?_
    refine st_iald C dX11_isBrought_58 (hput_o (by omega) h213) (by omega) (by omega) ?_
    refine st_aload_n C 0 dX11_isBrought_59 rfl rfl ?_
    refine st_getf C dX11_isBrought_60 fl_X11_47 (hput_o (by omega) hm) rfl ?_
    refine st_iload_n C 2 dX11_isBrought_63 rfl rfl ?_
    refine st_iconst C dX11_isBrought_64 (by decide) ?_
    refine st_iadd C dX11_isBrought_65 ⟨(by omega), (by omega)⟩ ?_
    refine st_iald C dX11_isBrought_66 (hput_o (by omega) h213) (by omega) (by omega) ?_
    refine st_callV (st := []) C dX11_isBrought_67 [vI b9, vI (mn (a9 + 1)), vI (mn (a9 + 2))] (k_medit (b9 := b9) (s9 := (mn (a9 + 1))) (v9 := (mn (a9 + 2))) (hput_o (by omega) hm) (hput_o (by omega) h207) (hput_o (by omega) h208) (hput_o (by omega) h209) (by omega) (by omega)) (hput_o (by omega) hm) w_X11_135 rfl (by decide) (by decide) (by omega) (by omega) (Nat.le_of_ble_eq_true rfl) (ko_rn ?_)
    show T x 70 [(0, vR 200), (1, vI b9), (2, vI a9), (3, vI q9), (4, vI (304 * b9 + (mn (a9 + 1)))), (5, vI (mn a9 - q9))] [] (hput (hput (hput h 210 (oI 1216 (fput mi (304 * b9 + (mn (a9 + 1))) (mn a9 - q9)))) 208 (oI 1216 (medF me mb (304 * b9 + (mn (a9 + 1))) (mn (a9 + 2))))) 209 (oI 1216 (mtoF mo mb (304 * b9 + (mn (a9 + 1))) (mn (a9 + 2))))) _ _
    refine st_iconst C dX11_isBrought_70 (by decide) ?_
    exact st_zreturn C F dX11_isBrought_71 rfl (by omega) (by first | exact ⟨rfl, rfl⟩ | (exfalso; omega)) (by omega) (by omega)
  · refine st_iconst C dX11_isBrought_38 (by decide) ?_
    exact st_zreturn C F dX11_isBrought_39 rfl (by omega) (by first | exact ⟨rfl, rfl⟩ | (exfalso; omega)) (by omega) (by omega)
set_option maxRecDepth 20000 in
set_option maxHeartbeats 4000000 in
theorem k_isBrought_t {g : Gx} {h : HP} {mv mrc mmc mmk mdv mwl mwa mwp mth : Int} {mn mi mb me mo : Int → Int} {b9 a9 q9 : Int} (hm : mO h mv mrc mmc mmk mdv mwl mwa mwp mth) (h213 : h 213 = some (oI 180 mn)) (h210 : h 210 = some (oI 1216 mi)) (h207 : h 207 = some (oI 1216 mb)) (h208 : h 208 = some (oI 1216 me)) (h209 : h 209 = some (oI 1216 mo)) (hb : 0 ≤ b9 ∧ b9 ≤ 3) (ha : 0 ≤ a9 ∧ a9 ≤ 177) (hsp : 0 ≤ mn (a9 + 1) ∧ mn (a9 + 1) ≤ 303) (htt : 0 ≤ mn a9 ∧ mn a9 ≤ 9999) (hq : -10000 ≤ q9 ∧ q9 ≤ 10000) (hP : mi (304 * b9 + mn (a9 + 1)) ≤ mn a9 - q9) : Ct g yX11_isBrought (.code yX11_isBrought cX11_isBrought 6 (some .boolean)) 2 0 0 [vR 200, vI b9, vI a9, vI q9] h (Rt (some (vI 1)) (hput (hput (hput h 210 (oI 1216 (fput mi (304 * b9 + mn (a9 + 1)) (mn a9 - q9)))) 208 (oI 1216 (medF me mb (304 * b9 + mn (a9 + 1)) (mn (a9 + 2))))) 209 (oI 1216 (mtoF mo mb (304 * b9 + mn (a9 + 1)) (mn (a9 + 2)))))) := by
  refine Ct.of (by decide) (Nat.le_of_ble_eq_true rfl) (fun x hg C F => ?_)
  subst hg
  show T x 0 [(0, vR 200), (1, vI b9), (2, vI a9), (3, vI q9)] [] h 0 0
  refine st_sipush C dX11_isBrought_0 (by decide) (by decide) ?_
  refine st_iload_n C 1 dX11_isBrought_3 rfl rfl ?_
  refine st_imul C dX11_isBrought_4 ⟨(by omega), (by omega)⟩ ?_
  refine st_aload_n C 0 dX11_isBrought_5 rfl rfl ?_
  refine st_getf C dX11_isBrought_6 fl_X11_47 hm rfl ?_
  refine st_iload_n C 2 dX11_isBrought_9 rfl rfl ?_
  refine st_iconst C dX11_isBrought_10 (by decide) ?_
  refine st_iadd C dX11_isBrought_11 ⟨(by omega), (by omega)⟩ ?_
  refine st_iald C dX11_isBrought_12 h213 (by omega) (by omega) ?_
  refine st_iadd C dX11_isBrought_13 ⟨(by omega), (by omega)⟩ ?_
  refine st_istore C dX11_isBrought_14 (by decide) rfl ?_
  show T x 16 [(0, vR 200), (1, vI b9), (2, vI a9), (3, vI q9), (4, vI (304 * b9 + (mn (a9 + 1))))] [] _ _ _
  refine st_aload_n C 0 dX11_isBrought_16 rfl rfl ?_
  refine st_getf C dX11_isBrought_17 fl_X11_47 hm rfl ?_
  refine st_iload_n C 2 dX11_isBrought_20 rfl rfl ?_
  refine st_iald C dX11_isBrought_21 h213 (by omega) (by omega) ?_
  refine st_iload_n C 3 dX11_isBrought_22 rfl rfl ?_
  refine st_isub C dX11_isBrought_23 ⟨(by omega), (by omega)⟩ ?_
  refine st_istore C dX11_isBrought_24 (by decide) rfl ?_
  show T x 26 [(0, vR 200), (1, vI b9), (2, vI a9), (3, vI q9), (4, vI (304 * b9 + (mn (a9 + 1)))), (5, vI (mn a9 - q9))] [] _ _ _
  refine st_aload_n C 0 dX11_isBrought_26 rfl rfl ?_
  refine st_getf C dX11_isBrought_27 fl_X11_38 hm rfl ?_
  refine st_iload C dX11_isBrought_30 rfl ?_
  refine st_iald C dX11_isBrought_32 h210 (by omega) (by omega) ?_
  refine st_iload C dX11_isBrought_33 rfl ?_
  refine st_icmp_le (tgt := 40) C dX11_isBrought_35 (by decide) (fun c_35 => ?_) (fun c_35 => ?_)
  · refine st_aload_n C 0 dX11_isBrought_40 rfl rfl ?_
    refine st_getf C dX11_isBrought_41 fl_X11_38 hm rfl ?_
    refine st_iload C dX11_isBrought_44 rfl ?_
    refine st_iload C dX11_isBrought_46 rfl ?_
    refine st_iast C dX11_isBrought_48 h210 (by omega) (by omega) ?_
    refine st_aload_n C 0 dX11_isBrought_49 rfl rfl ?_
    refine st_iload_n C 1 dX11_isBrought_50 rfl rfl ?_
    refine st_aload_n C 0 dX11_isBrought_51 rfl rfl ?_
    refine st_getf C dX11_isBrought_52 fl_X11_47 (hput_o (by omega) hm) rfl ?_
    refine st_iload_n C 2 dX11_isBrought_55 rfl rfl ?_
    refine st_iconst C dX11_isBrought_56 (by decide) ?_
    refine st_iadd C dX11_isBrought_57 ⟨(by omega), (by omega)⟩ ?_
    refine st_iald C dX11_isBrought_58 (hput_o (by omega) h213) (by omega) (by omega) ?_
    refine st_aload_n C 0 dX11_isBrought_59 rfl rfl ?_
    refine st_getf C dX11_isBrought_60 fl_X11_47 (hput_o (by omega) hm) rfl ?_
    refine st_iload_n C 2 dX11_isBrought_63 rfl rfl ?_
    refine st_iconst C dX11_isBrought_64 (by decide) ?_
    refine st_iadd C dX11_isBrought_65 ⟨(by omega), (by omega)⟩ ?_
    refine st_iald C dX11_isBrought_66 (hput_o (by omega) h213) (by omega) (by omega) ?_
    refine st_callV (st := []) C dX11_isBrought_67 [vI b9, vI (mn (a9 + 1)), vI (mn (a9 + 2))] (k_medit (b9 := b9) (s9 := (mn (a9 + 1))) (v9 := (mn (a9 + 2))) (hput_o (by omega) hm) (hput_o (by omega) h207) (hput_o (by omega) h208) (hput_o (by omega) h209) (by omega) (by omega)) (hput_o (by omega) hm) w_X11_135 rfl (by decide) (by decide) (by omega) (by omega) (Nat.le_of_ble_eq_true rfl) (ko_rn ?_)
    show T x 70 [(0, vR 200), (1, vI b9), (2, vI a9), (3, vI q9), (4, vI (304 * b9 + (mn (a9 + 1)))), (5, vI (mn a9 - q9))] [] (hput (hput (hput h 210 (oI 1216 (fput mi (304 * b9 + (mn (a9 + 1))) (mn a9 - q9)))) 208 (oI 1216 (medF me mb (304 * b9 + (mn (a9 + 1))) (mn (a9 + 2))))) 209 (oI 1216 (mtoF mo mb (304 * b9 + (mn (a9 + 1))) (mn (a9 + 2))))) _ _
    refine st_iconst C dX11_isBrought_70 (by decide) ?_
    exact st_zreturn C F dX11_isBrought_71 rfl (by omega) (by first | exact ⟨rfl, rfl⟩ | (exfalso; omega)) (by omega) (by omega)
  · refine st_iconst C dX11_isBrought_38 (by decide) ?_
    exact st_zreturn C F dX11_isBrought_39 rfl (by omega) (by first | exact ⟨rfl, rfl⟩ | (exfalso; omega)) (by omega) (by omega)
