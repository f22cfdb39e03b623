/-! PLATEAUS told: numbers -/
set_option maxRecDepth 4000 in
theorem sg_w {T : TT} {s k : Nat} (hb : bt T s < 256 ∨ bt T s = 1000) (hk : k < 20) : sgn1 T s = 300 + k ↔ wix T s = k := by
  unfold sgn1
  cases cD : isD (bt T s) with
  | true =>
    obtain ⟨d1, d2⟩ := isD_of cD
    have := wix_nl (T := T) (s := s) (isL_F (by omega))
    simp only [if_true]
    omega
  | false =>
    cases cL : isL (bt T s) with
    | true =>
      have := wix_le T s
      simp only [if_true]
      rw [if_neg (by simp)]
      split <;> omega
    | false =>
      have := wix_nl (T := T) (s := s) cL
      rw [if_neg (by simp), if_neg (by simp)]
      split
      · omega
      · split <;> omega
set_option maxRecDepth 4000 in
theorem sg_b {T : TT} {s c : Nat} (hb : bt T s < 256 ∨ bt T s = 1000) (hc : c < 256 ∨ c = 1000) (h1 : isD c = false) (h2 : isL c = false) (h3 : c ≠ 60) (h4 : c ≠ 62) : sgn1 T s = c ↔ bt T s = c := by
  unfold sgn1
  cases cD : isD (bt T s) with
  | true =>
    simp only [if_true]
    refine ⟨fun e => by omega, fun e => ?_⟩
    rw [e, h1] at cD; cases cD
  | false =>
    cases cL : isL (bt T s) with
    | true =>
      have := wix_le T s
      simp only [if_true]
      rw [if_neg (by simp)]
      refine ⟨fun e => ?_, fun e => ?_⟩
      · split at e <;> omega
      · rw [e, h2] at cL; cases cL
    | false =>
      rw [if_neg (by simp), if_neg (by simp)]
      split
      · omega
      · split <;> omega
set_option maxRecDepth 4000 in
theorem sg_256 {T : TT} {s : Nat} (hb : bt T s < 256 ∨ bt T s = 1000) : sgn1 T s = 256 ↔ isD (bt T s) = true := by
  unfold sgn1
  cases cD : isD (bt T s) with
  | true => simp
  | false =>
    have := wix_le T s
    simp only [Bool.false_eq_true, if_false, iff_false]
    split
    · split <;> omega
    · split
      · omega
      · split <;> omega
set_option maxRecDepth 4000 in
theorem sg_lt {T : TT} {s : Nat} (hb : bt T s < 256 ∨ bt T s = 1000) : sgn1 T s ≤ 1000 := by
  have := wix_le T s
  unfold sgn1
  split
  · omega
  · split
    · split <;> omega
    · split
      · omega
      · split <;> omega
set_option maxRecDepth 4000 in
theorem end_w {T : TT} {s : Nat} (h : wix T s < 20) : end1 T s = s + (wd (wix T s)).length := by
  have cL : isL (bt T s) = true := by
    cases c : isL (bt T s) with
    | true => rfl
    | false => have := wix_nl c; omega
  obtain ⟨d1, d2⟩ := isL_of cL
  unfold end1
  rw [isD_F (by omega), if_neg (by simp), if_pos cL, wix_end h]
set_option maxRecDepth 4000 in
theorem end_b {T : TT} {s : Nat} (h1 : isD (bt T s) = false) (h2 : isL (bt T s) = false) (h3 : bt T s ≠ 60) (h4 : bt T s ≠ 62) (h5 : bt T s ≠ 1000) : end1 T s = s + 1 := by
  unfold end1
  rw [if_neg (by simp [h1]), if_neg (by simp [h2]), if_neg h5, if_neg (by omega)]
/-- a number from lo to hi, behind a place: fault, where it ends, which -/
def amt (T : TT) (lo hi : Nat) (x : Nat × Nat) : Nat × Nat × Nat := if x.1 = 0 then (if isD (bt T (sp isB T x.2)) then (if sp isD T (sp isB T x.2) - sp isB T x.2 ≤ 5 ∧ lo ≤ nval T (sp isB T x.2) (sp isD T (sp isB T x.2) - sp isB T x.2) ∧ nval T (sp isB T x.2) (sp isD T (sp isB T x.2) - sp isB T x.2) ≤ hi then (0, sp isD T (sp isB T x.2), nval T (sp isB T x.2) (sp isD T (sp isB T x.2) - sp isB T x.2)) else (1 + 8 * sp isB T x.2 + 1, x.2, lo)) else (1 + 8 * sp isB T x.2 + 0, x.2, lo)) else (x.1, x.2, lo)
set_option maxRecDepth 4000 in
theorem amt_ok {T : TT} {lo hi : Nat} {x : Nat × Nat} (hx : x.2 ≤ T.1) (hT : T.1 ≤ 400) (hf : x.1 < 100000) : (amt T lo hi x).1 < 100000 ∧ (amt T lo hi x).2.1 ≤ T.1 ∧ ((amt T lo hi x).1 = 0 → x.1 = 0 ∧ lo ≤ (amt T lo hi x).2.2 ∧ (amt T lo hi x).2.2 ≤ hi) := by
  have h1 := sp_le (P := isB) (T := T) hB hx
  have h2 := sp_le (P := isD) (T := T) hD h1
  unfold amt
  split
  · rename_i c
    split
    · split
      · rename_i d
        exact ⟨by show 0 < 100000; omega, h2, fun _ => ⟨c, d.2⟩⟩
      · refine ⟨?_, hx, fun h => ?_⟩
        · show 1 + 8 * sp isB T x.2 + 1 < 100000; omega
        · have : 1 + 8 * sp isB T x.2 + 1 = 0 := h
          omega
    · refine ⟨?_, hx, fun h => ?_⟩
      · show 1 + 8 * sp isB T x.2 + 0 < 100000; omega
      · have : 1 + 8 * sp isB T x.2 + 0 = 0 := h
        omega
  · rename_i c
    exact ⟨hf, hx, fun h => absurd h c⟩
set_option maxRecDepth 4000 in
theorem nval_cap {T : TT} {s : Nat} (h : sp isD T s - s ≤ 5) (hs : s ≤ T.1) : nval T s (sp isD T s - s) < 100000 := by
  have g := sp_ge (P := isD) (T := T) hD s
  have g2 := sp_le (P := isD) (T := T) hD hs
  have hv := nval_lt (T := T) (s := s) (sp isD T s - s) (fun j hj => by have := sp_mid (P := isD) (T := T) hD (i := s) (j := s + j) (by omega) (by omega); rwa [bt_in (by omega)] at this)
  have : 10 ^ (sp isD T s - s) ≤ 10 ^ 5 := Nat.pow_le_pow_right (by omega) h
  omega
/-! the class -/
def TG (m m1 : Nat → Nat → Int32) : Prop := (∀ j, j ≠ 1 → m1 j = m j) ∧ m1 1 1 = m 1 1
set_option maxRecDepth 4000 in
theorem TF.g {m m1 : Nat → Nat → Int32} (h : TF m m1) : TG m m1 := ⟨h.1, h.2.1⟩
set_option maxRecDepth 4000 in
theorem TG.rf {m : Nat → Nat → Int32} : TG m m := ⟨fun _ _ => rfl, rfl⟩
set_option maxRecDepth 4000 in
theorem TG.trans {m m1 m2 : Nat → Nat → Int32} (h : TG m m1) (h2 : TG m1 m2) : TG m m2 := ⟨fun j hj => (h2.1 j hj).trans (h.1 j hj), h2.2.trans h.2⟩
set_option maxRecDepth 4000 in
theorem TG.up {m m1 : Nat → Nat → Int32} {k : Nat} {v : Int32} (h : TG m m1) (h1 : k ≠ 1) : TG m (mk_u2 m1 1 k v) := ⟨fun j hj => (mk_u2_ne hj).trans (h.1 j hj), (u2_b (by omega)).trans h.2⟩
set_option maxRecDepth 4000 in
theorem TC.tg {T : TT} {m m1 : Nat → Nat → Int32} (h : TC T m) (e : TG m m1) : TC T m1 := ⟨e.2.trans h.1, h.2.1, fun i hi => by rw [e.1 2 (by omega)]; exact h.2.2 i hi⟩
set_option maxRecDepth 4000 in
theorem flC {m : Nat → Nat → Int32} {q : Nat → Nat → Int64} {s c fa : Nat} (h3 : m 1 3 = nI fa) (h5 : m 1 5 = nI s) (hf : fa < 100000) : F_X8_fail 1 (nI c) (KS, m, q) = some ((), (KS, mk_u2 m 1 3 (nI (if fa = 0 then 1 + 8 * s + c else fa)), q)) := by
  unfold F_X8_fail
  by_cases c : fa = 0
  · subst c
    simp (disch := omega) only [ob_some, reduceIte, lit, le_T, le_F, lt_T, lt_F, eq_T, eq_F, nI_add, gac_0_0, gac_0_1, gac_0_2, gac_0_3, gac_0_4, gac_0_5, gac_0_6, gac_1_0, gic_1_1, gic_1_2, gic_1_3, gic_1_4, gic_1_5, gic_1_6, gac_3_0, gic_3_1, gic_3_2, gic_3_3, gic_3_4, gic_3_5, gic_3_6, gic_3_7, gic_5_0, gic_5_1, gic_5_2, gic_5_3, gic_5_4, gac_5_5, gac_5_6, gac_5_7, gac_5_8, gac_5_9, gac_5_10, gac_5_11, gac_13_0, gac_13_1, gic_13_2, gac_13_3, gac_13_4, gac_13_5, gac_13_6, gac_13_7, gac_13_8, gac_13_9, gic_13_10, gic_13_11, gic_13_12, gic_13_13, gac_14_0, gac_14_1, gac_14_2, gac_14_3, gic_14_4, gic_14_5, gic_15_0, gic_15_1, gic_15_2, gic_15_3, gic_15_4, gac_15_5, gac_15_6, gac_15_7, gac_15_8, gac_15_9, gac_15_10, gac_15_11, gac_23_0, gac_23_1, gac_23_2, gac_23_3, gac_23_4, gac_23_5, gac_23_6, gic_23_7, gic_23_8, gac_31_0, gic_31_1, gic_31_2, gac_193_0, gac_193_1, gac_193_2, gic_193_3, gac_198_0, gac_200_0, gac_200_1, gac_200_2, gac_200_3, gac_200_4, gac_200_5, gac_200_6, gic_200_7, gic_200_8, pic_1_1, pic_1_2, pic_1_3, pic_1_4, pic_1_5, pic_1_6, pic_3_1, pic_3_2, pic_3_3, pic_3_4, pic_3_5, pic_3_6, pic_3_7, pic_5_0, pic_5_1, pic_5_2, pic_5_3, pic_5_4, pic_13_2, pic_13_10, pic_13_11, pic_13_12, pic_13_13, pic_14_4, pic_14_5, pic_15_0, pic_15_1, pic_15_2, pic_15_3, pic_15_4, pic_23_7, pic_23_8, pic_31_1, pic_31_2, pic_193_3, pic_200_7, pic_200_8, gdc_0, gdc_1, gdc_3, gdc_5, gdc_13, gdc_14, gdc_15, gdc_23, gdc_31, gdc_193, gdc_198, gdc_200, ldc_2, stc_2, ldc_4, stc_4, ldc_6, stc_6, ldc_7, stc_7, ldc_8, stc_8, ldc_9, stc_9, ldc_10, stc_10, ldc_11, stc_11, ldc_12, stc_12, ldc_16, stc_16, ldc_17, stc_17, ldc_18, stc_18, ldc_19, stc_19, ldc_20, stc_20, ldc_21, stc_21, ldc_22, stc_22, ldc_24, stc_24, ldc_25, stc_25, ldc_26, stc_26, ldc_27, stc_27, ldc_28, stc_28, ldc_29, stc_29, ldc_30, stc_30, ldc_194, stc_194, ldc_195, stc_195, ldc_196, stc_196, ldc_199, stc_199, ldc_201, stc_201, ldc_202, stc_202, ldc_203, stc_203, ldc_204, stc_204, ldc_205, stc_205, ldc_206, stc_206, ldc_207, stc_207, ldc_208, stc_208, ldc_209, stc_209, ldc_210, stc_210, ldc_211, stc_211, ldc_213, stc_213, ldc_214, stc_214, ldc_215, stc_215, ldc_216, stc_216, ldc_217, stc_217, ldc_218, stc_218, ldc_219, stc_219, ldc_263, stc_263, lda_197, lda_262, lda_212, lda_32, u2_s, u2_a, u2_b, h3, h5, pk_mul]
  · rw [if_neg c, u2_id h3]
    simp (disch := omega) only [ob_some, reduceIte, lit, le_T, le_F, lt_T, lt_F, eq_T, eq_F, nI_add, gac_0_0, gac_0_1, gac_0_2, gac_0_3, gac_0_4, gac_0_5, gac_0_6, gac_1_0, gic_1_1, gic_1_2, gic_1_3, gic_1_4, gic_1_5, gic_1_6, gac_3_0, gic_3_1, gic_3_2, gic_3_3, gic_3_4, gic_3_5, gic_3_6, gic_3_7, gic_5_0, gic_5_1, gic_5_2, gic_5_3, gic_5_4, gac_5_5, gac_5_6, gac_5_7, gac_5_8, gac_5_9, gac_5_10, gac_5_11, gac_13_0, gac_13_1, gic_13_2, gac_13_3, gac_13_4, gac_13_5, gac_13_6, gac_13_7, gac_13_8, gac_13_9, gic_13_10, gic_13_11, gic_13_12, gic_13_13, gac_14_0, gac_14_1, gac_14_2, gac_14_3, gic_14_4, gic_14_5, gic_15_0, gic_15_1, gic_15_2, gic_15_3, gic_15_4, gac_15_5, gac_15_6, gac_15_7, gac_15_8, gac_15_9, gac_15_10, gac_15_11, gac_23_0, gac_23_1, gac_23_2, gac_23_3, gac_23_4, gac_23_5, gac_23_6, gic_23_7, gic_23_8, gac_31_0, gic_31_1, gic_31_2, gac_193_0, gac_193_1, gac_193_2, gic_193_3, gac_198_0, gac_200_0, gac_200_1, gac_200_2, gac_200_3, gac_200_4, gac_200_5, gac_200_6, gic_200_7, gic_200_8, pic_1_1, pic_1_2, pic_1_3, pic_1_4, pic_1_5, pic_1_6, pic_3_1, pic_3_2, pic_3_3, pic_3_4, pic_3_5, pic_3_6, pic_3_7, pic_5_0, pic_5_1, pic_5_2, pic_5_3, pic_5_4, pic_13_2, pic_13_10, pic_13_11, pic_13_12, pic_13_13, pic_14_4, pic_14_5, pic_15_0, pic_15_1, pic_15_2, pic_15_3, pic_15_4, pic_23_7, pic_23_8, pic_31_1, pic_31_2, pic_193_3, pic_200_7, pic_200_8, gdc_0, gdc_1, gdc_3, gdc_5, gdc_13, gdc_14, gdc_15, gdc_23, gdc_31, gdc_193, gdc_198, gdc_200, ldc_2, stc_2, ldc_4, stc_4, ldc_6, stc_6, ldc_7, stc_7, ldc_8, stc_8, ldc_9, stc_9, ldc_10, stc_10, ldc_11, stc_11, ldc_12, stc_12, ldc_16, stc_16, ldc_17, stc_17, ldc_18, stc_18, ldc_19, stc_19, ldc_20, stc_20, ldc_21, stc_21, ldc_22, stc_22, ldc_24, stc_24, ldc_25, stc_25, ldc_26, stc_26, ldc_27, stc_27, ldc_28, stc_28, ldc_29, stc_29, ldc_30, stc_30, ldc_194, stc_194, ldc_195, stc_195, ldc_196, stc_196, ldc_199, stc_199, ldc_201, stc_201, ldc_202, stc_202, ldc_203, stc_203, ldc_204, stc_204, ldc_205, stc_205, ldc_206, stc_206, ldc_207, stc_207, ldc_208, stc_208, ldc_209, stc_209, ldc_210, stc_210, ldc_211, stc_211, ldc_213, stc_213, ldc_214, stc_214, ldc_215, stc_215, ldc_216, stc_216, ldc_217, stc_217, ldc_218, stc_218, ldc_219, stc_219, ldc_263, stc_263, lda_197, lda_262, lda_212, lda_32, u2_s, u2_a, u2_b, h3]
set_option maxRecDepth 4000 in
theorem sdC {m : Nat → Nat → Int32} {q : Nat → Nat → Int64} {fa : Nat} (h3 : m 1 3 = nI fa) (hf : fa < 100000) : F_X8_isSound 1 (KS, m, q) = some (bI (decide (fa = 0)), (KS, m, q)) := by
  unfold F_X8_isSound
  by_cases c : fa = 0
  · subst c
    simp (disch := omega) only [ob_some, reduceIte, lit, le_T, le_F, lt_T, lt_F, eq_T, eq_F, nI_add, gac_0_0, gac_0_1, gac_0_2, gac_0_3, gac_0_4, gac_0_5, gac_0_6, gac_1_0, gic_1_1, gic_1_2, gic_1_3, gic_1_4, gic_1_5, gic_1_6, gac_3_0, gic_3_1, gic_3_2, gic_3_3, gic_3_4, gic_3_5, gic_3_6, gic_3_7, gic_5_0, gic_5_1, gic_5_2, gic_5_3, gic_5_4, gac_5_5, gac_5_6, gac_5_7, gac_5_8, gac_5_9, gac_5_10, gac_5_11, gac_13_0, gac_13_1, gic_13_2, gac_13_3, gac_13_4, gac_13_5, gac_13_6, gac_13_7, gac_13_8, gac_13_9, gic_13_10, gic_13_11, gic_13_12, gic_13_13, gac_14_0, gac_14_1, gac_14_2, gac_14_3, gic_14_4, gic_14_5, gic_15_0, gic_15_1, gic_15_2, gic_15_3, gic_15_4, gac_15_5, gac_15_6, gac_15_7, gac_15_8, gac_15_9, gac_15_10, gac_15_11, gac_23_0, gac_23_1, gac_23_2, gac_23_3, gac_23_4, gac_23_5, gac_23_6, gic_23_7, gic_23_8, gac_31_0, gic_31_1, gic_31_2, gac_193_0, gac_193_1, gac_193_2, gic_193_3, gac_198_0, gac_200_0, gac_200_1, gac_200_2, gac_200_3, gac_200_4, gac_200_5, gac_200_6, gic_200_7, gic_200_8, pic_1_1, pic_1_2, pic_1_3, pic_1_4, pic_1_5, pic_1_6, pic_3_1, pic_3_2, pic_3_3, pic_3_4, pic_3_5, pic_3_6, pic_3_7, pic_5_0, pic_5_1, pic_5_2, pic_5_3, pic_5_4, pic_13_2, pic_13_10, pic_13_11, pic_13_12, pic_13_13, pic_14_4, pic_14_5, pic_15_0, pic_15_1, pic_15_2, pic_15_3, pic_15_4, pic_23_7, pic_23_8, pic_31_1, pic_31_2, pic_193_3, pic_200_7, pic_200_8, gdc_0, gdc_1, gdc_3, gdc_5, gdc_13, gdc_14, gdc_15, gdc_23, gdc_31, gdc_193, gdc_198, gdc_200, ldc_2, stc_2, ldc_4, stc_4, ldc_6, stc_6, ldc_7, stc_7, ldc_8, stc_8, ldc_9, stc_9, ldc_10, stc_10, ldc_11, stc_11, ldc_12, stc_12, ldc_16, stc_16, ldc_17, stc_17, ldc_18, stc_18, ldc_19, stc_19, ldc_20, stc_20, ldc_21, stc_21, ldc_22, stc_22, ldc_24, stc_24, ldc_25, stc_25, ldc_26, stc_26, ldc_27, stc_27, ldc_28, stc_28, ldc_29, stc_29, ldc_30, stc_30, ldc_194, stc_194, ldc_195, stc_195, ldc_196, stc_196, ldc_199, stc_199, ldc_201, stc_201, ldc_202, stc_202, ldc_203, stc_203, ldc_204, stc_204, ldc_205, stc_205, ldc_206, stc_206, ldc_207, stc_207, ldc_208, stc_208, ldc_209, stc_209, ldc_210, stc_210, ldc_211, stc_211, ldc_213, stc_213, ldc_214, stc_214, ldc_215, stc_215, ldc_216, stc_216, ldc_217, stc_217, ldc_218, stc_218, ldc_219, stc_219, ldc_263, stc_263, lda_197, lda_262, lda_212, lda_32, u2_s, u2_a, u2_b, h3, rz1, decide_true, bI_T]
  · simp (disch := omega) only [ob_some, reduceIte, lit, le_T, le_F, lt_T, lt_F, eq_T, eq_F, nI_add, gac_0_0, gac_0_1, gac_0_2, gac_0_3, gac_0_4, gac_0_5, gac_0_6, gac_1_0, gic_1_1, gic_1_2, gic_1_3, gic_1_4, gic_1_5, gic_1_6, gac_3_0, gic_3_1, gic_3_2, gic_3_3, gic_3_4, gic_3_5, gic_3_6, gic_3_7, gic_5_0, gic_5_1, gic_5_2, gic_5_3, gic_5_4, gac_5_5, gac_5_6, gac_5_7, gac_5_8, gac_5_9, gac_5_10, gac_5_11, gac_13_0, gac_13_1, gic_13_2, gac_13_3, gac_13_4, gac_13_5, gac_13_6, gac_13_7, gac_13_8, gac_13_9, gic_13_10, gic_13_11, gic_13_12, gic_13_13, gac_14_0, gac_14_1, gac_14_2, gac_14_3, gic_14_4, gic_14_5, gic_15_0, gic_15_1, gic_15_2, gic_15_3, gic_15_4, gac_15_5, gac_15_6, gac_15_7, gac_15_8, gac_15_9, gac_15_10, gac_15_11, gac_23_0, gac_23_1, gac_23_2, gac_23_3, gac_23_4, gac_23_5, gac_23_6, gic_23_7, gic_23_8, gac_31_0, gic_31_1, gic_31_2, gac_193_0, gac_193_1, gac_193_2, gic_193_3, gac_198_0, gac_200_0, gac_200_1, gac_200_2, gac_200_3, gac_200_4, gac_200_5, gac_200_6, gic_200_7, gic_200_8, pic_1_1, pic_1_2, pic_1_3, pic_1_4, pic_1_5, pic_1_6, pic_3_1, pic_3_2, pic_3_3, pic_3_4, pic_3_5, pic_3_6, pic_3_7, pic_5_0, pic_5_1, pic_5_2, pic_5_3, pic_5_4, pic_13_2, pic_13_10, pic_13_11, pic_13_12, pic_13_13, pic_14_4, pic_14_5, pic_15_0, pic_15_1, pic_15_2, pic_15_3, pic_15_4, pic_23_7, pic_23_8, pic_31_1, pic_31_2, pic_193_3, pic_200_7, pic_200_8, gdc_0, gdc_1, gdc_3, gdc_5, gdc_13, gdc_14, gdc_15, gdc_23, gdc_31, gdc_193, gdc_198, gdc_200, ldc_2, stc_2, ldc_4, stc_4, ldc_6, stc_6, ldc_7, stc_7, ldc_8, stc_8, ldc_9, stc_9, ldc_10, stc_10, ldc_11, stc_11, ldc_12, stc_12, ldc_16, stc_16, ldc_17, stc_17, ldc_18, stc_18, ldc_19, stc_19, ldc_20, stc_20, ldc_21, stc_21, ldc_22, stc_22, ldc_24, stc_24, ldc_25, stc_25, ldc_26, stc_26, ldc_27, stc_27, ldc_28, stc_28, ldc_29, stc_29, ldc_30, stc_30, ldc_194, stc_194, ldc_195, stc_195, ldc_196, stc_196, ldc_199, stc_199, ldc_201, stc_201, ldc_202, stc_202, ldc_203, stc_203, ldc_204, stc_204, ldc_205, stc_205, ldc_206, stc_206, ldc_207, stc_207, ldc_208, stc_208, ldc_209, stc_209, ldc_210, stc_210, ldc_211, stc_211, ldc_213, stc_213, ldc_214, stc_214, ldc_215, stc_215, ldc_216, stc_216, ldc_217, stc_217, ldc_218, stc_218, ldc_219, stc_219, ldc_263, stc_263, lda_197, lda_262, lda_212, lda_32, u2_s, u2_a, u2_b, h3, c, rz0, decide_false, bI_F]
set_option maxRecDepth 4000 in
theorem within_F {j lo hi : Nat} (h : ¬ (lo ≤ j ∧ j ≤ hi)) (hj : j < 2147483648) (h1 : lo < 2147483648) (h2 : hi < 2147483647) (t : mk_S) : F_X11_within (nI j) (nI lo) (nI hi) t = some (nI 0, t) := by
  rcases within_CL (nI j) lo hi h2 h1 with ⟨k, a, b, e⟩ | g
  · have := (nI_eq (by omega) (by omega)).mp e
    omega
  · exact g t
set_option maxRecDepth 4000 in
theorem withinm1 {lo hi : Nat} (h1 : lo < 2147483648) (h2 : hi < 2147483647) (t : mk_S) : F_X11_within (-nI 1) (nI lo) (nI hi) t = some (nI 0, t) := by
  rcases within_CL (-nI 1) lo hi h2 h1 with ⟨k, a, b, e⟩ | g
  · exact absurd e.symm (by rw [m1_eq (by omega)]; exact id)
  · exact g t
set_option maxRecDepth 4000 in
theorem nxC {T : TT} {m : Nat → Nat → Int32} {q : Nat → Nat → Int64} {lo hi fa a : Nat} (hT : TC T m) (h3 : m 1 3 = nI fa) (hf : fa < 100000) (h2 : fa = 0 → m 1 2 = nI a) (ha : a ≤ T.1) (hlo : lo < 100000) (hhi : hi < 100000) : ∃ m1 v, F_X4_next 1 (nI lo) (nI hi) (KS, m, q) = some (nI v, (KS, m1, q)) ∧ TG m m1 ∧ m1 1 3 = nI (amt T lo hi (fa, a)).1 ∧ ((amt T lo hi (fa, a)).1 = 0 → m1 1 2 = nI (amt T lo hi (fa, a)).2.1 ∧ v = (amt T lo hi (fa, a)).2.2) := by
  have hl := hT.2.1
  by_cases c0 : fa = 0
  · subst c0
    have h2 := h2 rfl
    obtain ⟨m1, a1, a2, a3, a4, a5, a6⟩ := advC (q := q) hT h2 ha rfl
    have hsl : sp isB T a ≤ T.1 := sp_le hB ha
    have hb := hT.b (sp isB T a)
    generalize hs : sp isB T a = s at *
    have ea : amt T lo hi (0, a) = if isD (bt T s) then (if sp isD T s - s ≤ 5 ∧ lo ≤ nval T s (sp isD T s - s) ∧ nval T s (sp isD T s - s) ≤ hi then (0, sp isD T s, nval T s (sp isD T s - s)) else (1 + 8 * s + 1, a, lo)) else (1 + 8 * s + 0, a, lo) := by
      unfold amt
      rw [if_pos rfl, hs]
    have e3 : m1 1 3 = nI 0 := by rw [a2.2.2]; exact h3
    have sd0 := sdC (q := q) h3 (by omega)
    rw [decide_eq_true rfl, bI_T] at sd0
    have fl : ∀ c, c < 10 → F_X8_fail 1 (nI c) (KS, m1, q) = some ((), (KS, mk_u2 m1 1 3 (nI (1 + 8 * s + c)), q)) := fun c hc => flC e3 a4 (by omega)
    have fl0 := fl 0 (by omega)
    have fl1 := fl 1 (by omega)
    have sdf : ∀ c, c < 10 → F_X8_isSound 1 (KS, mk_u2 m1 1 3 (nI (1 + 8 * s + c)), q) = some (nI 0, (KS, mk_u2 m1 1 3 (nI (1 + 8 * s + c)), q)) := fun c hc => by
      have := sdC (m := mk_u2 m1 1 3 (nI (1 + 8 * s + c))) (q := q) u2_s (by omega)
      rwa [decide_eq_false (by omega), bI_F] at this
    have sdf0 := sdf 0 (by omega)
    have sdf1 := sdf 1 (by omega)
    cases d : isD (bt T s) with
    | true =>
      have e1 : sgn1 T s = 256 := (sg_256 hb).mpr d
      have e2 : end1 T s = sp isD T s := by unfold end1; rw [if_pos d]
      have a6 := a6 e1
      rw [e1, sI_n (by omega)] at a5
      rw [e2] at a3 a6
      have sd1 := sdC (q := q) e3 (by omega)
      rw [decide_eq_true rfl, bI_T] at sd1
      rw [d, if_pos rfl] at ea
      by_cases g : sp isD T s - s ≤ 5
      · have hv := nval_cap g hsl
        have e6 : m1 1 6 = nI (nval T s (sp isD T s - s)) := by rw [a6]; unfold numI; rw [if_pos g]
        by_cases g2 : lo ≤ nval T s (sp isD T s - s) ∧ nval T s (sp isD T s - s) ≤ hi
        · rw [if_pos ⟨g, g2⟩] at ea
          rw [ea]
          have w := within_TL g2.1 g2.2 (by omega) (KS, m1, q)
          refine ⟨m1, nval T s (sp isD T s - s), ?_, a2.g, e3, fun _ => ⟨a3, rfl⟩⟩
          unfold F_X4_next B_X4_next_46
          simp (disch := omega) only [ob_some, reduceIte, lit, le_T, le_F, lt_T, lt_F, eq_T, eq_F, nI_add, gac_0_0, gac_0_1, gac_0_2, gac_0_3, gac_0_4, gac_0_5, gac_0_6, gac_1_0, gic_1_1, gic_1_2, gic_1_3, gic_1_4, gic_1_5, gic_1_6, gac_3_0, gic_3_1, gic_3_2, gic_3_3, gic_3_4, gic_3_5, gic_3_6, gic_3_7, gic_5_0, gic_5_1, gic_5_2, gic_5_3, gic_5_4, gac_5_5, gac_5_6, gac_5_7, gac_5_8, gac_5_9, gac_5_10, gac_5_11, gac_13_0, gac_13_1, gic_13_2, gac_13_3, gac_13_4, gac_13_5, gac_13_6, gac_13_7, gac_13_8, gac_13_9, gic_13_10, gic_13_11, gic_13_12, gic_13_13, gac_14_0, gac_14_1, gac_14_2, gac_14_3, gic_14_4, gic_14_5, gic_15_0, gic_15_1, gic_15_2, gic_15_3, gic_15_4, gac_15_5, gac_15_6, gac_15_7, gac_15_8, gac_15_9, gac_15_10, gac_15_11, gac_23_0, gac_23_1, gac_23_2, gac_23_3, gac_23_4, gac_23_5, gac_23_6, gic_23_7, gic_23_8, gac_31_0, gic_31_1, gic_31_2, gac_193_0, gac_193_1, gac_193_2, gic_193_3, gac_198_0, gac_200_0, gac_200_1, gac_200_2, gac_200_3, gac_200_4, gac_200_5, gac_200_6, gic_200_7, gic_200_8, pic_1_1, pic_1_2, pic_1_3, pic_1_4, pic_1_5, pic_1_6, pic_3_1, pic_3_2, pic_3_3, pic_3_4, pic_3_5, pic_3_6, pic_3_7, pic_5_0, pic_5_1, pic_5_2, pic_5_3, pic_5_4, pic_13_2, pic_13_10, pic_13_11, pic_13_12, pic_13_13, pic_14_4, pic_14_5, pic_15_0, pic_15_1, pic_15_2, pic_15_3, pic_15_4, pic_23_7, pic_23_8, pic_31_1, pic_31_2, pic_193_3, pic_200_7, pic_200_8, gdc_0, gdc_1, gdc_3, gdc_5, gdc_13, gdc_14, gdc_15, gdc_23, gdc_31, gdc_193, gdc_198, gdc_200, ldc_2, stc_2, ldc_4, stc_4, ldc_6, stc_6, ldc_7, stc_7, ldc_8, stc_8, ldc_9, stc_9, ldc_10, stc_10, ldc_11, stc_11, ldc_12, stc_12, ldc_16, stc_16, ldc_17, stc_17, ldc_18, stc_18, ldc_19, stc_19, ldc_20, stc_20, ldc_21, stc_21, ldc_22, stc_22, ldc_24, stc_24, ldc_25, stc_25, ldc_26, stc_26, ldc_27, stc_27, ldc_28, stc_28, ldc_29, stc_29, ldc_30, stc_30, ldc_194, stc_194, ldc_195, stc_195, ldc_196, stc_196, ldc_199, stc_199, ldc_201, stc_201, ldc_202, stc_202, ldc_203, stc_203, ldc_204, stc_204, ldc_205, stc_205, ldc_206, stc_206, ldc_207, stc_207, ldc_208, stc_208, ldc_209, stc_209, ldc_210, stc_210, ldc_211, stc_211, ldc_213, stc_213, ldc_214, stc_214, ldc_215, stc_215, ldc_216, stc_216, ldc_217, stc_217, ldc_218, stc_218, ldc_219, stc_219, ldc_263, stc_263, lda_197, lda_262, lda_212, lda_32, u2_s, u2_a, u2_b, sd0, a1, a5, e6, w, sd1]
        · rw [if_neg (fun h => g2 h.2)] at ea
          rw [ea]
          have w := within_F g2 (by omega) (by omega) (by omega) (KS, m1, q)
          refine ⟨mk_u2 m1 1 3 (nI (1 + 8 * s + 1)), lo, ?_, a2.g.up (by omega), u2_s, fun h => ?_⟩
          · unfold F_X4_next B_X4_next_46
            simp (disch := omega) only [ob_some, reduceIte, lit, le_T, le_F, lt_T, lt_F, eq_T, eq_F, nI_add, gac_0_0, gac_0_1, gac_0_2, gac_0_3, gac_0_4, gac_0_5, gac_0_6, gac_1_0, gic_1_1, gic_1_2, gic_1_3, gic_1_4, gic_1_5, gic_1_6, gac_3_0, gic_3_1, gic_3_2, gic_3_3, gic_3_4, gic_3_5, gic_3_6, gic_3_7, gic_5_0, gic_5_1, gic_5_2, gic_5_3, gic_5_4, gac_5_5, gac_5_6, gac_5_7, gac_5_8, gac_5_9, gac_5_10, gac_5_11, gac_13_0, gac_13_1, gic_13_2, gac_13_3, gac_13_4, gac_13_5, gac_13_6, gac_13_7, gac_13_8, gac_13_9, gic_13_10, gic_13_11, gic_13_12, gic_13_13, gac_14_0, gac_14_1, gac_14_2, gac_14_3, gic_14_4, gic_14_5, gic_15_0, gic_15_1, gic_15_2, gic_15_3, gic_15_4, gac_15_5, gac_15_6, gac_15_7, gac_15_8, gac_15_9, gac_15_10, gac_15_11, gac_23_0, gac_23_1, gac_23_2, gac_23_3, gac_23_4, gac_23_5, gac_23_6, gic_23_7, gic_23_8, gac_31_0, gic_31_1, gic_31_2, gac_193_0, gac_193_1, gac_193_2, gic_193_3, gac_198_0, gac_200_0, gac_200_1, gac_200_2, gac_200_3, gac_200_4, gac_200_5, gac_200_6, gic_200_7, gic_200_8, pic_1_1, pic_1_2, pic_1_3, pic_1_4, pic_1_5, pic_1_6, pic_3_1, pic_3_2, pic_3_3, pic_3_4, pic_3_5, pic_3_6, pic_3_7, pic_5_0, pic_5_1, pic_5_2, pic_5_3, pic_5_4, pic_13_2, pic_13_10, pic_13_11, pic_13_12, pic_13_13, pic_14_4, pic_14_5, pic_15_0, pic_15_1, pic_15_2, pic_15_3, pic_15_4, pic_23_7, pic_23_8, pic_31_1, pic_31_2, pic_193_3, pic_200_7, pic_200_8, gdc_0, gdc_1, gdc_3, gdc_5, gdc_13, gdc_14, gdc_15, gdc_23, gdc_31, gdc_193, gdc_198, gdc_200, ldc_2, stc_2, ldc_4, stc_4, ldc_6, stc_6, ldc_7, stc_7, ldc_8, stc_8, ldc_9, stc_9, ldc_10, stc_10, ldc_11, stc_11, ldc_12, stc_12, ldc_16, stc_16, ldc_17, stc_17, ldc_18, stc_18, ldc_19, stc_19, ldc_20, stc_20, ldc_21, stc_21, ldc_22, stc_22, ldc_24, stc_24, ldc_25, stc_25, ldc_26, stc_26, ldc_27, stc_27, ldc_28, stc_28, ldc_29, stc_29, ldc_30, stc_30, ldc_194, stc_194, ldc_195, stc_195, ldc_196, stc_196, ldc_199, stc_199, ldc_201, stc_201, ldc_202, stc_202, ldc_203, stc_203, ldc_204, stc_204, ldc_205, stc_205, ldc_206, stc_206, ldc_207, stc_207, ldc_208, stc_208, ldc_209, stc_209, ldc_210, stc_210, ldc_211, stc_211, ldc_213, stc_213, ldc_214, stc_214, ldc_215, stc_215, ldc_216, stc_216, ldc_217, stc_217, ldc_218, stc_218, ldc_219, stc_219, ldc_263, stc_263, lda_197, lda_262, lda_212, lda_32, u2_s, u2_a, u2_b, sd0, a1, a5, e6, w, fl1, sdf1]
          · have : 1 + 8 * s + 1 = 0 := h
            omega
      · rw [if_neg (fun h => g h.1)] at ea
        rw [ea]
        have e6 : m1 1 6 = -nI 1 := by rw [a6]; unfold numI; rw [if_neg g]
        have w := withinm1 (lo := lo) (hi := hi) (by omega) (by omega) (KS, m1, q)
        refine ⟨mk_u2 m1 1 3 (nI (1 + 8 * s + 1)), lo, ?_, a2.g.up (by omega), u2_s, fun h => ?_⟩
        · unfold F_X4_next B_X4_next_46
          simp (disch := omega) only [ob_some, reduceIte, lit, le_T, le_F, lt_T, lt_F, eq_T, eq_F, nI_add, gac_0_0, gac_0_1, gac_0_2, gac_0_3, gac_0_4, gac_0_5, gac_0_6, gac_1_0, gic_1_1, gic_1_2, gic_1_3, gic_1_4, gic_1_5, gic_1_6, gac_3_0, gic_3_1, gic_3_2, gic_3_3, gic_3_4, gic_3_5, gic_3_6, gic_3_7, gic_5_0, gic_5_1, gic_5_2, gic_5_3, gic_5_4, gac_5_5, gac_5_6, gac_5_7, gac_5_8, gac_5_9, gac_5_10, gac_5_11, gac_13_0, gac_13_1, gic_13_2, gac_13_3, gac_13_4, gac_13_5, gac_13_6, gac_13_7, gac_13_8, gac_13_9, gic_13_10, gic_13_11, gic_13_12, gic_13_13, gac_14_0, gac_14_1, gac_14_2, gac_14_3, gic_14_4, gic_14_5, gic_15_0, gic_15_1, gic_15_2, gic_15_3, gic_15_4, gac_15_5, gac_15_6, gac_15_7, gac_15_8, gac_15_9, gac_15_10, gac_15_11, gac_23_0, gac_23_1, gac_23_2, gac_23_3, gac_23_4, gac_23_5, gac_23_6, gic_23_7, gic_23_8, gac_31_0, gic_31_1, gic_31_2, gac_193_0, gac_193_1, gac_193_2, gic_193_3, gac_198_0, gac_200_0, gac_200_1, gac_200_2, gac_200_3, gac_200_4, gac_200_5, gac_200_6, gic_200_7, gic_200_8, pic_1_1, pic_1_2, pic_1_3, pic_1_4, pic_1_5, pic_1_6, pic_3_1, pic_3_2, pic_3_3, pic_3_4, pic_3_5, pic_3_6, pic_3_7, pic_5_0, pic_5_1, pic_5_2, pic_5_3, pic_5_4, pic_13_2, pic_13_10, pic_13_11, pic_13_12, pic_13_13, pic_14_4, pic_14_5, pic_15_0, pic_15_1, pic_15_2, pic_15_3, pic_15_4, pic_23_7, pic_23_8, pic_31_1, pic_31_2, pic_193_3, pic_200_7, pic_200_8, gdc_0, gdc_1, gdc_3, gdc_5, gdc_13, gdc_14, gdc_15, gdc_23, gdc_31, gdc_193, gdc_198, gdc_200, ldc_2, stc_2, ldc_4, stc_4, ldc_6, stc_6, ldc_7, stc_7, ldc_8, stc_8, ldc_9, stc_9, ldc_10, stc_10, ldc_11, stc_11, ldc_12, stc_12, ldc_16, stc_16, ldc_17, stc_17, ldc_18, stc_18, ldc_19, stc_19, ldc_20, stc_20, ldc_21, stc_21, ldc_22, stc_22, ldc_24, stc_24, ldc_25, stc_25, ldc_26, stc_26, ldc_27, stc_27, ldc_28, stc_28, ldc_29, stc_29, ldc_30, stc_30, ldc_194, stc_194, ldc_195, stc_195, ldc_196, stc_196, ldc_199, stc_199, ldc_201, stc_201, ldc_202, stc_202, ldc_203, stc_203, ldc_204, stc_204, ldc_205, stc_205, ldc_206, stc_206, ldc_207, stc_207, ldc_208, stc_208, ldc_209, stc_209, ldc_210, stc_210, ldc_211, stc_211, ldc_213, stc_213, ldc_214, stc_214, ldc_215, stc_215, ldc_216, stc_216, ldc_217, stc_217, ldc_218, stc_218, ldc_219, stc_219, ldc_263, stc_263, lda_197, lda_262, lda_212, lda_32, u2_s, u2_a, u2_b, sd0, a1, a5, e6, w, fl1, sdf1]
        · have : 1 + 8 * s + 1 = 0 := h
          omega
    | false =>
      have e1 : sgn1 T s ≠ 256 := fun h => by rw [(sg_256 hb).mp h] at d; cases d
      have e1' := sg_lt (T := T) (s := s) hb
      rw [d, if_neg (by simp)] at ea
      rw [ea]
      refine ⟨mk_u2 m1 1 3 (nI (1 + 8 * s + 0)), lo, ?_, a2.g.up (by omega), u2_s, fun h => ?_⟩
      · unfold F_X4_next B_X4_next_46
        simp (disch := omega) only [ob_some, reduceIte, lit, le_T, le_F, lt_T, lt_F, eq_T, eq_F, nI_add, gac_0_0, gac_0_1, gac_0_2, gac_0_3, gac_0_4, gac_0_5, gac_0_6, gac_1_0, gic_1_1, gic_1_2, gic_1_3, gic_1_4, gic_1_5, gic_1_6, gac_3_0, gic_3_1, gic_3_2, gic_3_3, gic_3_4, gic_3_5, gic_3_6, gic_3_7, gic_5_0, gic_5_1, gic_5_2, gic_5_3, gic_5_4, gac_5_5, gac_5_6, gac_5_7, gac_5_8, gac_5_9, gac_5_10, gac_5_11, gac_13_0, gac_13_1, gic_13_2, gac_13_3, gac_13_4, gac_13_5, gac_13_6, gac_13_7, gac_13_8, gac_13_9, gic_13_10, gic_13_11, gic_13_12, gic_13_13, gac_14_0, gac_14_1, gac_14_2, gac_14_3, gic_14_4, gic_14_5, gic_15_0, gic_15_1, gic_15_2, gic_15_3, gic_15_4, gac_15_5, gac_15_6, gac_15_7, gac_15_8, gac_15_9, gac_15_10, gac_15_11, gac_23_0, gac_23_1, gac_23_2, gac_23_3, gac_23_4, gac_23_5, gac_23_6, gic_23_7, gic_23_8, gac_31_0, gic_31_1, gic_31_2, gac_193_0, gac_193_1, gac_193_2, gic_193_3, gac_198_0, gac_200_0, gac_200_1, gac_200_2, gac_200_3, gac_200_4, gac_200_5, gac_200_6, gic_200_7, gic_200_8, pic_1_1, pic_1_2, pic_1_3, pic_1_4, pic_1_5, pic_1_6, pic_3_1, pic_3_2, pic_3_3, pic_3_4, pic_3_5, pic_3_6, pic_3_7, pic_5_0, pic_5_1, pic_5_2, pic_5_3, pic_5_4, pic_13_2, pic_13_10, pic_13_11, pic_13_12, pic_13_13, pic_14_4, pic_14_5, pic_15_0, pic_15_1, pic_15_2, pic_15_3, pic_15_4, pic_23_7, pic_23_8, pic_31_1, pic_31_2, pic_193_3, pic_200_7, pic_200_8, gdc_0, gdc_1, gdc_3, gdc_5, gdc_13, gdc_14, gdc_15, gdc_23, gdc_31, gdc_193, gdc_198, gdc_200, ldc_2, stc_2, ldc_4, stc_4, ldc_6, stc_6, ldc_7, stc_7, ldc_8, stc_8, ldc_9, stc_9, ldc_10, stc_10, ldc_11, stc_11, ldc_12, stc_12, ldc_16, stc_16, ldc_17, stc_17, ldc_18, stc_18, ldc_19, stc_19, ldc_20, stc_20, ldc_21, stc_21, ldc_22, stc_22, ldc_24, stc_24, ldc_25, stc_25, ldc_26, stc_26, ldc_27, stc_27, ldc_28, stc_28, ldc_29, stc_29, ldc_30, stc_30, ldc_194, stc_194, ldc_195, stc_195, ldc_196, stc_196, ldc_199, stc_199, ldc_201, stc_201, ldc_202, stc_202, ldc_203, stc_203, ldc_204, stc_204, ldc_205, stc_205, ldc_206, stc_206, ldc_207, stc_207, ldc_208, stc_208, ldc_209, stc_209, ldc_210, stc_210, ldc_211, stc_211, ldc_213, stc_213, ldc_214, stc_214, ldc_215, stc_215, ldc_216, stc_216, ldc_217, stc_217, ldc_218, stc_218, ldc_219, stc_219, ldc_263, stc_263, lda_197, lda_262, lda_212, lda_32, u2_s, u2_a, u2_b, sd0, a1, a5, sI_eqc, e1, fl0, sdf0]
      · have : 1 + 8 * s + 0 = 0 := h
        omega
  · have ea : amt T lo hi (fa, a) = (fa, a, lo) := by unfold amt; rw [if_neg c0]
    rw [ea]
    have sd0 := sdC (q := q) h3 hf
    rw [decide_eq_false c0, bI_F] at sd0
    refine ⟨m, lo, ?_, TG.rf, h3, fun h => absurd h c0⟩
    unfold F_X4_next B_X4_next_46
    simp (disch := omega) only [ob_some, reduceIte, lit, le_T, le_F, lt_T, lt_F, eq_T, eq_F, nI_add, gac_0_0, gac_0_1, gac_0_2, gac_0_3, gac_0_4, gac_0_5, gac_0_6, gac_1_0, gic_1_1, gic_1_2, gic_1_3, gic_1_4, gic_1_5, gic_1_6, gac_3_0, gic_3_1, gic_3_2, gic_3_3, gic_3_4, gic_3_5, gic_3_6, gic_3_7, gic_5_0, gic_5_1, gic_5_2, gic_5_3, gic_5_4, gac_5_5, gac_5_6, gac_5_7, gac_5_8, gac_5_9, gac_5_10, gac_5_11, gac_13_0, gac_13_1, gic_13_2, gac_13_3, gac_13_4, gac_13_5, gac_13_6, gac_13_7, gac_13_8, gac_13_9, gic_13_10, gic_13_11, gic_13_12, gic_13_13, gac_14_0, gac_14_1, gac_14_2, gac_14_3, gic_14_4, gic_14_5, gic_15_0, gic_15_1, gic_15_2, gic_15_3, gic_15_4, gac_15_5, gac_15_6, gac_15_7, gac_15_8, gac_15_9, gac_15_10, gac_15_11, gac_23_0, gac_23_1, gac_23_2, gac_23_3, gac_23_4, gac_23_5, gac_23_6, gic_23_7, gic_23_8, gac_31_0, gic_31_1, gic_31_2, gac_193_0, gac_193_1, gac_193_2, gic_193_3, gac_198_0, gac_200_0, gac_200_1, gac_200_2, gac_200_3, gac_200_4, gac_200_5, gac_200_6, gic_200_7, gic_200_8, pic_1_1, pic_1_2, pic_1_3, pic_1_4, pic_1_5, pic_1_6, pic_3_1, pic_3_2, pic_3_3, pic_3_4, pic_3_5, pic_3_6, pic_3_7, pic_5_0, pic_5_1, pic_5_2, pic_5_3, pic_5_4, pic_13_2, pic_13_10, pic_13_11, pic_13_12, pic_13_13, pic_14_4, pic_14_5, pic_15_0, pic_15_1, pic_15_2, pic_15_3, pic_15_4, pic_23_7, pic_23_8, pic_31_1, pic_31_2, pic_193_3, pic_200_7, pic_200_8, gdc_0, gdc_1, gdc_3, gdc_5, gdc_13, gdc_14, gdc_15, gdc_23, gdc_31, gdc_193, gdc_198, gdc_200, ldc_2, stc_2, ldc_4, stc_4, ldc_6, stc_6, ldc_7, stc_7, ldc_8, stc_8, ldc_9, stc_9, ldc_10, stc_10, ldc_11, stc_11, ldc_12, stc_12, ldc_16, stc_16, ldc_17, stc_17, ldc_18, stc_18, ldc_19, stc_19, ldc_20, stc_20, ldc_21, stc_21, ldc_22, stc_22, ldc_24, stc_24, ldc_25, stc_25, ldc_26, stc_26, ldc_27, stc_27, ldc_28, stc_28, ldc_29, stc_29, ldc_30, stc_30, ldc_194, stc_194, ldc_195, stc_195, ldc_196, stc_196, ldc_199, stc_199, ldc_201, stc_201, ldc_202, stc_202, ldc_203, stc_203, ldc_204, stc_204, ldc_205, stc_205, ldc_206, stc_206, ldc_207, stc_207, ldc_208, stc_208, ldc_209, stc_209, ldc_210, stc_210, ldc_211, stc_211, ldc_213, stc_213, ldc_214, stc_214, ldc_215, stc_215, ldc_216, stc_216, ldc_217, stc_217, ldc_218, stc_218, ldc_219, stc_219, ldc_263, stc_263, lda_197, lda_262, lda_212, lda_32, u2_s, u2_a, u2_b, sd0]
/-! the reference -/
def MG (m m1 : Nat → Nat → Int32) : Prop := (∀ j, j ≠ 996 → m1 j = m j) ∧ ∀ k, k ≠ 28 → k ≠ 29 → m1 996 k = m 996 k
set_option maxRecDepth 4000 in
theorem MG.rf {m : Nat → Nat → Int32} : MG m m := ⟨fun _ _ => rfl, fun _ _ _ => rfl⟩
set_option maxRecDepth 4000 in
theorem MG.trans {m m1 m2 : Nat → Nat → Int32} (h : MG m m1) (h2 : MG m1 m2) : MG m m2 := ⟨fun j hj => (h2.1 j hj).trans (h.1 j hj), fun k h3 h4 => (h2.2 k h3 h4).trans (h.2 k h3 h4)⟩
set_option maxRecDepth 4000 in
theorem MG.up {m m1 : Nat → Nat → Int32} {k : Nat} {v : Int32} (h : MG m m1) (h1 : k = 28 ∨ k = 29) : MG m (mk_u2 m1 996 k v) := ⟨fun j hj => (mk_u2_ne hj).trans (h.1 j hj), fun k h3 h4 => (u2_b (by omega)).trans (h.2 k h3 h4)⟩
set_option maxRecDepth 4000 in
theorem TM.mg {T : TT} {m m1 : Nat → Nat → Int32} (h : TM T m) (e : MG m m1) : TM T m1 := h.eq (e.2 _ (by omega) (by omega)) (e.1 _ (by omega))
set_option maxRecDepth 4000 in
theorem amM {T : TT} {m : Nat → Nat → Int32} {q : Nat → Nat → Int64} {lo hi fa a : Nat} (hT : TM T m) (h3 : m 996 29 = nI fa) (hf : fa < 100000) (h2 : m 996 28 = nI a) (ha : a ≤ T.1) (hlo : lo < 100000) (hhi : hi < 100000) : ∃ m1 v p, F_X12_amount 996 (nI lo) (nI hi) (KS, m, q) = some (nI v, (KS, m1, q)) ∧ MG m m1 ∧ m1 996 29 = nI (amt T lo hi (fa, a)).1 ∧ m1 996 28 = nI p ∧ p ≤ T.1 ∧ ((amt T lo hi (fa, a)).1 = 0 → p = (amt T lo hi (fa, a)).2.1 ∧ v = (amt T lo hi (fa, a)).2.2) := by
  have hl := hT.2.1
  have hbl := blkM (q := q) hT h2 (by omega)
  have hsl : sp isB T a ≤ T.1 := sp_le hB ha
  by_cases c0 : fa = 0
  · subst c0
    generalize hs : sp isB T a = s at *
    have ea : amt T lo hi (0, a) = if isD (bt T s) then (if sp isD T s - s ≤ 5 ∧ lo ≤ nval T s (sp isD T s - s) ∧ nval T s (sp isD T s - s) ≤ hi then (0, sp isD T s, nval T s (sp isD T s - s)) else (1 + 8 * s + 1, a, lo)) else (1 + 8 * s + 0, a, lo) := by
      unfold amt
      rw [if_pos rfl, hs]
    have hTs : TM T ((mk_u2 m 996 28 (nI s))) := hT.up (by omega)
    have p28 : (mk_u2 m 996 28 (nI s)) 996 28 = nI s := u2_s
    have p29 : (mk_u2 m 996 28 (nI s)) 996 29 = nI 0 := by rw [u2_b (by omega)]; exact h3
    have win : ∀ (v : Nat) (t : mk_S), F_X12_in (nI v).toInt64 (nI lo).toInt64 (nI hi).toInt64 t = F_X11_within (nI v) (nI lo) (nI hi) t := fun v t => in_eq _ _ _ t
    cases d : isD (bt T s) with
    | true =>
      have hdg := dgM (q := q) hTs p28 d
      rw [d, if_pos rfl] at ea
      by_cases g : sp isD T s - s ≤ 5
      · have hv := nval_cap g hsl
        rw [if_pos g, u2_u2] at hdg
        have e29 : (mk_u2 m 996 28 (nI (sp isD T s))) 996 29 = nI 0 := by rw [u2_b (by omega)]; exact h3
        by_cases g2 : lo ≤ nval T s (sp isD T s - s) ∧ nval T s (sp isD T s - s) ≤ hi
        · rw [if_pos ⟨g, g2⟩] at ea
          rw [ea]
          have w := within_TL g2.1 g2.2 (by omega) (KS, (mk_u2 m 996 28 (nI (sp isD T s))), q)
          refine ⟨(mk_u2 m 996 28 (nI (sp isD T s))), nval T s (sp isD T s - s), sp isD T s, ?_, MG.rf.up (by omega), e29, u2_s, sp_le hD hsl, fun _ => ⟨rfl, rfl⟩⟩
          unfold F_X12_amount B_X12_amount_26
          simp (disch := omega) only [gdm, gam_1, gam_2, gam_3, gam_4, gam_5, gam_6, gam_7, gam_8, gam_9, gam_10, gam_11, gam_12, gam_13, gam_14, gam_15, gam_16, gam_17, gam_18, gam_19, gam_20, gam_21, gam_22, gam_23, gam_24, gam_25, gam_26, gam_37, gam_38, gam_39, gam_40, gam_41, gam_42, gam_43, gam_44, gam_45, gam_46, gam_48, gam_49, gam_56, gam_57, gam_58, gam_59, gam_60, gam_61, gim_27, gim_28, gim_29, gim_30, gim_31, gim_32, gim_33, gim_34, gim_35, gim_36, gim_47, gim_50, gim_51, gim_52, gim_53, gim_54, gim_55, gim_62, gim_63, ob_some, reduceIte, lit, le_T, le_F, lt_T, lt_F, eq_T, eq_F, nI_add, ldm_997, stm_997, ldm_998, stm_998, ldm_999, stm_999, ldm_1000, stm_1000, ldm_1001, stm_1001, ldm_1002, stm_1002, ldm_1003, stm_1003, ldm_1004, stm_1004, ldm_1005, stm_1005, ldm_1006, stm_1006, ldm_1007, stm_1007, ldm_1008, stm_1008, ldm_1009, stm_1009, ldm_1010, stm_1010, ldm_1011, stm_1011, ldm_1012, stm_1012, ldm_1013, stm_1013, ldm_1014, stm_1014, ldm_1015, stm_1015, ldm_1016, stm_1016, ldm_1017, stm_1017, ldm_1018, stm_1018, ldm_1019, stm_1019, ldm_1020, stm_1020, ldm_1021, stm_1021, ldm_1022, stm_1022, u2_s, u2_a, u2_b, not_true, not_false_iff, hbl, h3, hdg, win, w]
        · rw [if_neg (fun h => g2 h.2)] at ea
          rw [ea]
          have w := within_F g2 (by omega) (by omega) (by omega) (KS, (mk_u2 m 996 28 (nI (sp isD T s))), q)
          have fl := flM (q := q) (c := 1) (p := s) e29 (by omega) (by omega)
          rw [if_pos rfl] at fl
          refine ⟨mk_u2 ((mk_u2 m 996 28 (nI (sp isD T s)))) 996 29 (nI (1 + 8 * s + 1)), nval T s (sp isD T s - s), sp isD T s, ?_, (MG.rf.up (by omega)).up (by omega), u2_s, by rw [u2_b (by omega), u2_s], sp_le hD hsl, fun h => ?_⟩
          · unfold F_X12_amount B_X12_amount_26
            simp (disch := omega) only [gdm, gam_1, gam_2, gam_3, gam_4, gam_5, gam_6, gam_7, gam_8, gam_9, gam_10, gam_11, gam_12, gam_13, gam_14, gam_15, gam_16, gam_17, gam_18, gam_19, gam_20, gam_21, gam_22, gam_23, gam_24, gam_25, gam_26, gam_37, gam_38, gam_39, gam_40, gam_41, gam_42, gam_43, gam_44, gam_45, gam_46, gam_48, gam_49, gam_56, gam_57, gam_58, gam_59, gam_60, gam_61, gim_27, gim_28, gim_29, gim_30, gim_31, gim_32, gim_33, gim_34, gim_35, gim_36, gim_47, gim_50, gim_51, gim_52, gim_53, gim_54, gim_55, gim_62, gim_63, ob_some, reduceIte, lit, le_T, le_F, lt_T, lt_F, eq_T, eq_F, nI_add, ldm_997, stm_997, ldm_998, stm_998, ldm_999, stm_999, ldm_1000, stm_1000, ldm_1001, stm_1001, ldm_1002, stm_1002, ldm_1003, stm_1003, ldm_1004, stm_1004, ldm_1005, stm_1005, ldm_1006, stm_1006, ldm_1007, stm_1007, ldm_1008, stm_1008, ldm_1009, stm_1009, ldm_1010, stm_1010, ldm_1011, stm_1011, ldm_1012, stm_1012, ldm_1013, stm_1013, ldm_1014, stm_1014, ldm_1015, stm_1015, ldm_1016, stm_1016, ldm_1017, stm_1017, ldm_1018, stm_1018, ldm_1019, stm_1019, ldm_1020, stm_1020, ldm_1021, stm_1021, ldm_1022, stm_1022, u2_s, u2_a, u2_b, not_true, not_false_iff, hbl, h3, hdg, win, w, fl]
          · have : 1 + 8 * s + 1 = 0 := h
            omega
      · rw [if_neg (fun h => g h.1)] at ea
        rw [ea]
        have e29 : (mk_u2 m 996 28 (nI (sp isD T s))) 996 29 = nI 0 := by rw [u2_b (by omega)]; exact h3
        have fl := flM (q := q) (c := 1) (p := s) e29 (by omega) (by omega)
        rw [if_pos rfl] at fl
        rw [if_neg g, u2_u2, fl, ob_some] at hdg
        refine ⟨mk_u2 ((mk_u2 m 996 28 (nI (sp isD T s)))) 996 29 (nI (1 + 8 * s + 1)), nval T s 5, sp isD T s, ?_, (MG.rf.up (by omega)).up (by omega), u2_s, by rw [u2_b (by omega), u2_s], sp_le hD hsl, fun h => ?_⟩
        · unfold F_X12_amount B_X12_amount_26
          simp (disch := omega) only [gdm, gam_1, gam_2, gam_3, gam_4, gam_5, gam_6, gam_7, gam_8, gam_9, gam_10, gam_11, gam_12, gam_13, gam_14, gam_15, gam_16, gam_17, gam_18, gam_19, gam_20, gam_21, gam_22, gam_23, gam_24, gam_25, gam_26, gam_37, gam_38, gam_39, gam_40, gam_41, gam_42, gam_43, gam_44, gam_45, gam_46, gam_48, gam_49, gam_56, gam_57, gam_58, gam_59, gam_60, gam_61, gim_27, gim_28, gim_29, gim_30, gim_31, gim_32, gim_33, gim_34, gim_35, gim_36, gim_47, gim_50, gim_51, gim_52, gim_53, gim_54, gim_55, gim_62, gim_63, ob_some, reduceIte, lit, le_T, le_F, lt_T, lt_F, eq_T, eq_F, nI_add, ldm_997, stm_997, ldm_998, stm_998, ldm_999, stm_999, ldm_1000, stm_1000, ldm_1001, stm_1001, ldm_1002, stm_1002, ldm_1003, stm_1003, ldm_1004, stm_1004, ldm_1005, stm_1005, ldm_1006, stm_1006, ldm_1007, stm_1007, ldm_1008, stm_1008, ldm_1009, stm_1009, ldm_1010, stm_1010, ldm_1011, stm_1011, ldm_1012, stm_1012, ldm_1013, stm_1013, ldm_1014, stm_1014, ldm_1015, stm_1015, ldm_1016, stm_1016, ldm_1017, stm_1017, ldm_1018, stm_1018, ldm_1019, stm_1019, ldm_1020, stm_1020, ldm_1021, stm_1021, ldm_1022, stm_1022, u2_s, u2_a, u2_b, not_true, not_false_iff, hbl, h3, hdg]
        · have : 1 + 8 * s + 1 = 0 := h
          omega
    | false =>
      have hdg := dgN (q := q) hTs p28 (by omega) d
      have fl := flM (q := q) (c := 0) (p := s) p29 (by omega) (by omega)
      rw [if_pos rfl] at fl
      rw [fl, ob_some] at hdg
      rw [d, if_neg (by simp)] at ea
      rw [ea]
      refine ⟨mk_u2 ((mk_u2 m 996 28 (nI s))) 996 29 (nI (1 + 8 * s + 0)), 0, s, ?_, (MG.rf.up (by omega)).up (by omega), u2_s, by rw [u2_b (by omega), u2_s], hsl, fun h => ?_⟩
      · unfold F_X12_amount B_X12_amount_26
        simp (disch := omega) only [gdm, gam_1, gam_2, gam_3, gam_4, gam_5, gam_6, gam_7, gam_8, gam_9, gam_10, gam_11, gam_12, gam_13, gam_14, gam_15, gam_16, gam_17, gam_18, gam_19, gam_20, gam_21, gam_22, gam_23, gam_24, gam_25, gam_26, gam_37, gam_38, gam_39, gam_40, gam_41, gam_42, gam_43, gam_44, gam_45, gam_46, gam_48, gam_49, gam_56, gam_57, gam_58, gam_59, gam_60, gam_61, gim_27, gim_28, gim_29, gim_30, gim_31, gim_32, gim_33, gim_34, gim_35, gim_36, gim_47, gim_50, gim_51, gim_52, gim_53, gim_54, gim_55, gim_62, gim_63, ob_some, reduceIte, lit, le_T, le_F, lt_T, lt_F, eq_T, eq_F, nI_add, ldm_997, stm_997, ldm_998, stm_998, ldm_999, stm_999, ldm_1000, stm_1000, ldm_1001, stm_1001, ldm_1002, stm_1002, ldm_1003, stm_1003, ldm_1004, stm_1004, ldm_1005, stm_1005, ldm_1006, stm_1006, ldm_1007, stm_1007, ldm_1008, stm_1008, ldm_1009, stm_1009, ldm_1010, stm_1010, ldm_1011, stm_1011, ldm_1012, stm_1012, ldm_1013, stm_1013, ldm_1014, stm_1014, ldm_1015, stm_1015, ldm_1016, stm_1016, ldm_1017, stm_1017, ldm_1018, stm_1018, ldm_1019, stm_1019, ldm_1020, stm_1020, ldm_1021, stm_1021, ldm_1022, stm_1022, u2_s, u2_a, u2_b, not_true, not_false_iff, hbl, h3, hdg]
      · have : 1 + 8 * s + 0 = 0 := h
        omega
  · have ea : amt T lo hi (fa, a) = (fa, a, lo) := by unfold amt; rw [if_neg c0]
    rw [ea]
    refine ⟨(mk_u2 m 996 28 (nI (sp isB T a))), 0, sp isB T a, ?_, MG.rf.up (by omega), by rw [u2_b (by omega)]; exact h3, u2_s, hsl, fun h => absurd h c0⟩
    unfold F_X12_amount B_X12_amount_26
    simp (disch := omega) only [gdm, gam_1, gam_2, gam_3, gam_4, gam_5, gam_6, gam_7, gam_8, gam_9, gam_10, gam_11, gam_12, gam_13, gam_14, gam_15, gam_16, gam_17, gam_18, gam_19, gam_20, gam_21, gam_22, gam_23, gam_24, gam_25, gam_26, gam_37, gam_38, gam_39, gam_40, gam_41, gam_42, gam_43, gam_44, gam_45, gam_46, gam_48, gam_49, gam_56, gam_57, gam_58, gam_59, gam_60, gam_61, gim_27, gim_28, gim_29, gim_30, gim_31, gim_32, gim_33, gim_34, gim_35, gim_36, gim_47, gim_50, gim_51, gim_52, gim_53, gim_54, gim_55, gim_62, gim_63, ob_some, reduceIte, lit, le_T, le_F, lt_T, lt_F, eq_T, eq_F, nI_add, ldm_997, stm_997, ldm_998, stm_998, ldm_999, stm_999, ldm_1000, stm_1000, ldm_1001, stm_1001, ldm_1002, stm_1002, ldm_1003, stm_1003, ldm_1004, stm_1004, ldm_1005, stm_1005, ldm_1006, stm_1006, ldm_1007, stm_1007, ldm_1008, stm_1008, ldm_1009, stm_1009, ldm_1010, stm_1010, ldm_1011, stm_1011, ldm_1012, stm_1012, ldm_1013, stm_1013, ldm_1014, stm_1014, ldm_1015, stm_1015, ldm_1016, stm_1016, ldm_1017, stm_1017, ldm_1018, stm_1018, ldm_1019, stm_1019, ldm_1020, stm_1020, ldm_1021, stm_1021, ldm_1022, stm_1022, u2_s, u2_a, u2_b, not_true, not_false_iff, hbl, h3]
