/-! RULES told: the whole text, the class -/
set_option maxRecDepth 4000 in
/-- where the place after a step is -/
theorem rst_at {T : TT} {a nx pt : Nat} {st : List Nat} {it : Nat} {cl : RT} {c1 cd : List (Nat × Nat)} (h4 : nx < 4) (z0 : (rst T (0, a, nx, pt, st, it, cl, c1, cd)).1 = 0) : (rst T (0, a, nx, pt, st, it, cl, c1, cd)).2.1 = end1 T (sp isB T a) := by
  have hf : ∀ c, (ft (1 + 8 * sp isB T a + c)).1 ≠ 0 := fun c h => by
    have : 1 + 8 * sp isB T a + c = 0 := h
    omega
  have hV : ∀ pt, (sV T (sp isB T a) pt st it cl c1 cd).1 = 0 → (sV T (sp isB T a) pt st it cl c1 cd).2.1 = end1 T (sp isB T a) := fun pt h => by
    unfold sV at h ⊢
    split at h
    · split at h
      · exact absurd h (hf _)
      · rename_i c1 c2
        rw [if_pos c1, if_neg c2]
        split at h
        · rename_i c3
          rw [if_pos c3]
        · exact absurd h (hf _)
    · exact absurd h (hf _)
  rcases (show nx = 0 ∨ nx = 1 ∨ nx = 2 ∨ nx = 3 by omega) with z | z | z | z <;> subst z
  · have e : rst T (0, a, 0, pt, st, it, cl, c1, cd) = sC T (sp isB T a) st it cl := rfl
    rw [e] at z0 ⊢
    unfold sC at z0 ⊢
    split at z0
    · rename_i c
      rw [if_pos c]
      split at z0
      · rename_i c2
        rw [if_pos c2]
      · exact absurd z0 (hf _)
    · exact absurd z0 (hf _)
  · exact hV pt z0
  · have e : rst T (0, a, 2, pt, st, it, cl, c1, cd) = sF T (sp isB T a) pt st it cl c1 cd := rfl
    rw [e] at z0 ⊢
    unfold sF at z0 ⊢
    split at z0
    · rename_i c
      rw [if_pos c]
      split at z0
      · rename_i c2
        rw [if_pos c2]
      · exact absurd z0 (hf _)
    · rename_i c
      rw [if_neg c]
      exact hV 1 z0
  · have e : rst T (0, a, 3, pt, st, it, cl, c1, cd) = sB T (sp isB T a) pt st it cl c1 cd := rfl
    rw [e] at z0 ⊢
    unfold sB at z0 ⊢
    split at z0
    · rename_i c
      rw [if_pos c]
    rename_i n1
    rw [if_neg n1]
    split at z0
    · rename_i c
      rw [if_pos c]
      split at z0
      · rename_i c2
        rw [if_pos c2]
      · exact absurd z0 (hf _)
    rename_i n2
    rw [if_neg n2]
    split at z0
    · rename_i c
      rw [if_pos c]
    rename_i n3
    rw [if_neg n3]
    split at z0
    · rename_i c
      rw [if_pos c]
      split at z0
      · exact absurd z0 (hf _)
      · rename_i c2
        rw [if_neg c2]
    rename_i n4
    rw [if_neg n4]
    split at z0
    · rename_i c
      rw [if_pos c]
    rename_i n5
    rw [if_neg n5]
    unfold sE at z0 ⊢
    split at z0
    · rename_i c
      rw [if_pos c]
      split at z0
      · rename_i c2
        rw [if_pos c2]
      · exact absurd z0 (hf _)
    · exact absurd z0 (hf _)
set_option maxRecDepth 4000 in
theorem rdL {T : TT} {b : Nat} {q : Nat → Nat → Int64} (hb : b ∈ RB) (hB0 : ∀ i, bt T i < 256 ∨ bt T i = 1000) (hT4 : T.1 ≤ 400) (hne : ∀ {i}, ¬ T.1 ≤ i → T.2 i ≠ 1000) : ∀ (d i f : Nat) (m : Nat → Nat → Int32) (x : RG), i + d = 401 → d < f → CR T b m x → Gv T x → (x.1 = 0 → x.2.2.1 ≠ 4 → i ≤ x.2.1 ∧ i ≤ 400) → ∃ m1 y, B_X6_read_30 f 3 1 b (nI i) (KS, m, q) = some (nI y.1, (KS, m1, q)) ∧ FrC b m m1 ∧ CR T b m1 y ∧ (∃ n, itr T n x = y) ∧ (y.1 ≠ 0 ∨ y.2.2.1 = 4) := by
  intro d
  induction d with
  | zero =>
    intro i f m x hi hf h hg hx
    obtain ⟨f, rfl⟩ : ∃ g, f = g + 1 := ⟨f - 1, by omega⟩
    obtain ⟨fa, a, nx, pt, st, it, cl, c1, cd⟩ := x
    refine ⟨m, (fa, a, nx, pt, st, it, cl, c1, cd), ?_, FrC.rf, h, ⟨0, rfl⟩, ?_⟩
    · have h3 : m 1 3 = nI fa := h.2.1
      rw [B_X6_read_30]
      simp (disch := omega) only [ob_some, reduceIte, lit, le_T, le_F, lt_T, lt_F, eq_T, eq_F, nI_add, gac_0_0, gac_0_1, gac_0_2, gac_0_3, gac_0_4, gac_0_5, gac_0_6, gac_1_0, gic_1_1, gic_1_2, gic_1_3, gic_1_4, gic_1_5, gic_1_6, gac_3_0, gic_3_1, gic_3_2, gic_3_3, gic_3_4, gic_3_5, gic_3_6, gic_3_7, gic_5_0, gic_5_1, gic_5_2, gic_5_3, gic_5_4, gac_5_5, gac_5_6, gac_5_7, gac_5_8, gac_5_9, gac_5_10, gac_5_11, gac_13_0, gac_13_1, gic_13_2, gac_13_3, gac_13_4, gac_13_5, gac_13_6, gac_13_7, gac_13_8, gac_13_9, gic_13_10, gic_13_11, gic_13_12, gic_13_13, gac_14_0, gac_14_1, gac_14_2, gac_14_3, gic_14_4, gic_14_5, gic_15_0, gic_15_1, gic_15_2, gic_15_3, gic_15_4, gac_15_5, gac_15_6, gac_15_7, gac_15_8, gac_15_9, gac_15_10, gac_15_11, gac_23_0, gac_23_1, gac_23_2, gac_23_3, gac_23_4, gac_23_5, gac_23_6, gic_23_7, gic_23_8, gac_31_0, gic_31_1, gic_31_2, gac_193_0, gac_193_1, gac_193_2, gic_193_3, gac_198_0, gac_200_0, gac_200_1, gac_200_2, gac_200_3, gac_200_4, gac_200_5, gac_200_6, gic_200_7, gic_200_8, pic_1_1, pic_1_2, pic_1_3, pic_1_4, pic_1_5, pic_1_6, pic_3_1, pic_3_2, pic_3_3, pic_3_4, pic_3_5, pic_3_6, pic_3_7, pic_5_0, pic_5_1, pic_5_2, pic_5_3, pic_5_4, pic_13_2, pic_13_10, pic_13_11, pic_13_12, pic_13_13, pic_14_4, pic_14_5, pic_15_0, pic_15_1, pic_15_2, pic_15_3, pic_15_4, pic_23_7, pic_23_8, pic_31_1, pic_31_2, pic_193_3, pic_200_7, pic_200_8, gdc_0, gdc_1, gdc_3, gdc_5, gdc_13, gdc_14, gdc_15, gdc_23, gdc_31, gdc_193, gdc_198, gdc_200, ldc_2, stc_2, ldc_4, stc_4, ldc_6, stc_6, ldc_7, stc_7, ldc_8, stc_8, ldc_9, stc_9, ldc_10, stc_10, ldc_11, stc_11, ldc_12, stc_12, ldc_16, stc_16, ldc_17, stc_17, ldc_18, stc_18, ldc_19, stc_19, ldc_20, stc_20, ldc_21, stc_21, ldc_22, stc_22, ldc_24, stc_24, ldc_25, stc_25, ldc_26, stc_26, ldc_27, stc_27, ldc_28, stc_28, ldc_29, stc_29, ldc_30, stc_30, ldc_194, stc_194, ldc_195, stc_195, ldc_196, stc_196, ldc_199, stc_199, ldc_201, stc_201, ldc_202, stc_202, ldc_203, stc_203, ldc_204, stc_204, ldc_205, stc_205, ldc_206, stc_206, ldc_207, stc_207, ldc_208, stc_208, ldc_209, stc_209, ldc_210, stc_210, ldc_211, stc_211, ldc_213, stc_213, ldc_214, stc_214, ldc_215, stc_215, ldc_216, stc_216, ldc_217, stc_217, ldc_218, stc_218, ldc_219, stc_219, ldc_263, stc_263, lda_197, lda_262, lda_212, lda_32, u2_s, u2_a, u2_b, h3]
    · by_cases c : fa = 0
      · right
        apply Classical.byContradiction
        intro c2
        have := (hx c c2).2
        omega
      · exact .inl c
  | succ d ih =>
    intro i f m x hi hf h hg hx
    obtain ⟨f, rfl⟩ : ∃ g, f = g + 1 := ⟨f - 1, by omega⟩
    by_cases ht : x.1 ≠ 0 ∨ x.2.2.1 = 4
    · refine ⟨m, x, ?_, FrC.rf, h, ⟨0, rfl⟩, ht⟩
      obtain ⟨fa, a, nx, pt, st, it, cl, c1, cd⟩ := x
      have h3 : m 1 3 = nI fa := h.2.1
      have sd := sdC (q := q) h3 hg.1
      rw [B_X6_read_30]
      by_cases c : fa = 0
      · have hn : nx = 4 := by
          rcases ht with z | z
          · exact absurd c z
          · exact z
        have r4 : m 3 4 = nI nx := (h.2.2 c).2.1
        rw [hn] at r4
        rw [decide_eq_true c, bI_T] at sd
        simp (disch := omega) only [ob_some, reduceIte, lit, le_T, le_F, lt_T, lt_F, eq_T, eq_F, nI_add, gac_0_0, gac_0_1, gac_0_2, gac_0_3, gac_0_4, gac_0_5, gac_0_6, gac_1_0, gic_1_1, gic_1_2, gic_1_3, gic_1_4, gic_1_5, gic_1_6, gac_3_0, gic_3_1, gic_3_2, gic_3_3, gic_3_4, gic_3_5, gic_3_6, gic_3_7, gic_5_0, gic_5_1, gic_5_2, gic_5_3, gic_5_4, gac_5_5, gac_5_6, gac_5_7, gac_5_8, gac_5_9, gac_5_10, gac_5_11, gac_13_0, gac_13_1, gic_13_2, gac_13_3, gac_13_4, gac_13_5, gac_13_6, gac_13_7, gac_13_8, gac_13_9, gic_13_10, gic_13_11, gic_13_12, gic_13_13, gac_14_0, gac_14_1, gac_14_2, gac_14_3, gic_14_4, gic_14_5, gic_15_0, gic_15_1, gic_15_2, gic_15_3, gic_15_4, gac_15_5, gac_15_6, gac_15_7, gac_15_8, gac_15_9, gac_15_10, gac_15_11, gac_23_0, gac_23_1, gac_23_2, gac_23_3, gac_23_4, gac_23_5, gac_23_6, gic_23_7, gic_23_8, gac_31_0, gic_31_1, gic_31_2, gac_193_0, gac_193_1, gac_193_2, gic_193_3, gac_198_0, gac_200_0, gac_200_1, gac_200_2, gac_200_3, gac_200_4, gac_200_5, gac_200_6, gic_200_7, gic_200_8, pic_1_1, pic_1_2, pic_1_3, pic_1_4, pic_1_5, pic_1_6, pic_3_1, pic_3_2, pic_3_3, pic_3_4, pic_3_5, pic_3_6, pic_3_7, pic_5_0, pic_5_1, pic_5_2, pic_5_3, pic_5_4, pic_13_2, pic_13_10, pic_13_11, pic_13_12, pic_13_13, pic_14_4, pic_14_5, pic_15_0, pic_15_1, pic_15_2, pic_15_3, pic_15_4, pic_23_7, pic_23_8, pic_31_1, pic_31_2, pic_193_3, pic_200_7, pic_200_8, gdc_0, gdc_1, gdc_3, gdc_5, gdc_13, gdc_14, gdc_15, gdc_23, gdc_31, gdc_193, gdc_198, gdc_200, ldc_2, stc_2, ldc_4, stc_4, ldc_6, stc_6, ldc_7, stc_7, ldc_8, stc_8, ldc_9, stc_9, ldc_10, stc_10, ldc_11, stc_11, ldc_12, stc_12, ldc_16, stc_16, ldc_17, stc_17, ldc_18, stc_18, ldc_19, stc_19, ldc_20, stc_20, ldc_21, stc_21, ldc_22, stc_22, ldc_24, stc_24, ldc_25, stc_25, ldc_26, stc_26, ldc_27, stc_27, ldc_28, stc_28, ldc_29, stc_29, ldc_30, stc_30, ldc_194, stc_194, ldc_195, stc_195, ldc_196, stc_196, ldc_199, stc_199, ldc_201, stc_201, ldc_202, stc_202, ldc_203, stc_203, ldc_204, stc_204, ldc_205, stc_205, ldc_206, stc_206, ldc_207, stc_207, ldc_208, stc_208, ldc_209, stc_209, ldc_210, stc_210, ldc_211, stc_211, ldc_213, stc_213, ldc_214, stc_214, ldc_215, stc_215, ldc_216, stc_216, ldc_217, stc_217, ldc_218, stc_218, ldc_219, stc_219, ldc_263, stc_263, lda_197, lda_262, lda_212, lda_32, u2_s, u2_a, u2_b, sd, r4, h3]
      · rw [decide_eq_false c, bI_F] at sd
        simp (disch := omega) only [ob_some, reduceIte, lit, le_T, le_F, lt_T, lt_F, eq_T, eq_F, nI_add, gac_0_0, gac_0_1, gac_0_2, gac_0_3, gac_0_4, gac_0_5, gac_0_6, gac_1_0, gic_1_1, gic_1_2, gic_1_3, gic_1_4, gic_1_5, gic_1_6, gac_3_0, gic_3_1, gic_3_2, gic_3_3, gic_3_4, gic_3_5, gic_3_6, gic_3_7, gic_5_0, gic_5_1, gic_5_2, gic_5_3, gic_5_4, gac_5_5, gac_5_6, gac_5_7, gac_5_8, gac_5_9, gac_5_10, gac_5_11, gac_13_0, gac_13_1, gic_13_2, gac_13_3, gac_13_4, gac_13_5, gac_13_6, gac_13_7, gac_13_8, gac_13_9, gic_13_10, gic_13_11, gic_13_12, gic_13_13, gac_14_0, gac_14_1, gac_14_2, gac_14_3, gic_14_4, gic_14_5, gic_15_0, gic_15_1, gic_15_2, gic_15_3, gic_15_4, gac_15_5, gac_15_6, gac_15_7, gac_15_8, gac_15_9, gac_15_10, gac_15_11, gac_23_0, gac_23_1, gac_23_2, gac_23_3, gac_23_4, gac_23_5, gac_23_6, gic_23_7, gic_23_8, gac_31_0, gic_31_1, gic_31_2, gac_193_0, gac_193_1, gac_193_2, gic_193_3, gac_198_0, gac_200_0, gac_200_1, gac_200_2, gac_200_3, gac_200_4, gac_200_5, gac_200_6, gic_200_7, gic_200_8, pic_1_1, pic_1_2, pic_1_3, pic_1_4, pic_1_5, pic_1_6, pic_3_1, pic_3_2, pic_3_3, pic_3_4, pic_3_5, pic_3_6, pic_3_7, pic_5_0, pic_5_1, pic_5_2, pic_5_3, pic_5_4, pic_13_2, pic_13_10, pic_13_11, pic_13_12, pic_13_13, pic_14_4, pic_14_5, pic_15_0, pic_15_1, pic_15_2, pic_15_3, pic_15_4, pic_23_7, pic_23_8, pic_31_1, pic_31_2, pic_193_3, pic_200_7, pic_200_8, gdc_0, gdc_1, gdc_3, gdc_5, gdc_13, gdc_14, gdc_15, gdc_23, gdc_31, gdc_193, gdc_198, gdc_200, ldc_2, stc_2, ldc_4, stc_4, ldc_6, stc_6, ldc_7, stc_7, ldc_8, stc_8, ldc_9, stc_9, ldc_10, stc_10, ldc_11, stc_11, ldc_12, stc_12, ldc_16, stc_16, ldc_17, stc_17, ldc_18, stc_18, ldc_19, stc_19, ldc_20, stc_20, ldc_21, stc_21, ldc_22, stc_22, ldc_24, stc_24, ldc_25, stc_25, ldc_26, stc_26, ldc_27, stc_27, ldc_28, stc_28, ldc_29, stc_29, ldc_30, stc_30, ldc_194, stc_194, ldc_195, stc_195, ldc_196, stc_196, ldc_199, stc_199, ldc_201, stc_201, ldc_202, stc_202, ldc_203, stc_203, ldc_204, stc_204, ldc_205, stc_205, ldc_206, stc_206, ldc_207, stc_207, ldc_208, stc_208, ldc_209, stc_209, ldc_210, stc_210, ldc_211, stc_211, ldc_213, stc_213, ldc_214, stc_214, ldc_215, stc_215, ldc_216, stc_216, ldc_217, stc_217, ldc_218, stc_218, ldc_219, stc_219, ldc_263, stc_263, lda_197, lda_262, lda_212, lda_32, u2_s, u2_a, u2_b, sd, h3]
    · have h0 : x.1 = 0 := Classical.byContradiction (fun z => ht (.inl z))
      have h4 : x.2.2.1 ≠ 4 := fun z => ht (.inr z)
      obtain ⟨hx1, hx2⟩ := hx h0 h4
      obtain ⟨ma, m2, a1, a2, a3, a4⟩ := stC (q := q) hb h hg h0 h4
      have hg2 := hg.rst hT4 hB0
      obtain ⟨m1, y, b1, b2, b3, ⟨n, b4⟩, b5⟩ := ih (i + 1) f m2 (rst T x) (by omega) (by omega) a4 hg2 (fun z0 z4 => by
        obtain ⟨fa, a, nx, pt, st, it, cl, c1, cd⟩ := x
        have h0 : fa = 0 := h0
        have h4 : nx ≠ 4 := h4
        have hx1 : i ≤ a := hx1
        subst h0
        have g8 := (hg.2 rfl).2.2.2.2.2.2.2.1
        have g1 := (hg.2 rfl).1
        by_cases c : T.1 ≤ a
        · rcases rst_end (pt := pt) (st := st) (it := it) (cl := cl) (c1 := c1) (cd := cd) c hB0 g8 with z | z
          · exact absurd z0 z
          · exact absurd z z4
        · have hat := rst_at (by omega) z0
          have hs := sp_le (P := isB) (T := T) hB g1
          have hs2 := sp_ge (P := isB) (T := T) hB a
          obtain ⟨e1, e2, e3⟩ := end1_le hs
          have hlt : a < end1 T (sp isB T a) := by
            by_cases c2 : bt T (sp isB T a) = 1000
            · have : T.1 ≤ sp isB T a := by
                apply Classical.byContradiction
                intro c3
                exact absurd c2 (by rw [bt_in (by omega)]; exact hne c3)
              omega
            · have := e3 c2; omega
          rw [hat]
          omega)
      refine ⟨m1, y, ?_, a3.trans b2, b3, ⟨n + 1, b4⟩, b5⟩
      obtain ⟨fa, a, nx, pt, st, it, cl, c1, cd⟩ := x
      have h0 : fa = 0 := h0
      have h4 : nx ≠ 4 := h4
      have g8 : nx ≤ 4 := (hg.2 h0).2.2.2.2.2.2.2.1
      have h3 : m 1 3 = nI fa := h.2.1
      have sd := sdC (q := q) h3 hg.1
      rw [decide_eq_true h0, bI_T] at sd
      have r4 : m 3 4 = nI nx := (h.2.2 h0).2.1
      rw [← b1, B_X6_read_30]
      simp (disch := omega) only [ob_some, reduceIte, lit, le_T, le_F, lt_T, lt_F, eq_T, eq_F, nI_add, gac_0_0, gac_0_1, gac_0_2, gac_0_3, gac_0_4, gac_0_5, gac_0_6, gac_1_0, gic_1_1, gic_1_2, gic_1_3, gic_1_4, gic_1_5, gic_1_6, gac_3_0, gic_3_1, gic_3_2, gic_3_3, gic_3_4, gic_3_5, gic_3_6, gic_3_7, gic_5_0, gic_5_1, gic_5_2, gic_5_3, gic_5_4, gac_5_5, gac_5_6, gac_5_7, gac_5_8, gac_5_9, gac_5_10, gac_5_11, gac_13_0, gac_13_1, gic_13_2, gac_13_3, gac_13_4, gac_13_5, gac_13_6, gac_13_7, gac_13_8, gac_13_9, gic_13_10, gic_13_11, gic_13_12, gic_13_13, gac_14_0, gac_14_1, gac_14_2, gac_14_3, gic_14_4, gic_14_5, gic_15_0, gic_15_1, gic_15_2, gic_15_3, gic_15_4, gac_15_5, gac_15_6, gac_15_7, gac_15_8, gac_15_9, gac_15_10, gac_15_11, gac_23_0, gac_23_1, gac_23_2, gac_23_3, gac_23_4, gac_23_5, gac_23_6, gic_23_7, gic_23_8, gac_31_0, gic_31_1, gic_31_2, gac_193_0, gac_193_1, gac_193_2, gic_193_3, gac_198_0, gac_200_0, gac_200_1, gac_200_2, gac_200_3, gac_200_4, gac_200_5, gac_200_6, gic_200_7, gic_200_8, pic_1_1, pic_1_2, pic_1_3, pic_1_4, pic_1_5, pic_1_6, pic_3_1, pic_3_2, pic_3_3, pic_3_4, pic_3_5, pic_3_6, pic_3_7, pic_5_0, pic_5_1, pic_5_2, pic_5_3, pic_5_4, pic_13_2, pic_13_10, pic_13_11, pic_13_12, pic_13_13, pic_14_4, pic_14_5, pic_15_0, pic_15_1, pic_15_2, pic_15_3, pic_15_4, pic_23_7, pic_23_8, pic_31_1, pic_31_2, pic_193_3, pic_200_7, pic_200_8, gdc_0, gdc_1, gdc_3, gdc_5, gdc_13, gdc_14, gdc_15, gdc_23, gdc_31, gdc_193, gdc_198, gdc_200, ldc_2, stc_2, ldc_4, stc_4, ldc_6, stc_6, ldc_7, stc_7, ldc_8, stc_8, ldc_9, stc_9, ldc_10, stc_10, ldc_11, stc_11, ldc_12, stc_12, ldc_16, stc_16, ldc_17, stc_17, ldc_18, stc_18, ldc_19, stc_19, ldc_20, stc_20, ldc_21, stc_21, ldc_22, stc_22, ldc_24, stc_24, ldc_25, stc_25, ldc_26, stc_26, ldc_27, stc_27, ldc_28, stc_28, ldc_29, stc_29, ldc_30, stc_30, ldc_194, stc_194, ldc_195, stc_195, ldc_196, stc_196, ldc_199, stc_199, ldc_201, stc_201, ldc_202, stc_202, ldc_203, stc_203, ldc_204, stc_204, ldc_205, stc_205, ldc_206, stc_206, ldc_207, stc_207, ldc_208, stc_208, ldc_209, stc_209, ldc_210, stc_210, ldc_211, stc_211, ldc_213, stc_213, ldc_214, stc_214, ldc_215, stc_215, ldc_216, stc_216, ldc_217, stc_217, ldc_218, stc_218, ldc_219, stc_219, ldc_263, stc_263, lda_197, lda_262, lda_212, lda_32, u2_s, u2_a, u2_b, sd, r4, a1, a2]
def x0 : RG := (0, 0, 0, 0, [], 0, [], [], [])
set_option maxRecDepth 4000 in
theorem Gv.x0 (T : TT) : Gv T x0 := ⟨by omega, fun _ => ⟨by omega, Nat.le_refl _, by show 0 ≤ 1; omega, by omega, by show 0 ≤ 12; omega, fun h => by omega, fun s h => by simp at h, by omega, by omega, fun _ => ⟨rfl, rfl, rfl⟩, fun _ => rfl⟩⟩
set_option maxRecDepth 4000 in
/-- the class reads a RULE -/
theorem ruC {T : TT} {b : Nat} {m : Nat → Nat → Int32} {q : Nat → Nat → Int64} (hb : b ∈ RB) (hT : TC T m) : ∃ m1 y, F_X6_read 3 1 b (KS, m, q) = some (nI y.1, (KS, m1, q)) ∧ FrC b m m1 ∧ CR T b m1 y ∧ (∃ n, itr T n x0 = y) ∧ (y.1 ≠ 0 ∨ y.2.2.1 = 4) := by
  have hbl := rb_lt hb
  have f0 : FrC b m (mk_u2 (mk_u2 (mk_u2 (mk_u2 (mk_u2 (mk_u2 (mk_u2 (mk_u2 m 1 2 (nI 0)) 1 3 (nI 0)) b 2 (nI 0)) b 3 (nI 0)) 3 1 (nI 0)) 3 2 (nI 0)) 3 3 (nI 0)) 3 4 (nI 0)) := (((((((FrC.rf.up (by omega)).up (by omega)).up (by omega)).up (by omega)).up (by omega)).up (by omega)).up (by omega)).up (by omega)
  obtain ⟨m1, y, a1, a2, a3, a4, a5⟩ := rdL (q := q) hb hT.b hT.2.1 (fun {i} h => by have := (hT.2.2 i (by omega)).2; omega) 401 0 mk_fu (mk_u2 (mk_u2 (mk_u2 (mk_u2 (mk_u2 (mk_u2 (mk_u2 (mk_u2 m 1 2 (nI 0)) 1 3 (nI 0)) b 2 (nI 0)) b 3 (nI 0)) 3 1 (nI 0)) 3 2 (nI 0)) 3 3 (nI 0)) 3 4 (nI 0)) x0 (by omega) (by rw [mk_fu_eq]; omega) ⟨hT.fc (by omega) f0, by simp (disch := omega) only [u2_s, u2_a, u2_b], fun _ => ⟨by simp (disch := omega) only [u2_s, u2_a, u2_b], by simp (disch := omega) only [u2_s, u2_a, u2_b], fun z => lv0 z, ⟨by simp (disch := omega) only [u2_s, u2_a, u2_b]; rfl, trivial⟩, by simp (disch := omega) only [u2_s, u2_a, u2_b]; rfl, by simp (disch := omega) only [u2_s, u2_a, u2_b], by simp (disch := omega) only [u2_s, u2_a, u2_b]; rfl, by simp (disch := omega) only [u2_s, u2_a, u2_b]; rfl, trivial, trivial, trivial, fun z => lv0 z, fun z => by
    rcases z with z | z
    · omega
    · exact lv0 z.1⟩⟩ (Gv.x0 T) (fun _ _ => ⟨Nat.zero_le _, by omega⟩)
  refine ⟨m1, y, ?_, f0.trans a2, a3, a4, a5⟩
  unfold F_X6_read F_X8_open F_X5_clear
  simp (disch := omega) only [ob_some, reduceIte, lit, le_T, le_F, lt_T, lt_F, eq_T, eq_F, nI_add, gac_0_0, gac_0_1, gac_0_2, gac_0_3, gac_0_4, gac_0_5, gac_0_6, gac_1_0, gic_1_1, gic_1_2, gic_1_3, gic_1_4, gic_1_5, gic_1_6, gac_3_0, gic_3_1, gic_3_2, gic_3_3, gic_3_4, gic_3_5, gic_3_6, gic_3_7, gic_5_0, gic_5_1, gic_5_2, gic_5_3, gic_5_4, gac_5_5, gac_5_6, gac_5_7, gac_5_8, gac_5_9, gac_5_10, gac_5_11, gac_13_0, gac_13_1, gic_13_2, gac_13_3, gac_13_4, gac_13_5, gac_13_6, gac_13_7, gac_13_8, gac_13_9, gic_13_10, gic_13_11, gic_13_12, gic_13_13, gac_14_0, gac_14_1, gac_14_2, gac_14_3, gic_14_4, gic_14_5, gic_15_0, gic_15_1, gic_15_2, gic_15_3, gic_15_4, gac_15_5, gac_15_6, gac_15_7, gac_15_8, gac_15_9, gac_15_10, gac_15_11, gac_23_0, gac_23_1, gac_23_2, gac_23_3, gac_23_4, gac_23_5, gac_23_6, gic_23_7, gic_23_8, gac_31_0, gic_31_1, gic_31_2, gac_193_0, gac_193_1, gac_193_2, gic_193_3, gac_198_0, gac_200_0, gac_200_1, gac_200_2, gac_200_3, gac_200_4, gac_200_5, gac_200_6, gic_200_7, gic_200_8, pic_1_1, pic_1_2, pic_1_3, pic_1_4, pic_1_5, pic_1_6, pic_3_1, pic_3_2, pic_3_3, pic_3_4, pic_3_5, pic_3_6, pic_3_7, pic_5_0, pic_5_1, pic_5_2, pic_5_3, pic_5_4, pic_13_2, pic_13_10, pic_13_11, pic_13_12, pic_13_13, pic_14_4, pic_14_5, pic_15_0, pic_15_1, pic_15_2, pic_15_3, pic_15_4, pic_23_7, pic_23_8, pic_31_1, pic_31_2, pic_193_3, pic_200_7, pic_200_8, gdc_0, gdc_1, gdc_3, gdc_5, gdc_13, gdc_14, gdc_15, gdc_23, gdc_31, gdc_193, gdc_198, gdc_200, ldc_2, stc_2, ldc_4, stc_4, ldc_6, stc_6, ldc_7, stc_7, ldc_8, stc_8, ldc_9, stc_9, ldc_10, stc_10, ldc_11, stc_11, ldc_12, stc_12, ldc_16, stc_16, ldc_17, stc_17, ldc_18, stc_18, ldc_19, stc_19, ldc_20, stc_20, ldc_21, stc_21, ldc_22, stc_22, ldc_24, stc_24, ldc_25, stc_25, ldc_26, stc_26, ldc_27, stc_27, ldc_28, stc_28, ldc_29, stc_29, ldc_30, stc_30, ldc_194, stc_194, ldc_195, stc_195, ldc_196, stc_196, ldc_199, stc_199, ldc_201, stc_201, ldc_202, stc_202, ldc_203, stc_203, ldc_204, stc_204, ldc_205, stc_205, ldc_206, stc_206, ldc_207, stc_207, ldc_208, stc_208, ldc_209, stc_209, ldc_210, stc_210, ldc_211, stc_211, ldc_213, stc_213, ldc_214, stc_214, ldc_215, stc_215, ldc_216, stc_216, ldc_217, stc_217, ldc_218, stc_218, ldc_219, stc_219, ldc_263, stc_263, lda_197, lda_262, lda_212, lda_32, u2_s, u2_a, u2_b, rb_gd hb, rb_pi hb]
  exact a1
