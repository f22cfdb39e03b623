set_option maxRecDepth 4000 in
theorem op_look (x1 x2 : Int32) : OP (F_X11_look 0 x1 x2) (F_X12_look 996 x1 x2) := by
  intro m q hI
  obtain ⟨⟨⟨⟨len, by_⟩, ⟨nr, RS⟩, ⟨P, A, H, n, N, nn, fo, x⟩, IM, md⟩, hC, hM⟩, hE⟩ := id hI
  obtain ⟨⟨ct1, ct2, ct3⟩, ⟨cr1, cr2, cr3⟩, ⟨⟨cP, ⟨cA, cAh⟩, cH, ⟨cn1, cn2⟩, ⟨cf1, cf2⟩, ⟨cx1, cx2⟩⟩, cwf⟩, cm1, cm2⟩ := id hC
  obtain ⟨⟨mt1, mt2⟩, ⟨mr1, mr2⟩, ⟨mP, ⟨mA, mAh⟩, ⟨mh1, mh2, mh3⟩, ⟨mn1, mn2⟩, ⟨mf1, mf2⟩, ⟨mx1, mx2⟩⟩, mm1, mm2, mw, ms⟩ := id hM
  have cP5 : m 15 0 = nI (P 0 0) ∧ m 15 1 = nI (P 0 1) ∧ m 15 2 = nI (P 0 2) ∧ m 15 3 = nI (P 0 3) ∧ m 15 4 = nI (P 0 4) := cP.five
  have mP5 : m 997 0 = nI (P 0 0) ∧ m 997 1 = nI (P 0 1) ∧ m 997 2 = nI (P 0 2) ∧ m 997 3 = nI (P 0 3) ∧ m 997 4 = nI (P 0 4) := mP.five
  obtain ⟨B0, B1, B2, B3, B4, B5⟩ := cP.bd
  by_cases h0 : P 0 0 = 0
  · refine ⟨-nI 1, m, q, m, q, ?_, ?_, hI, fun _ _ => rfl⟩
    · unfold F_X11_look; simp (disch := omega) only [ob_some, reduceIte, lit, le_T, le_F, lt_T, lt_F, eq_T, eq_F, nI_add, gac_0_0, gac_0_1, gac_0_2, gac_0_3, gac_0_4, gac_0_5, gac_0_6, gac_1_0, gic_1_1, gic_1_2, gic_1_3, gic_1_4, gic_1_5, gic_1_6, gac_3_0, gic_3_1, gic_3_2, gic_3_3, gic_3_4, gic_3_5, gic_3_6, gic_3_7, gic_5_0, gic_5_1, gic_5_2, gic_5_3, gic_5_4, gac_5_5, gac_5_6, gac_5_7, gac_5_8, gac_5_9, gac_5_10, gac_5_11, gac_13_0, gac_13_1, gic_13_2, gac_13_3, gac_13_4, gac_13_5, gac_13_6, gac_13_7, gac_13_8, gac_13_9, gic_13_10, gic_13_11, gic_13_12, gic_13_13, gac_14_0, gac_14_1, gac_14_2, gac_14_3, gic_14_4, gic_14_5, gic_15_0, gic_15_1, gic_15_2, gic_15_3, gic_15_4, gac_15_5, gac_15_6, gac_15_7, gac_15_8, gac_15_9, gac_15_10, gac_15_11, gac_23_0, gac_23_1, gac_23_2, gac_23_3, gac_23_4, gac_23_5, gac_23_6, gic_23_7, gic_23_8, gac_31_0, gic_31_1, gic_31_2, gac_193_0, gac_193_1, gac_193_2, gic_193_3, gac_198_0, gac_200_0, gac_200_1, gac_200_2, gac_200_3, gac_200_4, gac_200_5, gac_200_6, gic_200_7, gic_200_8, pic_1_1, pic_1_2, pic_1_3, pic_1_4, pic_1_5, pic_1_6, pic_3_1, pic_3_2, pic_3_3, pic_3_4, pic_3_5, pic_3_6, pic_3_7, pic_5_0, pic_5_1, pic_5_2, pic_5_3, pic_5_4, pic_13_2, pic_13_10, pic_13_11, pic_13_12, pic_13_13, pic_14_4, pic_14_5, pic_15_0, pic_15_1, pic_15_2, pic_15_3, pic_15_4, pic_23_7, pic_23_8, pic_31_1, pic_31_2, pic_193_3, pic_200_7, pic_200_8, gdc_0, gdc_1, gdc_3, gdc_5, gdc_13, gdc_14, gdc_15, gdc_23, gdc_31, gdc_193, gdc_198, gdc_200, ldc_2, stc_2, ldc_4, stc_4, ldc_6, stc_6, ldc_7, stc_7, ldc_8, stc_8, ldc_9, stc_9, ldc_10, stc_10, ldc_11, stc_11, ldc_12, stc_12, ldc_16, stc_16, ldc_17, stc_17, ldc_18, stc_18, ldc_19, stc_19, ldc_20, stc_20, ldc_21, stc_21, ldc_22, stc_22, ldc_24, stc_24, ldc_25, stc_25, ldc_26, stc_26, ldc_27, stc_27, ldc_28, stc_28, ldc_29, stc_29, ldc_30, stc_30, ldc_194, stc_194, ldc_195, stc_195, ldc_196, stc_196, ldc_199, stc_199, ldc_201, stc_201, ldc_202, stc_202, ldc_203, stc_203, ldc_204, stc_204, ldc_205, stc_205, ldc_206, stc_206, ldc_207, stc_207, ldc_208, stc_208, ldc_209, stc_209, ldc_210, stc_210, ldc_211, stc_211, ldc_213, stc_213, ldc_214, stc_214, ldc_215, stc_215, ldc_216, stc_216, ldc_217, stc_217, ldc_218, stc_218, ldc_219, stc_219, ldc_263, stc_263, lda_197, lda_262, lda_212, lda_32, u2_s, u2_a, u2_b, isPla_C cP5.1, h0]
    · unfold F_X12_look; simp (disch := omega) only [gdm, gam_1, gam_2, gam_3, gam_4, gam_5, gam_6, gam_7, gam_8, gam_9, gam_10, gam_11, gam_12, gam_13, gam_14, gam_15, gam_16, gam_17, gam_18, gam_19, gam_20, gam_21, gam_22, gam_23, gam_24, gam_25, gam_26, gam_37, gam_38, gam_39, gam_40, gam_41, gam_42, gam_43, gam_44, gam_45, gam_46, gam_48, gam_49, gam_56, gam_57, gam_58, gam_59, gam_60, gam_61, gim_27, gim_28, gim_29, gim_30, gim_31, gim_32, gim_33, gim_34, gim_35, gim_36, gim_47, gim_50, gim_51, gim_52, gim_53, gim_54, gim_55, gim_62, gim_63, ob_some, reduceIte, lit, le_T, le_F, lt_T, lt_F, eq_T, eq_F, nI_add, ldm_997, stm_997, ldm_998, stm_998, ldm_999, stm_999, ldm_1000, stm_1000, ldm_1001, stm_1001, ldm_1002, stm_1002, ldm_1003, stm_1003, ldm_1004, stm_1004, ldm_1005, stm_1005, ldm_1006, stm_1006, ldm_1007, stm_1007, ldm_1008, stm_1008, ldm_1009, stm_1009, ldm_1010, stm_1010, ldm_1011, stm_1011, ldm_1012, stm_1012, ldm_1013, stm_1013, ldm_1014, stm_1014, ldm_1015, stm_1015, ldm_1016, stm_1016, ldm_1017, stm_1017, ldm_1018, stm_1018, ldm_1019, stm_1019, ldm_1020, stm_1020, ldm_1021, stm_1021, ldm_1022, stm_1022, u2_s, u2_a, u2_b, not_true, not_false_iff, isPla_M mP5.1, h0]
  have h0 : 0 < P 0 0 := by omega
  rcases within_CL x1 0 60 (by omega) (by omega) with ⟨n1, -, hn1, rfl⟩ | hno
  rotate_left
  · refine ⟨-nI 1, m, q, m, q, ?_, ?_, hI, fun _ _ => rfl⟩
    · unfold F_X11_look; simp (disch := omega) only [ob_some, reduceIte, lit, le_T, le_F, lt_T, lt_F, eq_T, eq_F, nI_add, gac_0_0, gac_0_1, gac_0_2, gac_0_3, gac_0_4, gac_0_5, gac_0_6, gac_1_0, gic_1_1, gic_1_2, gic_1_3, gic_1_4, gic_1_5, gic_1_6, gac_3_0, gic_3_1, gic_3_2, gic_3_3, gic_3_4, gic_3_5, gic_3_6, gic_3_7, gic_5_0, gic_5_1, gic_5_2, gic_5_3, gic_5_4, gac_5_5, gac_5_6, gac_5_7, gac_5_8, gac_5_9, gac_5_10, gac_5_11, gac_13_0, gac_13_1, gic_13_2, gac_13_3, gac_13_4, gac_13_5, gac_13_6, gac_13_7, gac_13_8, gac_13_9, gic_13_10, gic_13_11, gic_13_12, gic_13_13, gac_14_0, gac_14_1, gac_14_2, gac_14_3, gic_14_4, gic_14_5, gic_15_0, gic_15_1, gic_15_2, gic_15_3, gic_15_4, gac_15_5, gac_15_6, gac_15_7, gac_15_8, gac_15_9, gac_15_10, gac_15_11, gac_23_0, gac_23_1, gac_23_2, gac_23_3, gac_23_4, gac_23_5, gac_23_6, gic_23_7, gic_23_8, gac_31_0, gic_31_1, gic_31_2, gac_193_0, gac_193_1, gac_193_2, gic_193_3, gac_198_0, gac_200_0, gac_200_1, gac_200_2, gac_200_3, gac_200_4, gac_200_5, gac_200_6, gic_200_7, gic_200_8, pic_1_1, pic_1_2, pic_1_3, pic_1_4, pic_1_5, pic_1_6, pic_3_1, pic_3_2, pic_3_3, pic_3_4, pic_3_5, pic_3_6, pic_3_7, pic_5_0, pic_5_1, pic_5_2, pic_5_3, pic_5_4, pic_13_2, pic_13_10, pic_13_11, pic_13_12, pic_13_13, pic_14_4, pic_14_5, pic_15_0, pic_15_1, pic_15_2, pic_15_3, pic_15_4, pic_23_7, pic_23_8, pic_31_1, pic_31_2, pic_193_3, pic_200_7, pic_200_8, gdc_0, gdc_1, gdc_3, gdc_5, gdc_13, gdc_14, gdc_15, gdc_23, gdc_31, gdc_193, gdc_198, gdc_200, ldc_2, stc_2, ldc_4, stc_4, ldc_6, stc_6, ldc_7, stc_7, ldc_8, stc_8, ldc_9, stc_9, ldc_10, stc_10, ldc_11, stc_11, ldc_12, stc_12, ldc_16, stc_16, ldc_17, stc_17, ldc_18, stc_18, ldc_19, stc_19, ldc_20, stc_20, ldc_21, stc_21, ldc_22, stc_22, ldc_24, stc_24, ldc_25, stc_25, ldc_26, stc_26, ldc_27, stc_27, ldc_28, stc_28, ldc_29, stc_29, ldc_30, stc_30, ldc_194, stc_194, ldc_195, stc_195, ldc_196, stc_196, ldc_199, stc_199, ldc_201, stc_201, ldc_202, stc_202, ldc_203, stc_203, ldc_204, stc_204, ldc_205, stc_205, ldc_206, stc_206, ldc_207, stc_207, ldc_208, stc_208, ldc_209, stc_209, ldc_210, stc_210, ldc_211, stc_211, ldc_213, stc_213, ldc_214, stc_214, ldc_215, stc_215, ldc_216, stc_216, ldc_217, stc_217, ldc_218, stc_218, ldc_219, stc_219, ldc_263, stc_263, lda_197, lda_262, lda_212, lda_32, u2_s, u2_a, u2_b, isPla_T cP5.1, hno]
    · unfold F_X12_look; simp (disch := omega) only [gdm, gam_1, gam_2, gam_3, gam_4, gam_5, gam_6, gam_7, gam_8, gam_9, gam_10, gam_11, gam_12, gam_13, gam_14, gam_15, gam_16, gam_17, gam_18, gam_19, gam_20, gam_21, gam_22, gam_23, gam_24, gam_25, gam_26, gam_37, gam_38, gam_39, gam_40, gam_41, gam_42, gam_43, gam_44, gam_45, gam_46, gam_48, gam_49, gam_56, gam_57, gam_58, gam_59, gam_60, gam_61, gim_27, gim_28, gim_29, gim_30, gim_31, gim_32, gim_33, gim_34, gim_35, gim_36, gim_47, gim_50, gim_51, gim_52, gim_53, gim_54, gim_55, gim_62, gim_63, ob_some, reduceIte, lit, le_T, le_F, lt_T, lt_F, eq_T, eq_F, nI_add, ldm_997, stm_997, ldm_998, stm_998, ldm_999, stm_999, ldm_1000, stm_1000, ldm_1001, stm_1001, ldm_1002, stm_1002, ldm_1003, stm_1003, ldm_1004, stm_1004, ldm_1005, stm_1005, ldm_1006, stm_1006, ldm_1007, stm_1007, ldm_1008, stm_1008, ldm_1009, stm_1009, ldm_1010, stm_1010, ldm_1011, stm_1011, ldm_1012, stm_1012, ldm_1013, stm_1013, ldm_1014, stm_1014, ldm_1015, stm_1015, ldm_1016, stm_1016, ldm_1017, stm_1017, ldm_1018, stm_1018, ldm_1019, stm_1019, ldm_1020, stm_1020, ldm_1021, stm_1021, ldm_1022, stm_1022, u2_s, u2_a, u2_b, not_true, not_false_iff, isPla_TM mP5.1, in_0_60, hno]
  rcases within_CL x2 0 1 (by omega) (by omega) with ⟨k, -, hk, rfl⟩ | hno
  rotate_left
  · refine ⟨-nI 1, m, q, m, q, ?_, ?_, hI, fun _ _ => rfl⟩
    · unfold F_X11_look; simp (disch := omega) only [ob_some, reduceIte, lit, le_T, le_F, lt_T, lt_F, eq_T, eq_F, nI_add, gac_0_0, gac_0_1, gac_0_2, gac_0_3, gac_0_4, gac_0_5, gac_0_6, gac_1_0, gic_1_1, gic_1_2, gic_1_3, gic_1_4, gic_1_5, gic_1_6, gac_3_0, gic_3_1, gic_3_2, gic_3_3, gic_3_4, gic_3_5, gic_3_6, gic_3_7, gic_5_0, gic_5_1, gic_5_2, gic_5_3, gic_5_4, gac_5_5, gac_5_6, gac_5_7, gac_5_8, gac_5_9, gac_5_10, gac_5_11, gac_13_0, gac_13_1, gic_13_2, gac_13_3, gac_13_4, gac_13_5, gac_13_6, gac_13_7, gac_13_8, gac_13_9, gic_13_10, gic_13_11, gic_13_12, gic_13_13, gac_14_0, gac_14_1, gac_14_2, gac_14_3, gic_14_4, gic_14_5, gic_15_0, gic_15_1, gic_15_2, gic_15_3, gic_15_4, gac_15_5, gac_15_6, gac_15_7, gac_15_8, gac_15_9, gac_15_10, gac_15_11, gac_23_0, gac_23_1, gac_23_2, gac_23_3, gac_23_4, gac_23_5, gac_23_6, gic_23_7, gic_23_8, gac_31_0, gic_31_1, gic_31_2, gac_193_0, gac_193_1, gac_193_2, gic_193_3, gac_198_0, gac_200_0, gac_200_1, gac_200_2, gac_200_3, gac_200_4, gac_200_5, gac_200_6, gic_200_7, gic_200_8, pic_1_1, pic_1_2, pic_1_3, pic_1_4, pic_1_5, pic_1_6, pic_3_1, pic_3_2, pic_3_3, pic_3_4, pic_3_5, pic_3_6, pic_3_7, pic_5_0, pic_5_1, pic_5_2, pic_5_3, pic_5_4, pic_13_2, pic_13_10, pic_13_11, pic_13_12, pic_13_13, pic_14_4, pic_14_5, pic_15_0, pic_15_1, pic_15_2, pic_15_3, pic_15_4, pic_23_7, pic_23_8, pic_31_1, pic_31_2, pic_193_3, pic_200_7, pic_200_8, gdc_0, gdc_1, gdc_3, gdc_5, gdc_13, gdc_14, gdc_15, gdc_23, gdc_31, gdc_193, gdc_198, gdc_200, ldc_2, stc_2, ldc_4, stc_4, ldc_6, stc_6, ldc_7, stc_7, ldc_8, stc_8, ldc_9, stc_9, ldc_10, stc_10, ldc_11, stc_11, ldc_12, stc_12, ldc_16, stc_16, ldc_17, stc_17, ldc_18, stc_18, ldc_19, stc_19, ldc_20, stc_20, ldc_21, stc_21, ldc_22, stc_22, ldc_24, stc_24, ldc_25, stc_25, ldc_26, stc_26, ldc_27, stc_27, ldc_28, stc_28, ldc_29, stc_29, ldc_30, stc_30, ldc_194, stc_194, ldc_195, stc_195, ldc_196, stc_196, ldc_199, stc_199, ldc_201, stc_201, ldc_202, stc_202, ldc_203, stc_203, ldc_204, stc_204, ldc_205, stc_205, ldc_206, stc_206, ldc_207, stc_207, ldc_208, stc_208, ldc_209, stc_209, ldc_210, stc_210, ldc_211, stc_211, ldc_213, stc_213, ldc_214, stc_214, ldc_215, stc_215, ldc_216, stc_216, ldc_217, stc_217, ldc_218, stc_218, ldc_219, stc_219, ldc_263, stc_263, lda_197, lda_262, lda_212, lda_32, u2_s, u2_a, u2_b, isPla_T cP5.1, within_TL, hno]
    · unfold F_X12_look; simp (disch := omega) only [gdm, gam_1, gam_2, gam_3, gam_4, gam_5, gam_6, gam_7, gam_8, gam_9, gam_10, gam_11, gam_12, gam_13, gam_14, gam_15, gam_16, gam_17, gam_18, gam_19, gam_20, gam_21, gam_22, gam_23, gam_24, gam_25, gam_26, gam_37, gam_38, gam_39, gam_40, gam_41, gam_42, gam_43, gam_44, gam_45, gam_46, gam_48, gam_49, gam_56, gam_57, gam_58, gam_59, gam_60, gam_61, gim_27, gim_28, gim_29, gim_30, gim_31, gim_32, gim_33, gim_34, gim_35, gim_36, gim_47, gim_50, gim_51, gim_52, gim_53, gim_54, gim_55, gim_62, gim_63, ob_some, reduceIte, lit, le_T, le_F, lt_T, lt_F, eq_T, eq_F, nI_add, ldm_997, stm_997, ldm_998, stm_998, ldm_999, stm_999, ldm_1000, stm_1000, ldm_1001, stm_1001, ldm_1002, stm_1002, ldm_1003, stm_1003, ldm_1004, stm_1004, ldm_1005, stm_1005, ldm_1006, stm_1006, ldm_1007, stm_1007, ldm_1008, stm_1008, ldm_1009, stm_1009, ldm_1010, stm_1010, ldm_1011, stm_1011, ldm_1012, stm_1012, ldm_1013, stm_1013, ldm_1014, stm_1014, ldm_1015, stm_1015, ldm_1016, stm_1016, ldm_1017, stm_1017, ldm_1018, stm_1018, ldm_1019, stm_1019, ldm_1020, stm_1020, ldm_1021, stm_1021, ldm_1022, stm_1022, u2_s, u2_a, u2_b, not_true, not_false_iff, isPla_TM mP5.1, within_TL, in_0_60, in_0_1, hno]
  obtain ⟨hQ, h4, hf6⟩ := qc_of hC hE h0
  have hsq := hQ.1.sq
  obtain ⟨F, hF, hF2⟩ : ∃ F : Nat → Bool, (∀ i, i ≤ nr → (F i = true ↔ fitP P N nn (frho RS i))) ∧ ∀ i, nr < i → F i = false := by
    classical
    exact ⟨fun i => decide (i ≤ nr ∧ fitP P N nn (frho RS i)), fun i hi => by rw [decide_eq_true_iff]; exact ⟨fun h => h.2, fun h => ⟨hi, h⟩⟩, fun i hi => by rw [decide_eq_false_iff_not]; exact fun h => absurd h.1 (by omega)⟩
  obtain ⟨ma, qa, a1, a2⟩ := fitting_ok (q := q) (N := N) (nn := nn) (F := F) hQ cr3 cr2 cr1 cn1 cn2 hF
  have ka := KC.out a2 (by omega) (by omega)
  have h128 : gb F (nr + 1) < 128 := Nat.lt_of_lt_of_le (gb_lt F _) (by
    have : 2 ^ (nr + 1) ≤ 2 ^ 7 := Nat.pow_le_pow_right (by omega) (by omega)
    exact this)
  have hcl := cnt_le (F := F) (nr + 1)
  have hpc := pc_gb (F := F) (n := nr + 1) (by omega)
  -- the reference lays what fits
  have core : ∀ (mb : Nat → Nat → Int32) (qb : Nat → Nat → Int64), KC m mb → ∃ me qe, F_X12_look 996 (nI n1) (nI k) (KS, mb, qb) = (if cnt F (nr + 1) = 0 then some (-nI 2, (KS, me, qe)) else B_X12_look_120 mk_fu 996 (nI k) (nI (cnt F (nr + 1))) (nI 0) (nI 1) (KS, me, qe)) ∧ KM mb me ∧ KB mb me ∧ me 996 47 = mb 996 47 ∧ (∀ j, j < cnt F (nr + 1) → ∀ c, c < P 0 0 * P 0 0 → me 1038 (36 * j + c) = nI (wL P RS n1 (sq F (nr + 1) j) c) ∧ wL P RS n1 (sq F (nr + 1) j) c ≤ 600) ∧ me 997 0 = nI (P 0 0) := by
    intro mb qb kb
    obtain ⟨hQM, hMS⟩ := qm_of hC hM h0 kb
    have hM1 : MI _ mb := hM.same (fun i h1 h2 => kb.1 i (by omega) (by omega))
    obtain ⟨mc, k1, k2, k3, k4, k5⟩ := keepsAll_ok (q := qb) mb
    obtain ⟨f1, ⟨y1, me, qe⟩, e, i1, i3, i4, i5, i6⟩ := loop_up (fun f i (s : Int32 × (Nat → Nat → Int32) × (Nat → Nat → Int64)) => B_X12_look_40 f 996 (nI n1) (nI k) s.1 (fI i) (KS, s.2.1, s.2.2)) (nr + 1) (fun i s => s.1 = nI (cnt F i) ∧ KP mb s.2.1 ∧ KB mb s.2.1 ∧ s.2.1 996 47 = -nI 1 ∧ ∀ j, j < cnt F i → ∀ c, c < P 0 0 * P 0 0 → s.2.1 1038 (36 * j + c) = nI (wL P RS n1 (sq F i j) c) ∧ wL P RS n1 (sq F i j) c ≤ 600) (by
      intro f i ⟨y1, m', q'⟩ hi ⟨i1, i3, i4, i5, i6⟩
      have i1 : y1 = _ := i1
      subst i1
      have i3 : KP mb m' := i3
      have i4 : KB mb m' := i4
      have i5 : m' 996 47 = -nI 1 := i5
      have i6 : ∀ j, j < cnt F i → ∀ c, c < P 0 0 * P 0 0 → m' 1038 (36 * j + c) = nI (wL P RS n1 (sq F i j) c) ∧ wL P RS n1 (sq F i j) c ≤ 600 := i6
      obtain ⟨m2, q2, b, x1, x2, x3, x4, x5, x6, x7⟩ := couldRule_ok (q := q') (RS := RS) (i := i) hQM hMS hM1.2.1.2 cr2 (by omega) hM1.2.2.1.2.2.2.1.1 hM1.2.2.1.2.2.2.1.2 i3 i4 i5
      have hb : b = F i := by
        have := x5.trans (hF i (by omega)).symm
        cases b <;> cases hFi : F i <;> simp_all
      subst hb
      have h31 : m' 996 31 = nI nr := (i3.1.2.1 31 (by omega) (by omega) (by omega) (by omega) (by omega) (by omega)).trans hM1.2.1.1
      have hci := cnt_le (F := F) i
      cases hFi : F i with
      | false =>
        have ec : cnt F (i + 1) = cnt F i := by rw [cnt, hFi]; rfl
        refine ⟨(nI (cnt F (i + 1)), m2, q2), ?_, rfl, x2, x3, x4, ?_⟩
        · rw [hFi] at x1
          simp only [B_X12_look_40, B_X12_look_101]
          simp (disch := omega) only [gim_31, ob_some, h31, fI_le, reduceIte, x1, lit, fI_s2, ec, Bool.false_eq_true]
        · rw [ec]
          intro j hj c hc
          have es : sq F (i + 1) j = sq F i j := if_neg (by rw [hFi]; exact fun x => absurd x.1 (by decide))
          show m2 1038 (36 * j + c) = _ ∧ _
          rw [es, x7]; exact i6 j hj c hc
      | true =>
        have ec : cnt F (i + 1) = cnt F i + 1 := by rw [cnt, hFi]; rfl
        obtain ⟨m3, z1, z2, z3, z4⟩ := showRow (k40 := B_X12_look_40 f) (q := q2) (x2 := nI k) (x4 := fI i) (K := cnt F i) m2 hn1 (by omega)
        have ez : ∀ j, j < 1035 ∨ 1038 < j → m3 j = m2 j := fun j hj => z2 j (by omega)
        refine ⟨(nI (cnt F (i + 1)), m3, q2), ?_, rfl, x2.arr' ez, fun j c hj hc => by show m3 (997 + j) c = _; rw [z2 _ (by omega)]; exact x3 j c hj hc, by show m3 996 47 = _; rw [z2 _ (by omega)]; exact x4, ?_⟩
        · rw [hFi] at x1
          simp only [B_X12_look_40]
          simp (disch := omega) only [gim_31, ob_some, h31, fI_le, reduceIte, x1, lit, eq_F]
          rw [z1, ec, fI_s2]
        · rw [ec]
          intro j hj c hc
          show m3 1038 (36 * j + c) = _ ∧ _
          by_cases ej : j = cnt F i
          · subst ej
            have es : sq F (i + 1) (cnt F i) = i := if_pos ⟨hFi, rfl⟩
            rw [es, z3 c (by omega)]
            exact x6 n1 (by omega) c hc
          · have es : sq F (i + 1) j = sq F i j := if_neg (fun x => ej x.2)
            rw [es, z4 _ (by omega), x7]; exact i6 j (by omega) c hc) (nr + 1) 0 mk_fu (nI 0, mc, qb) (by omega) (by rw [mk_fu_eq]; omega) ⟨rfl, k2, k3, (k4 47 (by omega) (by omega)).trans hQM.2.2, fun j hj => absurd hj (by show ¬ j < 0; omega)⟩
    have i1 : y1 = _ := i1
    subst i1
    have i3 : KP mb me := i3
    have i4 : KB mb me := i4
    have i5 : me 996 47 = -nI 1 := i5
    have h31 : me 996 31 = nI nr := (i3.1.2.1 31 (by omega) (by omega) (by omega) (by omega) (by omega) (by omega)).trans hM1.2.1.1
    refine ⟨me, qe, ?_, i3.1, i4, i5.trans hQM.2.2.symm, i6, (i4 0 0 (by omega) (by decide)).trans hQM.1.1.1⟩
    unfold F_X12_look
    simp (disch := omega) only [gdm, gam_1, gam_2, gam_3, gam_4, gam_5, gam_6, gam_7, gam_8, gam_9, gam_10, gam_11, gam_12, gam_13, gam_14, gam_15, gam_16, gam_17, gam_18, gam_19, gam_20, gam_21, gam_22, gam_23, gam_24, gam_25, gam_26, gam_37, gam_38, gam_39, gam_40, gam_41, gam_42, gam_43, gam_44, gam_45, gam_46, gam_48, gam_49, gam_56, gam_57, gam_58, gam_59, gam_60, gam_61, gim_27, gim_28, gim_29, gim_30, gim_31, gim_32, gim_33, gim_34, gim_35, gim_36, gim_47, gim_50, gim_51, gim_52, gim_53, gim_54, gim_55, gim_62, gim_63, ob_some, reduceIte, lit, le_T, le_F, lt_T, lt_F, eq_T, eq_F, nI_add, ldm_997, stm_997, ldm_998, stm_998, ldm_999, stm_999, ldm_1000, stm_1000, ldm_1001, stm_1001, ldm_1002, stm_1002, ldm_1003, stm_1003, ldm_1004, stm_1004, ldm_1005, stm_1005, ldm_1006, stm_1006, ldm_1007, stm_1007, ldm_1008, stm_1008, ldm_1009, stm_1009, ldm_1010, stm_1010, ldm_1011, stm_1011, ldm_1012, stm_1012, ldm_1013, stm_1013, ldm_1014, stm_1014, ldm_1015, stm_1015, ldm_1016, stm_1016, ldm_1017, stm_1017, ldm_1018, stm_1018, ldm_1019, stm_1019, ldm_1020, stm_1020, ldm_1021, stm_1021, ldm_1022, stm_1022, u2_s, u2_a, u2_b, not_true, not_false_iff, isPla_TM hQM.1.1.1, within_TL, in_0_60, in_0_1, k1]
    refine Eq.trans e ?_
    simp only [B_X12_look_40]
    simp only [gim_31, ob_some, h31, fI_ge, if_true, lit]
    by_cases hc0 : cnt F (nr + 1) = 0
    · rw [if_pos hc0, if_pos (by rw [hc0])]
    · rw [if_neg hc0, if_neg (by rw [eq_I (by omega) (by omega)]; exact hc0)]
  by_cases hc0 : cnt F (nr + 1) = 0
  · obtain ⟨me, qe, e1, e2, e3, e4, -, -⟩ := core ma qa ka
    obtain ⟨f1, f2⟩ := ask_fin hC hM hE ka e2 e3 e4
    have hg0 : gb F (nr + 1) = 0 := by
      have hz : ∀ g, g < 128 → pc g = 0 → g = 0 := by decide +kernel
      exact hz _ h128 (hpc.trans hc0)
    refine ⟨-nI 2, ma, qa, me, qe, ?_, e1.trans (if_pos hc0), f1, f2⟩
    unfold F_X11_look
    simp (disch := omega) only [ob_some, reduceIte, lit, le_T, le_F, lt_T, lt_F, eq_T, eq_F, nI_add, gac_0_0, gac_0_1, gac_0_2, gac_0_3, gac_0_4, gac_0_5, gac_0_6, gac_1_0, gic_1_1, gic_1_2, gic_1_3, gic_1_4, gic_1_5, gic_1_6, gac_3_0, gic_3_1, gic_3_2, gic_3_3, gic_3_4, gic_3_5, gic_3_6, gic_3_7, gic_5_0, gic_5_1, gic_5_2, gic_5_3, gic_5_4, gac_5_5, gac_5_6, gac_5_7, gac_5_8, gac_5_9, gac_5_10, gac_5_11, gac_13_0, gac_13_1, gic_13_2, gac_13_3, gac_13_4, gac_13_5, gac_13_6, gac_13_7, gac_13_8, gac_13_9, gic_13_10, gic_13_11, gic_13_12, gic_13_13, gac_14_0, gac_14_1, gac_14_2, gac_14_3, gic_14_4, gic_14_5, gic_15_0, gic_15_1, gic_15_2, gic_15_3, gic_15_4, gac_15_5, gac_15_6, gac_15_7, gac_15_8, gac_15_9, gac_15_10, gac_15_11, gac_23_0, gac_23_1, gac_23_2, gac_23_3, gac_23_4, gac_23_5, gac_23_6, gic_23_7, gic_23_8, gac_31_0, gic_31_1, gic_31_2, gac_193_0, gac_193_1, gac_193_2, gic_193_3, gac_198_0, gac_200_0, gac_200_1, gac_200_2, gac_200_3, gac_200_4, gac_200_5, gac_200_6, gic_200_7, gic_200_8, pic_1_1, pic_1_2, pic_1_3, pic_1_4, pic_1_5, pic_1_6, pic_3_1, pic_3_2, pic_3_3, pic_3_4, pic_3_5, pic_3_6, pic_3_7, pic_5_0, pic_5_1, pic_5_2, pic_5_3, pic_5_4, pic_13_2, pic_13_10, pic_13_11, pic_13_12, pic_13_13, pic_14_4, pic_14_5, pic_15_0, pic_15_1, pic_15_2, pic_15_3, pic_15_4, pic_23_7, pic_23_8, pic_31_1, pic_31_2, pic_193_3, pic_200_7, pic_200_8, gdc_0, gdc_1, gdc_3, gdc_5, gdc_13, gdc_14, gdc_15, gdc_23, gdc_31, gdc_193, gdc_198, gdc_200, ldc_2, stc_2, ldc_4, stc_4, ldc_6, stc_6, ldc_7, stc_7, ldc_8, stc_8, ldc_9, stc_9, ldc_10, stc_10, ldc_11, stc_11, ldc_12, stc_12, ldc_16, stc_16, ldc_17, stc_17, ldc_18, stc_18, ldc_19, stc_19, ldc_20, stc_20, ldc_21, stc_21, ldc_22, stc_22, ldc_24, stc_24, ldc_25, stc_25, ldc_26, stc_26, ldc_27, stc_27, ldc_28, stc_28, ldc_29, stc_29, ldc_30, stc_30, ldc_194, stc_194, ldc_195, stc_195, ldc_196, stc_196, ldc_199, stc_199, ldc_201, stc_201, ldc_202, stc_202, ldc_203, stc_203, ldc_204, stc_204, ldc_205, stc_205, ldc_206, stc_206, ldc_207, stc_207, ldc_208, stc_208, ldc_209, stc_209, ldc_210, stc_210, ldc_211, stc_211, ldc_213, stc_213, ldc_214, stc_214, ldc_215, stc_215, ldc_216, stc_216, ldc_217, stc_217, ldc_218, stc_218, ldc_219, stc_219, ldc_263, stc_263, lda_197, lda_262, lda_212, lda_32, u2_s, u2_a, u2_b, isPla_T cP5.1, within_TL, a1, hg0]
  have hg0 : gb F (nr + 1) ≠ 0 := fun h => hc0 (by rw [← hpc, h]; decide)
  obtain ⟨mb, qb, b1, b2, b3⟩ := fillWinds_ok (q := qa) (RS := RS) (nr := nr) (n := n1) (F := F) (hQ.keep ka) (fun r h => (cr3 r h).congr (fun j a b => ka.1 j (by omega) (by omega))) cr2 hn1 hF2
  have kb : KC m mb := ka.trans b2
  have hs15 : mb 15 0 = nI (P 0 0) := (hQ.keep kb).1.1.1
  obtain ⟨me, qe, e1, e2, e3, e4, e5, e6⟩ := core mb qb kb
  obtain ⟨f1, f2⟩ := ask_fin hC hM hE kb e2 e3 e4
  have alC : ∀ c, c < P 0 0 * P 0 0 → F_X2_mostAlike 13 (nI (gb F (nr + 1))) (nI c) (KS, mb, qb) = some (nI (alN P RS F n1 nr c), (KS, mb, qb)) := fun c hc => mostC (w := fun i => wL P RS n1 i c) cr2 hF2 (by omega) (fun i hi hFi => b3 i hi hFi c hc)
  have alM : ∀ c, c < P 0 0 * P 0 0 → F_X12_mostAlike 996 (nI c) (nI (cnt F (nr + 1))) (KS, me, qe) = some (nI (alN P RS F n1 nr c), (KS, me, qe)) := fun c hc => by
    have h := mostM (q := qe) (p := fun i => wL P RS n1 i c) (f := sq F (nr + 1)) (K := cnt F (nr + 1)) (by omega) (show c < 36 by omega) (fun j hj => e5 j hj c hc)
    rw [h]
    have e : ∀ v, cS (fun i => wL P RS n1 i c) 0 v (sq F (nr + 1)) (cnt F (nr + 1)) = cE F (fun i => wL P RS n1 i c) v (nr + 1) := fun v => cS_cE (nr + 1)
    simp only [e]
    rw [mS_mE (nr + 1)]
    rfl
  have hal : ∀ c, alN P RS F n1 nr c ≤ 7 := fun c => alN_le cr2
  obtain ⟨al, hal_e⟩ : ∃ al : Nat → Nat, al = alN P RS F n1 nr := ⟨_, rfl⟩
  rw [← hal_e] at alC alM hal
  obtain ⟨S, hS⟩ : ∃ S, P 0 0 * P 0 0 = S + 1 := ⟨P 0 0 * P 0 0 - 1, by omega⟩
  rw [hS] at alC alM
  -- both sides go along the cells
  obtain ⟨g1, ⟨y1, y2⟩, eC, iC⟩ := loop_up (fun f i (s : Int32 × Int32) => B_X2_bestLook_16 f 13 (nI (gb F (nr + 1))) (nI k) s.1 s.2 (nI i) (KS, mb, qb)) (S + 1) (fun i s => (i = 0 ∧ s.2 = nI 8) ∨ (0 < i ∧ s.1 = nI (bsI al i) ∧ s.2 = nI (al (bsI al i)))) (by
    intro f i ⟨y1, y2⟩ hi hs
    have a1 := alC i hi
    have hai := hal i
    simp only [B_X2_bestLook_16, B_X2_bestLook_55]
    simp (disch := omega) only [lit, gac_13_0, gac_14_0, ob_some, cells_C hs15, hS, le_F, reduceIte, a1]
    rcases hs with ⟨h1, h2⟩ | ⟨h1, h2, h3⟩
    · have h2 : y2 = nI 8 := h2
      subst h1 h2
      refine ⟨(nI 0, nI (al 0)), ?_, .inr ⟨by omega, ?_, ?_⟩⟩
      · simp (disch := omega) only [le_F, reduceIte, nI_add]
      · show nI 0 = nI (bsI al 1)
        have : bsI al 1 = 0 := Nat.le_zero.mp (bsI_lt (al := al) 0)
        rw [this]
      · show nI (al 0) = nI (al (bsI al 1))
        have : bsI al 1 = 0 := Nat.le_zero.mp (bsI_lt (al := al) 0)
        rw [this]
    · have h2 : y1 = _ := h2
      have h3 : y2 = _ := h3
      subst h2 h3
      have hab := hal (bsI al i)
      by_cases c : al (bsI al i) ≤ al i
      · have eb : bsI al (i + 1) = bsI al i := if_pos c
        refine ⟨(nI (bsI al i), nI (al (bsI al i))), ?_, .inr ⟨by omega, by rw [eb], by rw [eb]⟩⟩
        simp (disch := omega) only [le_T, reduceIte, nI_add]
      · have eb : bsI al (i + 1) = i := if_neg c
        refine ⟨(nI i, nI (al i)), ?_, .inr ⟨by omega, by rw [eb], by rw [eb]⟩⟩
        simp (disch := omega) only [le_F, reduceIte, nI_add]) (S + 1) 0 mk_fu (-nI 1, nI 8) (by omega) (by rw [mk_fu_eq]; omega) (.inl ⟨rfl, rfl⟩)
  obtain ⟨g2, z1, eM, iM1, iM2⟩ := loop_up (fun f i (z : Int32) => B_X12_look_120 f 996 (nI k) (nI (cnt F (nr + 1))) z (nI i) (KS, me, qe)) (S + 1) (fun i z => 0 < i ∧ z = nI (bsI al i)) (by
    intro f i z hi ⟨h1, h2⟩
    subst h2
    have hbl : bsI al i < S + 1 := by
      obtain ⟨i', rfl⟩ : ∃ i', i = i' + 1 := ⟨i - 1, by omega⟩
      have := bsI_lt (al := al) i'; omega
    have a1 := alM i hi
    have a2 := alM (bsI al i) hbl
    have h7 := hal i
    have h8 := hal (bsI al i)
    refine ⟨nI (bsI al (i + 1)), ?_, by omega, rfl⟩
    simp only [B_X12_look_120, B_X12_look_153]
    simp (disch := omega) only [lit, mcells_ok e6, hS, ob_some, le_F, reduceIte, a1, a2]
    by_cases c : al (bsI al i) ≤ al i
    · have eb : bsI al (i + 1) = bsI al i := if_pos c
      rw [eb]
      simp (disch := omega) only [le_T, reduceIte, nI_add]
    · have eb : bsI al (i + 1) = i := if_neg c
      rw [eb]
      simp (disch := omega) only [le_F, reduceIte, nI_add]) S 1 mk_fu (nI 0) (by omega) (by rw [mk_fu_eq]; omega) ⟨by omega, by
        have : bsI al 1 = 0 := Nat.le_zero.mp (bsI_lt (al := al) 0)
        rw [this]⟩
  subst iM2
  rcases iC with ⟨h1, -⟩ | ⟨-, h2, h3⟩
  · exact absurd h1 (by omega)
  have h2 : y1 = _ := h2
  have h3 : y2 = _ := h3
  subst h2 h3
  have hbl : bsI al (S + 1) < S + 1 := by have := bsI_lt (al := al) S; omega
  have hfe : (nI (gb F (nr + 1)) = nI 0) = False := eq_F hg0 (by omega) (by omega)
  refine ⟨if k = 0 then nI (bsI al (S + 1)) else nI (al (bsI al (S + 1))), mb, qb, me, qe, ?_, (e1.trans (if_neg hc0)).trans (eM.trans ?_), f1, f2⟩
  · unfold F_X11_look F_X2_bestLook
    simp (disch := omega) only [ob_some, reduceIte, lit, le_T, le_F, lt_T, lt_F, eq_T, eq_F, nI_add, gac_0_0, gac_0_1, gac_0_2, gac_0_3, gac_0_4, gac_0_5, gac_0_6, gac_1_0, gic_1_1, gic_1_2, gic_1_3, gic_1_4, gic_1_5, gic_1_6, gac_3_0, gic_3_1, gic_3_2, gic_3_3, gic_3_4, gic_3_5, gic_3_6, gic_3_7, gic_5_0, gic_5_1, gic_5_2, gic_5_3, gic_5_4, gac_5_5, gac_5_6, gac_5_7, gac_5_8, gac_5_9, gac_5_10, gac_5_11, gac_13_0, gac_13_1, gic_13_2, gac_13_3, gac_13_4, gac_13_5, gac_13_6, gac_13_7, gac_13_8, gac_13_9, gic_13_10, gic_13_11, gic_13_12, gic_13_13, gac_14_0, gac_14_1, gac_14_2, gac_14_3, gic_14_4, gic_14_5, gic_15_0, gic_15_1, gic_15_2, gic_15_3, gic_15_4, gac_15_5, gac_15_6, gac_15_7, gac_15_8, gac_15_9, gac_15_10, gac_15_11, gac_23_0, gac_23_1, gac_23_2, gac_23_3, gac_23_4, gac_23_5, gac_23_6, gic_23_7, gic_23_8, gac_31_0, gic_31_1, gic_31_2, gac_193_0, gac_193_1, gac_193_2, gic_193_3, gac_198_0, gac_200_0, gac_200_1, gac_200_2, gac_200_3, gac_200_4, gac_200_5, gac_200_6, gic_200_7, gic_200_8, pic_1_1, pic_1_2, pic_1_3, pic_1_4, pic_1_5, pic_1_6, pic_3_1, pic_3_2, pic_3_3, pic_3_4, pic_3_5, pic_3_6, pic_3_7, pic_5_0, pic_5_1, pic_5_2, pic_5_3, pic_5_4, pic_13_2, pic_13_10, pic_13_11, pic_13_12, pic_13_13, pic_14_4, pic_14_5, pic_15_0, pic_15_1, pic_15_2, pic_15_3, pic_15_4, pic_23_7, pic_23_8, pic_31_1, pic_31_2, pic_193_3, pic_200_7, pic_200_8, gdc_0, gdc_1, gdc_3, gdc_5, gdc_13, gdc_14, gdc_15, gdc_23, gdc_31, gdc_193, gdc_198, gdc_200, ldc_2, stc_2, ldc_4, stc_4, ldc_6, stc_6, ldc_7, stc_7, ldc_8, stc_8, ldc_9, stc_9, ldc_10, stc_10, ldc_11, stc_11, ldc_12, stc_12, ldc_16, stc_16, ldc_17, stc_17, ldc_18, stc_18, ldc_19, stc_19, ldc_20, stc_20, ldc_21, stc_21, ldc_22, stc_22, ldc_24, stc_24, ldc_25, stc_25, ldc_26, stc_26, ldc_27, stc_27, ldc_28, stc_28, ldc_29, stc_29, ldc_30, stc_30, ldc_194, stc_194, ldc_195, stc_195, ldc_196, stc_196, ldc_199, stc_199, ldc_201, stc_201, ldc_202, stc_202, ldc_203, stc_203, ldc_204, stc_204, ldc_205, stc_205, ldc_206, stc_206, ldc_207, stc_207, ldc_208, stc_208, ldc_209, stc_209, ldc_210, stc_210, ldc_211, stc_211, ldc_213, stc_213, ldc_214, stc_214, ldc_215, stc_215, ldc_216, stc_216, ldc_217, stc_217, ldc_218, stc_218, ldc_219, stc_219, ldc_263, stc_263, lda_197, lda_262, lda_212, lda_32, u2_s, u2_a, u2_b, isPla_T cP5.1, within_TL, a1, hfe, b1, eC]
    simp only [B_X2_bestLook_16]
    rcases (show k = 0 ∨ k = 1 by omega) with ek | ek <;> subst ek <;> simp (disch := omega) only [lit, gac_13_0, gac_14_0, ob_some, cells_C hs15, hS, le_T, reduceIte, eq_T, eq_F] <;> rfl
  · simp only [B_X12_look_120]
    rcases (show k = 0 ∨ k = 1 by omega) with ek | ek <;> subst ek <;> simp (disch := omega) only [lit, mcells_ok e6, hS, ob_some, le_T, reduceIte, eq_T, eq_F, alM _ hbl] <;> rfl
