/-! plateau -/
set_option maxRecDepth 4000 in
theorem CI.t0 {len : Nat} {by_ : Nat → Nat} {R : Nat × (Nat → RT)} {W W1 : WT} {IM : Nat → WT} {md : Nat → Bool} {m m1 : Nat → Nat → Int32} (h : CI ((len, by_), R, W, IM, md) m) (hW : CW m1 14 W1) (hf : wf W1 ≤ R.1) (h1 : m1 1 1 = nI 0) (e13 : m1 13 2 = m 13 2) (eR : ∀ i, 220 ≤ i → i < 262 → m1 i = m i) (eI : ∀ i, 263 ≤ i → i < 996 → m1 i = m i) : CI ((0, by_), R, W1, IM, md) m1 := by
  obtain ⟨nr, RS⟩ := R
  obtain ⟨⟨ct1, ct2, ct3⟩, ⟨cr1, cr2, cr3⟩, ⟨cW, cwf⟩, cm1, cm2⟩ := h
  exact ⟨⟨h1, by omega, fun i hi => by omega⟩, ⟨e13.trans cr1, cr2, fun r hr => (cr3 r hr).congr (fun i h1 h2 => eR i (by omega) (by omega))⟩, ⟨hW, hf⟩, by rw [eI _ (by omega) (by omega)]; exact cm1, fun k hk hm => ⟨(cm2 k hk hm).1.congr (fun i h1 h2 => eI i (by omega) (by omega)), (cm2 k hk hm).2⟩⟩
set_option maxRecDepth 4000 in
theorem MI.t0 {len : Nat} {by_ : Nat → Nat} {R : Nat × (Nat → RT)} {W W1 : WT} {IM : Nat → WT} {md : Nat → Bool} {m m1 : Nat → Nat → Int32} (h : MI ((len, by_), R, W, IM, md) m) (hW : MW (nv m1) W1) (e27 : m1 996 27 = nI 0) (e31 : m1 996 31 = m 996 31) (e36 : m1 996 36 = m 996 36) (e47 : m1 996 47 = m 996 47) (eT : ∀ i, 1024 ≤ i → i < 1030 → m1 i = m i) (e39 : ∀ k, k < 6800 → m1 1039 k = m 1039 k) (e40 : m1 1040 = m 1040) : MI ((0, by_), R, W1, IM, md) m1 := by
  obtain ⟨nr, RS⟩ := R
  obtain ⟨⟨mt1, mt2⟩, ⟨mr1, mr2⟩, mW, mm1, mm2, mw, ms⟩ := h
  exact ⟨⟨e27, fun i hi => by omega⟩, ⟨e31.trans mr1, fun r hr => (mr2 r hr).congr (fun i h1 h2 => eT i (by omega) (by omega))⟩, hW, by rw [e40]; exact mm1, fun k hk hm => (mm2 k hk hm).congr (iv_congr hk e39), e36.trans mw, e47.trans ms⟩
set_option maxRecDepth 4000 in
theorem pb5 : 5 ∈ PB := by decide
set_option maxRecDepth 4000 in
theorem pb15' : 15 ∈ PB := by decide
set_option maxRecDepth 4000 in
theorem sb23' : 23 ∈ SB := by decide
set_option maxRecDepth 4000 in
/-- the class takes what was told -/
theorem w_begin {m : Nat → Nat → Int32} {q : Nat → Nat → Int64} {P : Nat → Nat → Nat} (hP : PR (blk m 5) P) : ∃ m1, F_X10_begin 14 5 (KS, m, q) = some ((), (KS, m1, q)) ∧ (∀ i, i < 15 ∨ 196 < i → m1 i = m i) ∧ PR (blk m1 15) P ∧ SR P (blk m1 23) (beginA P) ∧ m1 31 1 = nI 0 ∧ m1 31 2 = nI 0 ∧ m1 193 3 = nI 0 := by
  obtain ⟨ma, a1, a2, a3, a4, a5⟩ := p_copyFrom (q := q) (m := m) pb15' pb5 (by omega)
  have hPa : PR (blk ma 15) P := hP.congr a3 a4 a5
  obtain ⟨mb, b1, b2, b3⟩ := s_begin (q := q) sb23' pb15' (by omega) hPa
  refine ⟨mk_u2 (mk_u2 (mk_u2 mb 31 1 (nI 0)) 31 2 (nI 0)) 193 3 (nI 0), ?_, fun i hi => ?_, ?_, ?_, ?_, ?_, u2_s⟩
  · unfold F_X10_begin F_X0_clear
    simp (disch := omega) only [ob_some, reduceIte, lit, le_T, le_F, lt_T, lt_F, eq_T, eq_F, nI_add, gac_0_0, gac_0_1, gac_0_2, gac_0_3, gac_0_4, gac_0_5, gac_0_6, gac_1_0, gic_1_1, gic_1_2, gic_1_3, gic_1_4, gic_1_5, gic_1_6, gac_3_0, gic_3_1, gic_3_2, gic_3_3, gic_3_4, gic_3_5, gic_3_6, gic_3_7, gic_5_0, gic_5_1, gic_5_2, gic_5_3, gic_5_4, gac_5_5, gac_5_6, gac_5_7, gac_5_8, gac_5_9, gac_5_10, gac_5_11, gac_13_0, gac_13_1, gic_13_2, gac_13_3, gac_13_4, gac_13_5, gac_13_6, gac_13_7, gac_13_8, gac_13_9, gic_13_10, gic_13_11, gic_13_12, gic_13_13, gac_14_0, gac_14_1, gac_14_2, gac_14_3, gic_14_4, gic_14_5, gic_15_0, gic_15_1, gic_15_2, gic_15_3, gic_15_4, gac_15_5, gac_15_6, gac_15_7, gac_15_8, gac_15_9, gac_15_10, gac_15_11, gac_23_0, gac_23_1, gac_23_2, gac_23_3, gac_23_4, gac_23_5, gac_23_6, gic_23_7, gic_23_8, gac_31_0, gic_31_1, gic_31_2, gac_193_0, gac_193_1, gac_193_2, gic_193_3, gac_198_0, gac_200_0, gac_200_1, gac_200_2, gac_200_3, gac_200_4, gac_200_5, gac_200_6, gic_200_7, gic_200_8, pic_1_1, pic_1_2, pic_1_3, pic_1_4, pic_1_5, pic_1_6, pic_3_1, pic_3_2, pic_3_3, pic_3_4, pic_3_5, pic_3_6, pic_3_7, pic_5_0, pic_5_1, pic_5_2, pic_5_3, pic_5_4, pic_13_2, pic_13_10, pic_13_11, pic_13_12, pic_13_13, pic_14_4, pic_14_5, pic_15_0, pic_15_1, pic_15_2, pic_15_3, pic_15_4, pic_23_7, pic_23_8, pic_31_1, pic_31_2, pic_193_3, pic_200_7, pic_200_8, gdc_0, gdc_1, gdc_3, gdc_5, gdc_13, gdc_14, gdc_15, gdc_23, gdc_31, gdc_193, gdc_198, gdc_200, ldc_2, stc_2, ldc_4, stc_4, ldc_6, stc_6, ldc_7, stc_7, ldc_8, stc_8, ldc_9, stc_9, ldc_10, stc_10, ldc_11, stc_11, ldc_12, stc_12, ldc_16, stc_16, ldc_17, stc_17, ldc_18, stc_18, ldc_19, stc_19, ldc_20, stc_20, ldc_21, stc_21, ldc_22, stc_22, ldc_24, stc_24, ldc_25, stc_25, ldc_26, stc_26, ldc_27, stc_27, ldc_28, stc_28, ldc_29, stc_29, ldc_30, stc_30, ldc_194, stc_194, ldc_195, stc_195, ldc_196, stc_196, ldc_199, stc_199, ldc_201, stc_201, ldc_202, stc_202, ldc_203, stc_203, ldc_204, stc_204, ldc_205, stc_205, ldc_206, stc_206, ldc_207, stc_207, ldc_208, stc_208, ldc_209, stc_209, ldc_210, stc_210, ldc_211, stc_211, ldc_213, stc_213, ldc_214, stc_214, ldc_215, stc_215, ldc_216, stc_216, ldc_217, stc_217, ldc_218, stc_218, ldc_219, stc_219, ldc_263, stc_263, lda_197, lda_262, lda_212, lda_32, u2_s, u2_a, u2_b, a1, b1]
  · rw [mk_u2_ne (by omega), mk_u2_ne (by omega), mk_u2_ne (by omega), b2 i (by omega), a2 i (by omega)]
  · refine hPa.keep (fun j hj => ?_)
    rw [mk_u2_ne (by omega), mk_u2_ne (by omega), mk_u2_ne (by omega), b2 _ (by omega)]
  · have hb := hP.2.1
    have hsq := hP.sq
    refine b3.set (SEq.of (fun j hj => ?_)) (by omega) (by omega) (by omega)
    rw [mk_u2_ne (by omega), mk_u2_ne (by omega), mk_u2_ne (by omega)]
  · rw [u2_a (by omega), u2_b (by omega), u2_s]
  · rw [u2_a (by omega), u2_s]
set_option maxRecDepth 4000 in
theorem mpi_vq : (∀ j, j ≤ 7 → mpi j ≠ 1015 ∧ mpi j < 1015) := by decide
set_option maxRecDepth 4000 in
/-- the reference takes what was told -/
theorem m_begin {m : Nat → Nat → Int32} {q : Nat → Nat → Int64} {P : Nat → Nat → Nat} (hP : PR (vq m) P) : ∃ m1, B_X12_plateau_21 mk_fu 996 (nI 0) (KS, m, q) = some (nI (P 0 2), (KS, m1, q)) ∧ (∀ i, i < 996 ∨ 1014 < i → m1 i = m i) ∧ (∀ k, k ≠ 50 → m1 996 k = m 996 k) ∧ MP m1 P ∧ MS P (blk m1 997) (beginA P) ∧ m1 997 7 = nI 0 ∧ m1 997 8 = m 997 8 ∧ m1 997 9 = m 997 9 ∧ m1 996 50 = nI 0 := by
  obtain ⟨g, hg⟩ : ∃ g, mk_fu = g + 1 + 1 + 1 + 1 + 1 + 1 := ⟨99994, rfl⟩
  have st : ∀ f j m, j < 5 → B_X12_plateau_21 (f + 1) 996 (nI j) (KS, m, q) = B_X12_plateau_21 f 996 (nI (j + 1)) (KS, mk_u2 m 997 j (m 1015 j), q) := fun f j m hj => by
    rw [B_X12_plateau_21]
    simp (disch := omega) only [gdm, gam_1, gam_2, gam_3, gam_4, gam_5, gam_6, gam_7, gam_8, gam_9, gam_10, gam_11, gam_12, gam_13, gam_14, gam_15, gam_16, gam_17, gam_18, gam_19, gam_20, gam_21, gam_22, gam_23, gam_24, gam_25, gam_26, gam_37, gam_38, gam_39, gam_40, gam_41, gam_42, gam_43, gam_44, gam_45, gam_46, gam_48, gam_49, gam_56, gam_57, gam_58, gam_59, gam_60, gam_61, gim_27, gim_28, gim_29, gim_30, gim_31, gim_32, gim_33, gim_34, gim_35, gim_36, gim_47, gim_50, gim_51, gim_52, gim_53, gim_54, gim_55, gim_62, gim_63, ob_some, reduceIte, lit, le_T, le_F, lt_T, lt_F, eq_T, eq_F, nI_add, ldm_997, stm_997, ldm_998, stm_998, ldm_999, stm_999, ldm_1000, stm_1000, ldm_1001, stm_1001, ldm_1002, stm_1002, ldm_1003, stm_1003, ldm_1004, stm_1004, ldm_1005, stm_1005, ldm_1006, stm_1006, ldm_1007, stm_1007, ldm_1008, stm_1008, ldm_1009, stm_1009, ldm_1010, stm_1010, ldm_1011, stm_1011, ldm_1012, stm_1012, ldm_1013, stm_1013, ldm_1014, stm_1014, ldm_1015, stm_1015, ldm_1016, stm_1016, ldm_1017, stm_1017, ldm_1018, stm_1018, ldm_1019, stm_1019, ldm_1020, stm_1020, ldm_1021, stm_1021, ldm_1022, stm_1022, u2_s, u2_a, u2_b, not_true, not_false_iff]
  have hz : ∃ mz, B_X12_plateau_21 mk_fu 996 (nI 0) (KS, m, q) = B_X12_plateau_21 (g + 1) 996 (nI 5) (KS, mz, q) ∧ (∀ i, i ≠ 997 → mz i = m i) ∧ (∀ k, k < 5 → mz 997 k = m 1015 k) ∧ (∀ k, 5 ≤ k → mz 997 k = m 997 k) := by
    refine ⟨mk_u2 (mk_u2 (mk_u2 (mk_u2 (mk_u2 m 997 0 (m 1015 0)) 997 1 (m 1015 1)) 997 2 (m 1015 2)) 997 3 (m 1015 3)) 997 4 (m 1015 4), ?_, fun i hi => ?_, fun k hk => ?_, fun k hk => ?_⟩
    · rw [hg, st _ 0 _ (by omega), st _ 1 _ (by omega), st _ 2 _ (by omega), st _ 3 _ (by omega), st _ 4 _ (by omega)]
      simp (disch := omega) only [u2_s, u2_a, u2_b]
    · simp (disch := omega) only [mk_u2_ne]
    · rcases (show k = 0 ∨ k = 1 ∨ k = 2 ∨ k = 3 ∨ k = 4 by omega) with e | e | e | e | e <;> subst e <;> simp (disch := omega) only [u2_s, u2_a, u2_b]
    · simp (disch := omega) only [u2_s, u2_a, u2_b]
  obtain ⟨mz, z1, z2, z3, z4⟩ := hz
  obtain ⟨ma, a1, a2, a3⟩ := copies_ok (m0 := mk_u2 mz 997 7 (nI 0)) (q := q) kk_1016 kk_1013 (by omega) (by omega) (by omega)
  obtain ⟨mb, b1, b2, b3⟩ := copies_ok (m0 := ma) (q := q) kk_1017 kk_1014 (by omega) (by omega) (by omega)
  obtain ⟨mc, c1, c2, c3⟩ := copies_ok (m0 := mb) (q := q) kk_1018 kk_1005 (by omega) (by omega) (by omega)
  obtain ⟨md, d1, d2, d3⟩ := copies_ok (m0 := mc) (q := q) kk_1019 kk_1006 (by omega) (by omega) (by omega)
  obtain ⟨me, e1, e2, e3⟩ := copies_ok (m0 := md) (q := q) kk_1020 kk_1007 (by omega) (by omega) (by omega)
  obtain ⟨mf, f1, f2, f3⟩ := copies_ok (m0 := me) (q := q) kk_1021 kk_1008 (by omega) (by omega) (by omega)
  obtain ⟨mg, g1, g2, g3⟩ := copies_ok (m0 := mf) (q := q) kk_1022 kk_1009 (by omega) (by omega) (by omega)
  have hall : ∀ i, i ≠ 997 → i ≠ 1013 → i ≠ 1014 → ¬ (1005 ≤ i ∧ i ≤ 1009) → mg i = m i := fun i h1 h2 h3 h4 => by
    rw [g2 i (by omega), f2 i (by omega), e2 i (by omega), d2 i (by omega), c2 i (by omega), b2 i (by omega), a2 i (by omega), mk_u2_ne h1, z2 i h1]
  have h997 : ∀ k, mg 997 k = mk_u2 mz 997 7 (nI 0) 997 k := fun k => by
    rw [g2 _ (by omega), f2 _ (by omega), e2 _ (by omega), d2 _ (by omega), c2 _ (by omega), b2 _ (by omega), a2 _ (by omega)]
  have q13 : ∀ k, k < 6 → mg 1013 k = m 1016 k := fun k hk => by
    rw [g2 _ (by omega), f2 _ (by omega), e2 _ (by omega), d2 _ (by omega), c2 _ (by omega), b2 _ (by omega), a3 k hk, mk_u2_ne (by omega), z2 _ (by omega)]
  have q14 : ∀ k, k < 6 → mg 1014 k = m 1017 k := fun k hk => by
    rw [g2 _ (by omega), f2 _ (by omega), e2 _ (by omega), d2 _ (by omega), c2 _ (by omega), b3 k hk, a2 _ (by omega), mk_u2_ne (by omega), z2 _ (by omega)]
  have q05 : ∀ k, k < 6 → mg 1005 k = m 1018 k := fun k hk => by
    rw [g2 _ (by omega), f2 _ (by omega), e2 _ (by omega), d2 _ (by omega), c3 k hk, b2 _ (by omega), a2 _ (by omega), mk_u2_ne (by omega), z2 _ (by omega)]
  have q06 : ∀ k, k < 4 → mg 1006 k = m 1019 k := fun k hk => by
    rw [g2 _ (by omega), f2 _ (by omega), e2 _ (by omega), d3 k hk, c2 _ (by omega), b2 _ (by omega), a2 _ (by omega), mk_u2_ne (by omega), z2 _ (by omega)]
  have q07 : ∀ k, k < 4 → mg 1007 k = m 1020 k := fun k hk => by
    rw [g2 _ (by omega), f2 _ (by omega), e3 k hk, d2 _ (by omega), c2 _ (by omega), b2 _ (by omega), a2 _ (by omega), mk_u2_ne (by omega), z2 _ (by omega)]
  have q08 : ∀ k, k < 4 → mg 1008 k = m 1021 k := fun k hk => by
    rw [g2 _ (by omega), f3 k hk, e2 _ (by omega), d2 _ (by omega), c2 _ (by omega), b2 _ (by omega), a2 _ (by omega), mk_u2_ne (by omega), z2 _ (by omega)]
  have q09 : ∀ k, k < 4 → mg 1009 k = m 1022 k := fun k hk => by
    rw [g3 k hk, f2 _ (by omega), e2 _ (by omega), d2 _ (by omega), c2 _ (by omega), b2 _ (by omega), a2 _ (by omega), mk_u2_ne (by omega), z2 _ (by omega)]
  have hMP : MP mg P := by
    refine hP.congr (fun k hk => ?_) (fun j k h1 h2 hk => ?_) (fun j k h1 h2 hk => ?_)
    · show mg 997 k = m 1015 k
      rw [h997, u2_b (by omega)]; exact z3 k hk
    · rcases (show j = 1 ∨ j = 2 ∨ j = 3 by omega) with e | e | e <;> subst e
      · exact q13 k hk
      · exact q05 k hk
      · exact q14 k hk
    · rcases (show j = 4 ∨ j = 5 ∨ j = 6 ∨ j = 7 by omega) with e | e | e | e <;> subst e
      · exact q06 k hk
      · exact q07 k hk
      · exact q08 k hk
      · exact q09 k hk
  obtain ⟨mh, h1, ⟨h2, h3⟩, h4⟩ := begins_ok (q := q) hMP
  have hk7 : mg 997 7 = nI 0 := by rw [h997, u2_s]
  have n2 : mh 997 2 = nI (P 0 2) := (h3 2 (by omega) (by omega)).trans hMP.1.2.2.1
  refine ⟨mk_u2 mh 996 50 (nI 0), ?_, fun i hi => ?_, fun k hk => ?_, ?_, h4, ?_, ?_, ?_, u2_s⟩
  · rw [z1, B_X12_plateau_21]
    simp (disch := omega) only [gdm, gam_1, gam_2, gam_3, gam_4, gam_5, gam_6, gam_7, gam_8, gam_9, gam_10, gam_11, gam_12, gam_13, gam_14, gam_15, gam_16, gam_17, gam_18, gam_19, gam_20, gam_21, gam_22, gam_23, gam_24, gam_25, gam_26, gam_37, gam_38, gam_39, gam_40, gam_41, gam_42, gam_43, gam_44, gam_45, gam_46, gam_48, gam_49, gam_56, gam_57, gam_58, gam_59, gam_60, gam_61, gim_27, gim_28, gim_29, gim_30, gim_31, gim_32, gim_33, gim_34, gim_35, gim_36, gim_47, gim_50, gim_51, gim_52, gim_53, gim_54, gim_55, gim_62, gim_63, ob_some, reduceIte, lit, le_T, le_F, lt_T, lt_F, eq_T, eq_F, nI_add, ldm_997, stm_997, ldm_998, stm_998, ldm_999, stm_999, ldm_1000, stm_1000, ldm_1001, stm_1001, ldm_1002, stm_1002, ldm_1003, stm_1003, ldm_1004, stm_1004, ldm_1005, stm_1005, ldm_1006, stm_1006, ldm_1007, stm_1007, ldm_1008, stm_1008, ldm_1009, stm_1009, ldm_1010, stm_1010, ldm_1011, stm_1011, ldm_1012, stm_1012, ldm_1013, stm_1013, ldm_1014, stm_1014, ldm_1015, stm_1015, ldm_1016, stm_1016, ldm_1017, stm_1017, ldm_1018, stm_1018, ldm_1019, stm_1019, ldm_1020, stm_1020, ldm_1021, stm_1021, ldm_1022, stm_1022, u2_s, u2_a, u2_b, not_true, not_false_iff, a1, b1, c1, d1, e1, f1, g1, h1, pim_50, n2]
  · rw [mk_u2_ne (by omega), h2 i (by omega), hall i (by omega) (by omega) (by omega) (by omega)]
  · rw [u2_b hk, h2 _ (by omega), hall _ (by omega) (by omega) (by omega) (by omega)]
  · refine hMP.congr (fun k hk => ?_) (fun j k h5 h6 hk => ?_) (fun j k h5 h6 hk => ?_)
    · exact h3 k (by omega) (by omega)
    · rcases (show j = 1 ∨ j = 2 ∨ j = 3 by omega) with e | e | e <;> subst e <;> exact congrFun (h2 _ (by show _ < 997 ∨ 1004 < _; decide)) k
    · rcases (show j = 4 ∨ j = 5 ∨ j = 6 ∨ j = 7 by omega) with e | e | e | e <;> subst e <;> exact congrFun (h2 _ (by show _ < 997 ∨ 1004 < _; decide)) k
  · rw [u2_a (by omega), h3 7 (by omega) (by omega)]; exact hk7
  · rw [u2_a (by omega), h3 8 (by omega) (by omega), h997, u2_b (by omega)]; exact z4 8 (by omega)
  · rw [u2_a (by omega), h3 9 (by omega) (by omega), h997, u2_b (by omega)]; exact z4 9 (by omega)
set_option maxRecDepth 4000 in
theorem op_plateau : OP (F_X11_plateau 0) (F_X12_plateau 996) := by
  intro m q hI
  obtain ⟨⟨⟨⟨len, by_⟩, ⟨nr, RS⟩, ⟨P, A, H, n, N, nn, fo, x⟩, IM, md⟩, hC, hM⟩, hE⟩ := id hI
  obtain ⟨⟨ct1, ct2, ct3⟩, ⟨cr1, cr2, cr3⟩, ⟨⟨cP, ⟨cA, cAh⟩, cH, ⟨cn1, cn2⟩, ⟨cf1, cf2⟩, ⟨cx1, cx2⟩⟩, cwf⟩, cm1, cm2⟩ := id hC
  obtain ⟨⟨mt1, mt2⟩, ⟨mr1, mr2⟩, ⟨mP, ⟨mA, mAh⟩, ⟨mh1, mh2, mh3⟩, ⟨mn1, mn2⟩, ⟨mf1, mf2⟩, ⟨mx1, mx2⟩⟩, mm1, mm2, mw, ms⟩ := id hM
  have cP5 : m 15 0 = nI (P 0 0) ∧ m 15 1 = nI (P 0 1) ∧ m 15 2 = nI (P 0 2) ∧ m 15 3 = nI (P 0 3) ∧ m 15 4 = nI (P 0 4) := cP.five
  have mP5 : m 997 0 = nI (P 0 0) ∧ m 997 1 = nI (P 0 1) ∧ m 997 2 = nI (P 0 2) ∧ m 997 3 = nI (P 0 3) ∧ m 997 4 = nI (P 0 4) := mP.five
  obtain ⟨B0, B1, B2, B3, B4, B5⟩ := cP.bd
  have hTC : TC (len, by_) m := ⟨ct1, ct2, ct3⟩
  obtain ⟨m1, a1, a2, a3, a4⟩ := readC (q := q) hTC
  generalize hz : plz (len, by_) 41 0 0 zD = z at *
  by_cases c0 : z.1 = 0
  · have hPm := a4 c0
    have hP2 : PR (blk (mk_u2 m1 1 1 (nI 0)) 5) z.2 := hPm.keep (fun j _ => mk_u2_ne (by omega))
    obtain ⟨m2, b1, b2, b3, b4, b5, b6, b7⟩ := w_begin (q := q) hP2
    have hlow : ∀ i, 996 ≤ i → m2 i = m i := fun i hi => by rw [b2 i (by omega), mk_u2_ne (by omega), a2.1 i (by omega) (by omega)]
    have hTM : TM (len, by_) m2 := ⟨by rw [hlow _ (by omega)]; exact mt1, ct2, fun i hi => ⟨by rw [hlow _ (by omega)]; exact mt2 i hi, (ct3 i hi).2⟩⟩
    obtain ⟨m3, r1, r2, r3, r4, r5, r6⟩ := readM (q := q) hTM
    rw [hz] at r5 r6
    obtain ⟨m4, s1, s2, s3, s4, s5, s6, s7, s8, s9⟩ := m_begin (q := q) (r6 c0)
    have hsq := (r6 c0).sq
    have hbd := (r6 c0).2.1
    have h7 : ∀ i, i < 996 → m4 i = m2 i := fun i hi => by rw [s2 i (by omega), r2 i (by omega) (by omega)]
    refine ⟨nI (z.2 0 2), m2, q, m4, q, ?_, ?_, ⟨⟨((0, by_), (nr, RS), (z.2, beginA z.2, H, 0, N, 0, fo, x), IM, md), ?_, ?_⟩, hE.up ?_⟩, ?_⟩
    · have h0 : (nI z.1 = 0) = True := eq_true (by rw [c0]; rfl)
      have n2 : m2 15 2 = nI (z.2 0 2) := b3.1.2.2.1
      unfold F_X11_plateau F_X8_clear
      simp (disch := omega) only [ob_some, reduceIte, lit, le_T, le_F, lt_T, lt_F, eq_T, eq_F, nI_add, gac_0_0, gac_0_1, gac_0_2, gac_0_3, gac_0_4, gac_0_5, gac_0_6, gac_1_0, gic_1_1, gic_1_2, gic_1_3, gic_1_4, gic_1_5, gic_1_6, gac_3_0, gic_3_1, gic_3_2, gic_3_3, gic_3_4, gic_3_5, gic_3_6, gic_3_7, gic_5_0, gic_5_1, gic_5_2, gic_5_3, gic_5_4, gac_5_5, gac_5_6, gac_5_7, gac_5_8, gac_5_9, gac_5_10, gac_5_11, gac_13_0, gac_13_1, gic_13_2, gac_13_3, gac_13_4, gac_13_5, gac_13_6, gac_13_7, gac_13_8, gac_13_9, gic_13_10, gic_13_11, gic_13_12, gic_13_13, gac_14_0, gac_14_1, gac_14_2, gac_14_3, gic_14_4, gic_14_5, gic_15_0, gic_15_1, gic_15_2, gic_15_3, gic_15_4, gac_15_5, gac_15_6, gac_15_7, gac_15_8, gac_15_9, gac_15_10, gac_15_11, gac_23_0, gac_23_1, gac_23_2, gac_23_3, gac_23_4, gac_23_5, gac_23_6, gic_23_7, gic_23_8, gac_31_0, gic_31_1, gic_31_2, gac_193_0, gac_193_1, gac_193_2, gic_193_3, gac_198_0, gac_200_0, gac_200_1, gac_200_2, gac_200_3, gac_200_4, gac_200_5, gac_200_6, gic_200_7, gic_200_8, pic_1_1, pic_1_2, pic_1_3, pic_1_4, pic_1_5, pic_1_6, pic_3_1, pic_3_2, pic_3_3, pic_3_4, pic_3_5, pic_3_6, pic_3_7, pic_5_0, pic_5_1, pic_5_2, pic_5_3, pic_5_4, pic_13_2, pic_13_10, pic_13_11, pic_13_12, pic_13_13, pic_14_4, pic_14_5, pic_15_0, pic_15_1, pic_15_2, pic_15_3, pic_15_4, pic_23_7, pic_23_8, pic_31_1, pic_31_2, pic_193_3, pic_200_7, pic_200_8, gdc_0, gdc_1, gdc_3, gdc_5, gdc_13, gdc_14, gdc_15, gdc_23, gdc_31, gdc_193, gdc_198, gdc_200, ldc_2, stc_2, ldc_4, stc_4, ldc_6, stc_6, ldc_7, stc_7, ldc_8, stc_8, ldc_9, stc_9, ldc_10, stc_10, ldc_11, stc_11, ldc_12, stc_12, ldc_16, stc_16, ldc_17, stc_17, ldc_18, stc_18, ldc_19, stc_19, ldc_20, stc_20, ldc_21, stc_21, ldc_22, stc_22, ldc_24, stc_24, ldc_25, stc_25, ldc_26, stc_26, ldc_27, stc_27, ldc_28, stc_28, ldc_29, stc_29, ldc_30, stc_30, ldc_194, stc_194, ldc_195, stc_195, ldc_196, stc_196, ldc_199, stc_199, ldc_201, stc_201, ldc_202, stc_202, ldc_203, stc_203, ldc_204, stc_204, ldc_205, stc_205, ldc_206, stc_206, ldc_207, stc_207, ldc_208, stc_208, ldc_209, stc_209, ldc_210, stc_210, ldc_211, stc_211, ldc_213, stc_213, ldc_214, stc_214, ldc_215, stc_215, ldc_216, stc_216, ldc_217, stc_217, ldc_218, stc_218, ldc_219, stc_219, ldc_263, stc_263, lda_197, lda_262, lda_212, lda_32, u2_s, u2_a, u2_b, a1, c0, b1, n2]
    · unfold F_X12_plateau
      simp (disch := omega) only [gdm, gam_1, gam_2, gam_3, gam_4, gam_5, gam_6, gam_7, gam_8, gam_9, gam_10, gam_11, gam_12, gam_13, gam_14, gam_15, gam_16, gam_17, gam_18, gam_19, gam_20, gam_21, gam_22, gam_23, gam_24, gam_25, gam_26, gam_37, gam_38, gam_39, gam_40, gam_41, gam_42, gam_43, gam_44, gam_45, gam_46, gam_48, gam_49, gam_56, gam_57, gam_58, gam_59, gam_60, gam_61, gim_27, gim_28, gim_29, gim_30, gim_31, gim_32, gim_33, gim_34, gim_35, gim_36, gim_47, gim_50, gim_51, gim_52, gim_53, gim_54, gim_55, gim_62, gim_63, ob_some, reduceIte, lit, le_T, le_F, lt_T, lt_F, eq_T, eq_F, nI_add, ldm_997, stm_997, ldm_998, stm_998, ldm_999, stm_999, ldm_1000, stm_1000, ldm_1001, stm_1001, ldm_1002, stm_1002, ldm_1003, stm_1003, ldm_1004, stm_1004, ldm_1005, stm_1005, ldm_1006, stm_1006, ldm_1007, stm_1007, ldm_1008, stm_1008, ldm_1009, stm_1009, ldm_1010, stm_1010, ldm_1011, stm_1011, ldm_1012, stm_1012, ldm_1013, stm_1013, ldm_1014, stm_1014, ldm_1015, stm_1015, ldm_1016, stm_1016, ldm_1017, stm_1017, ldm_1018, stm_1018, ldm_1019, stm_1019, ldm_1020, stm_1020, ldm_1021, stm_1021, ldm_1022, stm_1022, u2_s, u2_a, u2_b, not_true, not_false_iff, r1, r5, c0, s1]
    · refine CI.same (m := m2) (CI.t0 (m := m) hC (W1 := (z.2, beginA z.2, H, 0, N, 0, fo, x)) ⟨.inr b3, ⟨b4, by show 0 ≤ 999; omega⟩, ⟨0, by omega, b5, b6, by omega, fun i hi => by omega⟩, ⟨b7, by omega, fun i hi => by omega⟩, ⟨?_, cf2⟩, ?_, cx2⟩ cwf ?_ ?_ (fun i h1 h2 => ?_) (fun i h1 h2 => ?_)) h7
      · show m2 14 4 = _
        rw [b2 _ (by omega), u2_a (by omega), a2.1 _ (by omega) (by omega)]; exact cf1
      · show m2 14 5 = _
        rw [b2 _ (by omega), u2_a (by omega), a2.1 _ (by omega) (by omega)]; exact cx1
      · rw [b2 _ (by omega), u2_s]
      · rw [b2 _ (by omega), u2_a (by omega), a2.1 _ (by omega) (by omega)]
      · rw [b2 _ (by omega), mk_u2_ne (by omega), a2.1 _ (by omega) (by omega)]
      · rw [b2 _ (by omega), mk_u2_ne (by omega), a2.1 _ (by omega) (by omega)]
    · have hlow2 : ∀ i, 1022 < i → m4 i = m i := fun i hi => by rw [s2 i (by omega), r2 i (by omega) (by omega), hlow i (by omega)]
      have h96 : ∀ k, k < 27 ∨ k = 30 ∨ k = 31 ∨ 35 ≤ k → k ≠ 50 → m4 996 k = m 996 k := fun k hk h50 => by rw [s3 k h50, r3 k hk, hlow _ (by omega)]
      have e9 : ∀ k, m3 997 k = m 997 k := fun k => by rw [r2 _ (by omega) (by omega), hlow _ (by omega)]
      refine MI.t0 (m := m) hM (W1 := (z.2, beginA z.2, H, 0, N, 0, fo, x)) ⟨.inr ?_, ⟨?_, by show 0 ≤ 999; omega⟩, ⟨s9, by omega, fun i hi => by omega⟩, ⟨s6, by omega, fun i hi => by omega⟩, ⟨?_, cf2⟩, ?_, cx2⟩ ?_ (h96 _ (by omega) (by omega)) (h96 _ (by omega) (by omega)) (h96 _ (by omega) (by omega)) (fun i h1 h2 => hlow2 i (by omega)) (fun k _ => by rw [hlow2 _ (by omega)]) (hlow2 _ (by omega))
      · refine s4.congr (fun k hk => rfl) (fun j k h5 h6 hk => ?_) (fun j k h5 h6 hk => ?_)
        · rcases (show j = 1 ∨ j = 2 ∨ j = 3 by omega) with e | e | e <;> subst e <;> rfl
        · rcases (show j = 4 ∨ j = 5 ∨ j = 6 ∨ j = 7 by omega) with e | e | e | e <;> subst e <;> rfl
      · refine MW.st0 (v := blk m4 997) s5 (by omega) (by omega) (by omega) rfl rfl (fun j k h1 h2 hk => ?_)
        show (if j = 8 then m4 996 50 else if j < 8 then m4 (997 + j) k else if j < 19 then m4 (996 + j) k else m4 1033 k) = m4 (997 + j) k
        rw [if_neg (by omega), if_pos h2]
      · show m4 997 9 = _
        rw [s8, e9]; exact mf1
      · show m4 997 8 = _
        rw [s7, e9]; exact mx1
      · rw [s3 _ (by omega)]; exact r4
    · intro i hi; rw [s2 i (by omega), r2 i (by omega) (by omega), hlow i (by omega)]
    · intro i hi; rw [s2 i (by omega), r2 i (by omega) (by omega), hlow i (by omega)]
  · have hlow : ∀ i, 996 ≤ i → mk_u2 m1 1 1 (nI 0) i = m i := fun i hi => by rw [mk_u2_ne (by omega), a2.1 i (by omega) (by omega)]
    have hTM : TM (len, by_) (mk_u2 m1 1 1 (nI 0)) := ⟨by rw [hlow _ (by omega)]; exact mt1, ct2, fun i hi => ⟨by rw [hlow _ (by omega)]; exact mt2 i hi, (ct3 i hi).2⟩⟩
    obtain ⟨m3, r1, r2, r3, r4, r5, r6⟩ := readM (q := q) hTM
    rw [hz] at r5 r6
    have h7 : ∀ i, i < 996 → m3 i = mk_u2 m1 1 1 (nI 0) i := fun i hi => r2 i (by omega) (by omega)
    have hk : ∀ i, 13 ≤ i → i < 996 → m3 i = m i := fun i h1 h2 => by rw [h7 i h2, mk_u2_ne (by omega), a2.1 i (by omega) (by omega)]
    have hlow2 : ∀ i, (997 ≤ i ∧ i < 1015) ∨ 1022 < i → m3 i = m i := fun i hi => by rw [r2 i (by omega) (by omega), hlow i (by omega)]
    have h96 : ∀ k, k < 27 ∨ k = 30 ∨ k = 31 ∨ 35 ≤ k → m3 996 k = m 996 k := fun k hk => by rw [r3 k hk, hlow _ (by omega)]
    refine ⟨-nI 2 - nI z.1, mk_u2 m1 1 1 (nI 0), q, m3, q, ?_, ?_, ⟨⟨((0, by_), (nr, RS), (P, A, H, n, N, nn, fo, x), IM, md), ?_, ?_⟩, hE.up ?_⟩, ?_⟩
    · unfold F_X11_plateau F_X8_clear
      simp (disch := omega) only [ob_some, reduceIte, lit, le_T, le_F, lt_T, lt_F, eq_T, eq_F, nI_add, gac_0_0, gac_0_1, gac_0_2, gac_0_3, gac_0_4, gac_0_5, gac_0_6, gac_1_0, gic_1_1, gic_1_2, gic_1_3, gic_1_4, gic_1_5, gic_1_6, gac_3_0, gic_3_1, gic_3_2, gic_3_3, gic_3_4, gic_3_5, gic_3_6, gic_3_7, gic_5_0, gic_5_1, gic_5_2, gic_5_3, gic_5_4, gac_5_5, gac_5_6, gac_5_7, gac_5_8, gac_5_9, gac_5_10, gac_5_11, gac_13_0, gac_13_1, gic_13_2, gac_13_3, gac_13_4, gac_13_5, gac_13_6, gac_13_7, gac_13_8, gac_13_9, gic_13_10, gic_13_11, gic_13_12, gic_13_13, gac_14_0, gac_14_1, gac_14_2, gac_14_3, gic_14_4, gic_14_5, gic_15_0, gic_15_1, gic_15_2, gic_15_3, gic_15_4, gac_15_5, gac_15_6, gac_15_7, gac_15_8, gac_15_9, gac_15_10, gac_15_11, gac_23_0, gac_23_1, gac_23_2, gac_23_3, gac_23_4, gac_23_5, gac_23_6, gic_23_7, gic_23_8, gac_31_0, gic_31_1, gic_31_2, gac_193_0, gac_193_1, gac_193_2, gic_193_3, gac_198_0, gac_200_0, gac_200_1, gac_200_2, gac_200_3, gac_200_4, gac_200_5, gac_200_6, gic_200_7, gic_200_8, pic_1_1, pic_1_2, pic_1_3, pic_1_4, pic_1_5, pic_1_6, pic_3_1, pic_3_2, pic_3_3, pic_3_4, pic_3_5, pic_3_6, pic_3_7, pic_5_0, pic_5_1, pic_5_2, pic_5_3, pic_5_4, pic_13_2, pic_13_10, pic_13_11, pic_13_12, pic_13_13, pic_14_4, pic_14_5, pic_15_0, pic_15_1, pic_15_2, pic_15_3, pic_15_4, pic_23_7, pic_23_8, pic_31_1, pic_31_2, pic_193_3, pic_200_7, pic_200_8, gdc_0, gdc_1, gdc_3, gdc_5, gdc_13, gdc_14, gdc_15, gdc_23, gdc_31, gdc_193, gdc_198, gdc_200, ldc_2, stc_2, ldc_4, stc_4, ldc_6, stc_6, ldc_7, stc_7, ldc_8, stc_8, ldc_9, stc_9, ldc_10, stc_10, ldc_11, stc_11, ldc_12, stc_12, ldc_16, stc_16, ldc_17, stc_17, ldc_18, stc_18, ldc_19, stc_19, ldc_20, stc_20, ldc_21, stc_21, ldc_22, stc_22, ldc_24, stc_24, ldc_25, stc_25, ldc_26, stc_26, ldc_27, stc_27, ldc_28, stc_28, ldc_29, stc_29, ldc_30, stc_30, ldc_194, stc_194, ldc_195, stc_195, ldc_196, stc_196, ldc_199, stc_199, ldc_201, stc_201, ldc_202, stc_202, ldc_203, stc_203, ldc_204, stc_204, ldc_205, stc_205, ldc_206, stc_206, ldc_207, stc_207, ldc_208, stc_208, ldc_209, stc_209, ldc_210, stc_210, ldc_211, stc_211, ldc_213, stc_213, ldc_214, stc_214, ldc_215, stc_215, ldc_216, stc_216, ldc_217, stc_217, ldc_218, stc_218, ldc_219, stc_219, ldc_263, stc_263, lda_197, lda_262, lda_212, lda_32, u2_s, u2_a, u2_b, a1]
    · unfold F_X12_plateau
      simp (disch := omega) only [gdm, gam_1, gam_2, gam_3, gam_4, gam_5, gam_6, gam_7, gam_8, gam_9, gam_10, gam_11, gam_12, gam_13, gam_14, gam_15, gam_16, gam_17, gam_18, gam_19, gam_20, gam_21, gam_22, gam_23, gam_24, gam_25, gam_26, gam_37, gam_38, gam_39, gam_40, gam_41, gam_42, gam_43, gam_44, gam_45, gam_46, gam_48, gam_49, gam_56, gam_57, gam_58, gam_59, gam_60, gam_61, gim_27, gim_28, gim_29, gim_30, gim_31, gim_32, gim_33, gim_34, gim_35, gim_36, gim_47, gim_50, gim_51, gim_52, gim_53, gim_54, gim_55, gim_62, gim_63, ob_some, reduceIte, lit, le_T, le_F, lt_T, lt_F, eq_T, eq_F, nI_add, ldm_997, stm_997, ldm_998, stm_998, ldm_999, stm_999, ldm_1000, stm_1000, ldm_1001, stm_1001, ldm_1002, stm_1002, ldm_1003, stm_1003, ldm_1004, stm_1004, ldm_1005, stm_1005, ldm_1006, stm_1006, ldm_1007, stm_1007, ldm_1008, stm_1008, ldm_1009, stm_1009, ldm_1010, stm_1010, ldm_1011, stm_1011, ldm_1012, stm_1012, ldm_1013, stm_1013, ldm_1014, stm_1014, ldm_1015, stm_1015, ldm_1016, stm_1016, ldm_1017, stm_1017, ldm_1018, stm_1018, ldm_1019, stm_1019, ldm_1020, stm_1020, ldm_1021, stm_1021, ldm_1022, stm_1022, u2_s, u2_a, u2_b, not_true, not_false_iff, r1, r5]
    · exact CI.t0 (m := m) hC (CW.congr (m := m) ⟨cP, ⟨cA, cAh⟩, cH, ⟨cn1, cn2⟩, ⟨cf1, cf2⟩, ⟨cx1, cx2⟩⟩ (fun i h1 h2 => hk i (by omega) (by omega))) cwf (by rw [h7 _ (by omega), u2_s]) (by rw [hk _ (by omega) (by omega)]) (fun i h1 h2 => hk i (by omega) (by omega)) (fun i h1 h2 => hk i (by omega) (by omega))
    · exact MI.t0 (m := m) hM (MW.congr (a := nv m) ⟨mP, ⟨mA, mAh⟩, ⟨mh1, mh2, mh3⟩, ⟨mn1, mn2⟩, ⟨mf1, mf2⟩, ⟨mx1, mx2⟩⟩ (nv_congr (h96 _ (by omega)) (fun j k h1 _ => by rw [hlow2 _ (by omega)]) (fun i h1 h2 => hlow2 i (by omega)) (hlow2 _ (by omega)))) r4 (h96 _ (by omega)) (h96 _ (by omega)) (h96 _ (by omega)) (fun i h1 h2 => hlow2 i (by omega)) (fun k _ => by rw [hlow2 _ (by omega)]) (hlow2 _ (by omega))
    · intro i hi; exact hlow2 i (by omega)
    · intro i hi; exact hlow2 i (by omega)
