/-! takes, lull, harvest -/
set_option maxRecDepth 4000 in
theorem takesC {P A : Nat → Nat → Nat} {fo : Nat} {ρ : Option RT} {p k am n : Nat} (hf : fo ≤ 6) (hp : p < P 0 2) (hk : k < P 0 3) (ham : am ≤ 9999) (hn : n ≤ 60) : ∀ (d i f : Nat) (m : Nat → Nat → Int32) (q : Nat → Nat → Int64), i + d = 41 → d < f → QC m P A (fR fo) ρ → m 14 4 = fI fo →
    ∃ m1 q1, B_X2_leastWine_3 f 13 (nI p) (nI k) (nI am) (nI n) (nI i) (KS, m, q) = some (ansH 0 (fst (fun j => decide (am ≤ hoursA P ρ (-nI 1) n (upA A 3 p (min 99 (A 3 p + j))) 6 k)) i d), (KS, m1, q1)) ∧ Out m m1 200 208
  | 0, i, f, m, q, hd, hf1, hQ, h4 => by
    obtain ⟨f, rfl⟩ : ∃ f', f = f' + 1 := ⟨f - 1, by omega⟩
    refine ⟨m, q, ?_, Out.rf⟩
    simp only [B_X2_leastWine_3]
    simp (disch := omega) only [lit, lt_T, reduceIte]
    rfl
  | d + 1, i, f, m, q, hd, hf1, hQ, h4 => by
    obtain ⟨f, rfl⟩ : ∃ f', f = f' + 1 := ⟨f - 1, by omega⟩
    have hA := hQ.2.1.2
    obtain ⟨B1, B2, B3⟩ := hQ.1.2
    obtain ⟨ma, t1, t2, t3⟩ := trial_ok (q := q) hQ
    have A3 : A 3 p ≤ 99 := (t3.1 p hp).2.2.1.2
    have c3 : ma (200 + 3) p = nI (A 3 p) := (t3.1 p hp).2.2.1.1
    have hu : F_X7_urgeOn 200 (nI p) (nI i) (KS, ma, q) = some ((), (KS, mk_u2 ma 203 p (nI (min 99 (A 3 p + i))), q)) := by
      rw [s_urgeOn sb200 (show p < 6 by omega), c3, nI_add, mn99_n (by omega)]
    have hB : SR P (blk (mk_u2 ma 203 p (nI (min 99 (A 3 p + i)))) 200) (upA A 3 p (min 99 (A 3 p + i))) := t3.up (j0 := 3) (p := p) (fun j k => blk_u2 (m := ma) (b := 200) (j0 := 3)) (by omega)
    have oa : Out m (mk_u2 ma 203 p (nI (min 99 (A 3 p + i)))) 200 208 := fun j hj => by rw [mk_u2_ne (by omega)]; exact t2 j hj
    have ka := KC.out oa (by omega) (by omega)
    have h4a : mk_u2 ma 203 p (nI (min 99 (A 3 p + i))) 14 4 = fI fo := by rw [ka.1 _ (by omega) (by omega)]; exact h4
    obtain ⟨mb, qb, b1, b2, b3⟩ := goOn_ok (q := q) (n := n) (kept := -nI 1) (hQ.keep ka) h4a hf hB (by rw [up_j (by omega)]; omega) (by omega)
    have cg : mb 206 k = nI (hoursA P ρ (-nI 1) n (upA A 3 p (min 99 (A 3 p + i))) 6 k) := (b3.2.1 k hk).1
    have cg2 := (b3.2.1 k hk).2
    simp only [B_X2_leastWine_3]
    simp (disch := omega) only [lit, lt_F, reduceIte, gac_13_0, gac_14_1, gac_13_4, gac_200_5, ob_some, t1, hu, b1, ldc_206, cg]
    unfold fst
    by_cases hv : am ≤ hoursA P ρ (-nI 1) n (upA A 3 p (min 99 (A 3 p + i))) 6 k
    · rw [if_pos (decide_eq_true hv)]
      refine ⟨mb, qb, ?_, oa.trans b2⟩
      simp (disch := omega) only [lt_F, reduceIte]
      show _ = some (nI (0 + i), _)
      rw [Nat.zero_add]
    · rw [if_neg (show ¬ decide (am ≤ hoursA P ρ (-nI 1) n (upA A 3 p (min 99 (A 3 p + i))) 6 k) = true by rw [decide_eq_true_iff]; exact hv)]
      obtain ⟨m3, q3, x1, x2⟩ := takesC hf hp hk ham hn d (i + 1) f mb qb (by omega) (by omega) (hQ.keep (ka.trans (KC.out b2 (by omega) (by omega)))) (by rw [b2 _ (by omega)]; exact h4a)
      refine ⟨m3, q3, ?_, (oa.trans b2).trans x2⟩
      simp (disch := omega) only [lt_T, reduceIte, nI_add]
      exact x1
set_option maxRecDepth 4000 in
theorem takesM {m0 : Nat → Nat → Int32} {P A : Nat → Nat → Nat} {ρ : Option RT} {p k am n : Nat} (hQ : QM m0 P ρ (-nI 1)) (hA : MS P (blk m0 997) A) (hAh : A 0 1 ≤ 999) (hp : p < P 0 2) (hk : k < P 0 3) (ham : am ≤ 9999) (hn : n ≤ 60) : ∀ (d i f : Nat) (m : Nat → Nat → Int32) (q : Nat → Nat → Int64), i + d = 41 → d < f → KP m0 m → KB m0 m → m 996 47 = -nI 1 →
    ∃ m1 q1, B_X12_takes_54 f 996 (nI p) (nI k) (nI am) (nI n) (-nI 2) (nI i) (KS, m, q) = some (ansH 0 (fst (fun j => decide (am ≤ hoursA P ρ (-nI 1) n (upA A 3 p (min 99 (A 3 p + j))) 6 k)) i d), (KS, m1, q1)) ∧ KP m0 m1 ∧ KB m0 m1 ∧ m1 996 47 = -nI 1
  | 0, i, f, m, q, hd, hf1, hK, hB, h47 => by
    obtain ⟨f, rfl⟩ : ∃ f', f = f' + 1 := ⟨f - 1, by omega⟩
    refine ⟨m, q, ?_, hK, hB, h47⟩
    simp only [B_X12_takes_54]
    simp (disch := omega) only [lit, lt_T, reduceIte]
    rfl
  | d + 1, i, f, m, q, hd, hf1, hK, hB, h47 => by
    obtain ⟨f, rfl⟩ : ∃ f', f = f' + 2 := ⟨f - 2, by omega⟩
    obtain ⟨B1, B2, B3⟩ := hQ.1.2
    have hQ' := hQ.back hK.1 hB h47
    have hA' := hA.back hQ.1 hB
    have A3 : A 3 p ≤ 99 := (hA'.1 p hp).2.2.1.2
    have c3 : m 1000 p = nI (A 3 p) := (hA'.1 p hp).2.2.1.1
    have mo : MO m (mk_u2 m 1000 p (nI (min 99 (A 3 p + i)))) := MO.row (by omega) (by omega)
    have hB' : MS P (blk (mk_u2 m 1000 p (nI (min 99 (A 3 p + i)))) 997) (upA A 3 p (min 99 (A 3 p + i))) := hA'.up (j0 := 3) (p := p) (fun j k => blk_u2 (m := m) (b := 997) (j0 := 3)) (by omega)
    obtain ⟨mb, qb, b1, b2, b3⟩ := goFor_ok (q := q) (n := n) (hQ'.mo mo) hB' (by rw [up_j (by omega)]; omega) (by omega)
    obtain ⟨mc, c1, c2, c3', c4, c5⟩ := laysBack_ok (q := qb) mb ((hK.mo mo).mo b2)
    have c47 : mc 996 47 = -nI 1 := by rw [c4 47 (by omega) (by omega), b2.1 996 (by omega), u2_a (by omega)]; exact h47
    have cg : mb 1003 k = nI (hoursA P ρ (-nI 1) n (upA A 3 p (min 99 (A 3 p + i))) 6 k) := (b3.2.1 k hk).1
    have cg2 := (b3.2.1 k hk).2
    rw [B_X12_takes_54]
    simp (disch := omega) only [lit, lt_F, reduceIte, gam_4, gam_7, ldm_1000, stm_1000, ldm_1003, ob_some, c3, nI_add, up_to, b1, cg, B_X12_takes_111]
    unfold fst
    by_cases hv : am ≤ hoursA P ρ (-nI 1) n (upA A 3 p (min 99 (A 3 p + i))) 6 k
    · rw [if_pos (decide_eq_true hv)]
      refine ⟨mc, qb, ?_, c2, c3', c47⟩
      simp (disch := omega) only [lt_F, reduceIte, c1, ob_some]
      rw [B_X12_takes_54, lit, lit]
      by_cases hi : i + 1 = 41
      · simp (disch := omega) only [lit, lt_T, reduceIte]
        show _ = some (nI (0 + i), _)
        rw [Nat.zero_add]
      · simp (disch := omega) only [lit, lt_F, reduceIte, m2_F]
        show _ = some (nI (0 + i), _)
        rw [Nat.zero_add]
    · rw [if_neg (show ¬ decide (am ≤ hoursA P ρ (-nI 1) n (upA A 3 p (min 99 (A 3 p + i))) 6 k) = true by rw [decide_eq_true_iff]; exact hv)]
      obtain ⟨m3, q3, x1, x2⟩ := takesM hQ hA hAh hp hk ham hn d (i + 1) (f + 1) mc qb (by omega) (by omega) c2 c3' c47
      refine ⟨m3, q3, ?_, x2⟩
      simp (disch := omega) only [lt_T, reduceIte, c1, ob_some, nI_add]
      exact x1
set_option maxRecDepth 4000 in
theorem op_takes (x1 x2 x3 x4 : Int32) : OP (F_X11_takes 0 x1 x2 x3 x4) (F_X12_takes 996 x1 x2 x3 x4) := by
  intro m q hI
  obtain ⟨⟨⟨⟨len, by_⟩, ⟨nr, RS⟩, ⟨P, A, H, n, N, nn, fo, x⟩, IM, md⟩, hC, hM⟩, hE⟩ := id hI
  obtain ⟨⟨ct1, ct2, ct3⟩, ⟨cr1, cr2, cr3⟩, ⟨⟨cP, ⟨cA, cAh⟩, cH, ⟨cn1, cn2⟩, ⟨cf1, cf2⟩, ⟨cx1, cx2⟩⟩, cwf⟩, cm1, cm2⟩ := id hC
  obtain ⟨⟨mt1, mt2⟩, ⟨mr1, mr2⟩, ⟨mP, ⟨mA, mAh⟩, ⟨mh1, mh2, mh3⟩, ⟨mn1, mn2⟩, ⟨mf1, mf2⟩, ⟨mx1, mx2⟩⟩, mm1, mm2, mw, ms⟩ := id hM
  have cP5 : m 15 0 = nI (P 0 0) ∧ m 15 1 = nI (P 0 1) ∧ m 15 2 = nI (P 0 2) ∧ m 15 3 = nI (P 0 3) ∧ m 15 4 = nI (P 0 4) := cP.five
  have mP5 : m 997 0 = nI (P 0 0) ∧ m 997 1 = nI (P 0 1) ∧ m 997 2 = nI (P 0 2) ∧ m 997 3 = nI (P 0 3) ∧ m 997 4 = nI (P 0 4) := mP.five
  obtain ⟨B0, B1, B2, B3, B4, B5⟩ := cP.bd
  rcases within_C x1 0 (P 0 2) (by omega) (by omega) with ⟨p, -, hp, rfl⟩ | hno
  rotate_left
  · refine ⟨-nI 1, m, q, m, q, ?_, ?_, hI, fun _ _ => rfl⟩
    · unfold F_X11_takes; simp (disch := omega) only [ob_some, reduceIte, lit, le_T, le_F, lt_T, lt_F, eq_T, eq_F, nI_add, gac_0_0, gac_0_1, gac_0_2, gac_0_3, gac_0_4, gac_0_5, gac_0_6, gac_1_0, gic_1_1, gic_1_2, gic_1_3, gic_1_4, gic_1_5, gic_1_6, gac_3_0, gic_3_1, gic_3_2, gic_3_3, gic_3_4, gic_3_5, gic_3_6, gic_3_7, gic_5_0, gic_5_1, gic_5_2, gic_5_3, gic_5_4, gac_5_5, gac_5_6, gac_5_7, gac_5_8, gac_5_9, gac_5_10, gac_5_11, gac_13_0, gac_13_1, gic_13_2, gac_13_3, gac_13_4, gac_13_5, gac_13_6, gac_13_7, gac_13_8, gac_13_9, gic_13_10, gic_13_11, gic_13_12, gic_13_13, gac_14_0, gac_14_1, gac_14_2, gac_14_3, gic_14_4, gic_14_5, gic_15_0, gic_15_1, gic_15_2, gic_15_3, gic_15_4, gac_15_5, gac_15_6, gac_15_7, gac_15_8, gac_15_9, gac_15_10, gac_15_11, gac_23_0, gac_23_1, gac_23_2, gac_23_3, gac_23_4, gac_23_5, gac_23_6, gic_23_7, gic_23_8, gac_31_0, gic_31_1, gic_31_2, gac_193_0, gac_193_1, gac_193_2, gic_193_3, gac_198_0, gac_200_0, gac_200_1, gac_200_2, gac_200_3, gac_200_4, gac_200_5, gac_200_6, gic_200_7, gic_200_8, pic_1_1, pic_1_2, pic_1_3, pic_1_4, pic_1_5, pic_1_6, pic_3_1, pic_3_2, pic_3_3, pic_3_4, pic_3_5, pic_3_6, pic_3_7, pic_5_0, pic_5_1, pic_5_2, pic_5_3, pic_5_4, pic_13_2, pic_13_10, pic_13_11, pic_13_12, pic_13_13, pic_14_4, pic_14_5, pic_15_0, pic_15_1, pic_15_2, pic_15_3, pic_15_4, pic_23_7, pic_23_8, pic_31_1, pic_31_2, pic_193_3, pic_200_7, pic_200_8, gdc_0, gdc_1, gdc_3, gdc_5, gdc_13, gdc_14, gdc_15, gdc_23, gdc_31, gdc_193, gdc_198, gdc_200, ldc_2, stc_2, ldc_4, stc_4, ldc_6, stc_6, ldc_7, stc_7, ldc_8, stc_8, ldc_9, stc_9, ldc_10, stc_10, ldc_11, stc_11, ldc_12, stc_12, ldc_16, stc_16, ldc_17, stc_17, ldc_18, stc_18, ldc_19, stc_19, ldc_20, stc_20, ldc_21, stc_21, ldc_22, stc_22, ldc_24, stc_24, ldc_25, stc_25, ldc_26, stc_26, ldc_27, stc_27, ldc_28, stc_28, ldc_29, stc_29, ldc_30, stc_30, ldc_194, stc_194, ldc_195, stc_195, ldc_196, stc_196, ldc_199, stc_199, ldc_201, stc_201, ldc_202, stc_202, ldc_203, stc_203, ldc_204, stc_204, ldc_205, stc_205, ldc_206, stc_206, ldc_207, stc_207, ldc_208, stc_208, ldc_209, stc_209, ldc_210, stc_210, ldc_211, stc_211, ldc_213, stc_213, ldc_214, stc_214, ldc_215, stc_215, ldc_216, stc_216, ldc_217, stc_217, ldc_218, stc_218, ldc_219, stc_219, ldc_263, stc_263, lda_197, lda_262, lda_212, lda_32, u2_s, u2_a, u2_b, isPer_C cP5.2.2.1, hno]
    · unfold F_X12_takes; simp (disch := omega) only [gdm, gam_1, gam_2, gam_3, gam_4, gam_5, gam_6, gam_7, gam_8, gam_9, gam_10, gam_11, gam_12, gam_13, gam_14, gam_15, gam_16, gam_17, gam_18, gam_19, gam_20, gam_21, gam_22, gam_23, gam_24, gam_25, gam_26, gam_37, gam_38, gam_39, gam_40, gam_41, gam_42, gam_43, gam_44, gam_45, gam_46, gam_48, gam_49, gam_56, gam_57, gam_58, gam_59, gam_60, gam_61, gim_27, gim_28, gim_29, gim_30, gim_31, gim_32, gim_33, gim_34, gim_35, gim_36, gim_47, gim_50, gim_51, gim_52, gim_53, gim_54, gim_55, gim_62, gim_63, ob_some, reduceIte, lit, le_T, le_F, lt_T, lt_F, eq_T, eq_F, nI_add, ldm_997, stm_997, ldm_998, stm_998, ldm_999, stm_999, ldm_1000, stm_1000, ldm_1001, stm_1001, ldm_1002, stm_1002, ldm_1003, stm_1003, ldm_1004, stm_1004, ldm_1005, stm_1005, ldm_1006, stm_1006, ldm_1007, stm_1007, ldm_1008, stm_1008, ldm_1009, stm_1009, ldm_1010, stm_1010, ldm_1011, stm_1011, ldm_1012, stm_1012, ldm_1013, stm_1013, ldm_1014, stm_1014, ldm_1015, stm_1015, ldm_1016, stm_1016, ldm_1017, stm_1017, ldm_1018, stm_1018, ldm_1019, stm_1019, ldm_1020, stm_1020, ldm_1021, stm_1021, ldm_1022, stm_1022, u2_s, u2_a, u2_b, not_true, not_false_iff, isPer_M mP5.2.2.1, hno]
  rcases within_C x2 0 (P 0 3) (by omega) (by omega) with ⟨k, -, hk, rfl⟩ | hno
  rotate_left
  · refine ⟨-nI 1, m, q, m, q, ?_, ?_, hI, fun _ _ => rfl⟩
    · unfold F_X11_takes; simp (disch := omega) only [ob_some, reduceIte, lit, le_T, le_F, lt_T, lt_F, eq_T, eq_F, nI_add, gac_0_0, gac_0_1, gac_0_2, gac_0_3, gac_0_4, gac_0_5, gac_0_6, gac_1_0, gic_1_1, gic_1_2, gic_1_3, gic_1_4, gic_1_5, gic_1_6, gac_3_0, gic_3_1, gic_3_2, gic_3_3, gic_3_4, gic_3_5, gic_3_6, gic_3_7, gic_5_0, gic_5_1, gic_5_2, gic_5_3, gic_5_4, gac_5_5, gac_5_6, gac_5_7, gac_5_8, gac_5_9, gac_5_10, gac_5_11, gac_13_0, gac_13_1, gic_13_2, gac_13_3, gac_13_4, gac_13_5, gac_13_6, gac_13_7, gac_13_8, gac_13_9, gic_13_10, gic_13_11, gic_13_12, gic_13_13, gac_14_0, gac_14_1, gac_14_2, gac_14_3, gic_14_4, gic_14_5, gic_15_0, gic_15_1, gic_15_2, gic_15_3, gic_15_4, gac_15_5, gac_15_6, gac_15_7, gac_15_8, gac_15_9, gac_15_10, gac_15_11, gac_23_0, gac_23_1, gac_23_2, gac_23_3, gac_23_4, gac_23_5, gac_23_6, gic_23_7, gic_23_8, gac_31_0, gic_31_1, gic_31_2, gac_193_0, gac_193_1, gac_193_2, gic_193_3, gac_198_0, gac_200_0, gac_200_1, gac_200_2, gac_200_3, gac_200_4, gac_200_5, gac_200_6, gic_200_7, gic_200_8, pic_1_1, pic_1_2, pic_1_3, pic_1_4, pic_1_5, pic_1_6, pic_3_1, pic_3_2, pic_3_3, pic_3_4, pic_3_5, pic_3_6, pic_3_7, pic_5_0, pic_5_1, pic_5_2, pic_5_3, pic_5_4, pic_13_2, pic_13_10, pic_13_11, pic_13_12, pic_13_13, pic_14_4, pic_14_5, pic_15_0, pic_15_1, pic_15_2, pic_15_3, pic_15_4, pic_23_7, pic_23_8, pic_31_1, pic_31_2, pic_193_3, pic_200_7, pic_200_8, gdc_0, gdc_1, gdc_3, gdc_5, gdc_13, gdc_14, gdc_15, gdc_23, gdc_31, gdc_193, gdc_198, gdc_200, ldc_2, stc_2, ldc_4, stc_4, ldc_6, stc_6, ldc_7, stc_7, ldc_8, stc_8, ldc_9, stc_9, ldc_10, stc_10, ldc_11, stc_11, ldc_12, stc_12, ldc_16, stc_16, ldc_17, stc_17, ldc_18, stc_18, ldc_19, stc_19, ldc_20, stc_20, ldc_21, stc_21, ldc_22, stc_22, ldc_24, stc_24, ldc_25, stc_25, ldc_26, stc_26, ldc_27, stc_27, ldc_28, stc_28, ldc_29, stc_29, ldc_30, stc_30, ldc_194, stc_194, ldc_195, stc_195, ldc_196, stc_196, ldc_199, stc_199, ldc_201, stc_201, ldc_202, stc_202, ldc_203, stc_203, ldc_204, stc_204, ldc_205, stc_205, ldc_206, stc_206, ldc_207, stc_207, ldc_208, stc_208, ldc_209, stc_209, ldc_210, stc_210, ldc_211, stc_211, ldc_213, stc_213, ldc_214, stc_214, ldc_215, stc_215, ldc_216, stc_216, ldc_217, stc_217, ldc_218, stc_218, ldc_219, stc_219, ldc_263, stc_263, lda_197, lda_262, lda_212, lda_32, u2_s, u2_a, u2_b, isPer_C cP5.2.2.1, isMil_C cP5.2.2.2.1, within_T, hno]
    · unfold F_X12_takes; simp (disch := omega) only [gdm, gam_1, gam_2, gam_3, gam_4, gam_5, gam_6, gam_7, gam_8, gam_9, gam_10, gam_11, gam_12, gam_13, gam_14, gam_15, gam_16, gam_17, gam_18, gam_19, gam_20, gam_21, gam_22, gam_23, gam_24, gam_25, gam_26, gam_37, gam_38, gam_39, gam_40, gam_41, gam_42, gam_43, gam_44, gam_45, gam_46, gam_48, gam_49, gam_56, gam_57, gam_58, gam_59, gam_60, gam_61, gim_27, gim_28, gim_29, gim_30, gim_31, gim_32, gim_33, gim_34, gim_35, gim_36, gim_47, gim_50, gim_51, gim_52, gim_53, gim_54, gim_55, gim_62, gim_63, ob_some, reduceIte, lit, le_T, le_F, lt_T, lt_F, eq_T, eq_F, nI_add, ldm_997, stm_997, ldm_998, stm_998, ldm_999, stm_999, ldm_1000, stm_1000, ldm_1001, stm_1001, ldm_1002, stm_1002, ldm_1003, stm_1003, ldm_1004, stm_1004, ldm_1005, stm_1005, ldm_1006, stm_1006, ldm_1007, stm_1007, ldm_1008, stm_1008, ldm_1009, stm_1009, ldm_1010, stm_1010, ldm_1011, stm_1011, ldm_1012, stm_1012, ldm_1013, stm_1013, ldm_1014, stm_1014, ldm_1015, stm_1015, ldm_1016, stm_1016, ldm_1017, stm_1017, ldm_1018, stm_1018, ldm_1019, stm_1019, ldm_1020, stm_1020, ldm_1021, stm_1021, ldm_1022, stm_1022, u2_s, u2_a, u2_b, not_true, not_false_iff, isPer_M mP5.2.2.1, isMil_M mP5.2.2.2.1, within_T, hno]
  rcases within_CL x3 1 9999 (by omega) (by omega) with ⟨am, ha0, ha1, rfl⟩ | hno
  rotate_left
  · refine ⟨-nI 1, m, q, m, q, ?_, ?_, hI, fun _ _ => rfl⟩
    · unfold F_X11_takes; simp (disch := omega) only [ob_some, reduceIte, lit, le_T, le_F, lt_T, lt_F, eq_T, eq_F, nI_add, gac_0_0, gac_0_1, gac_0_2, gac_0_3, gac_0_4, gac_0_5, gac_0_6, gac_1_0, gic_1_1, gic_1_2, gic_1_3, gic_1_4, gic_1_5, gic_1_6, gac_3_0, gic_3_1, gic_3_2, gic_3_3, gic_3_4, gic_3_5, gic_3_6, gic_3_7, gic_5_0, gic_5_1, gic_5_2, gic_5_3, gic_5_4, gac_5_5, gac_5_6, gac_5_7, gac_5_8, gac_5_9, gac_5_10, gac_5_11, gac_13_0, gac_13_1, gic_13_2, gac_13_3, gac_13_4, gac_13_5, gac_13_6, gac_13_7, gac_13_8, gac_13_9, gic_13_10, gic_13_11, gic_13_12, gic_13_13, gac_14_0, gac_14_1, gac_14_2, gac_14_3, gic_14_4, gic_14_5, gic_15_0, gic_15_1, gic_15_2, gic_15_3, gic_15_4, gac_15_5, gac_15_6, gac_15_7, gac_15_8, gac_15_9, gac_15_10, gac_15_11, gac_23_0, gac_23_1, gac_23_2, gac_23_3, gac_23_4, gac_23_5, gac_23_6, gic_23_7, gic_23_8, gac_31_0, gic_31_1, gic_31_2, gac_193_0, gac_193_1, gac_193_2, gic_193_3, gac_198_0, gac_200_0, gac_200_1, gac_200_2, gac_200_3, gac_200_4, gac_200_5, gac_200_6, gic_200_7, gic_200_8, pic_1_1, pic_1_2, pic_1_3, pic_1_4, pic_1_5, pic_1_6, pic_3_1, pic_3_2, pic_3_3, pic_3_4, pic_3_5, pic_3_6, pic_3_7, pic_5_0, pic_5_1, pic_5_2, pic_5_3, pic_5_4, pic_13_2, pic_13_10, pic_13_11, pic_13_12, pic_13_13, pic_14_4, pic_14_5, pic_15_0, pic_15_1, pic_15_2, pic_15_3, pic_15_4, pic_23_7, pic_23_8, pic_31_1, pic_31_2, pic_193_3, pic_200_7, pic_200_8, gdc_0, gdc_1, gdc_3, gdc_5, gdc_13, gdc_14, gdc_15, gdc_23, gdc_31, gdc_193, gdc_198, gdc_200, ldc_2, stc_2, ldc_4, stc_4, ldc_6, stc_6, ldc_7, stc_7, ldc_8, stc_8, ldc_9, stc_9, ldc_10, stc_10, ldc_11, stc_11, ldc_12, stc_12, ldc_16, stc_16, ldc_17, stc_17, ldc_18, stc_18, ldc_19, stc_19, ldc_20, stc_20, ldc_21, stc_21, ldc_22, stc_22, ldc_24, stc_24, ldc_25, stc_25, ldc_26, stc_26, ldc_27, stc_27, ldc_28, stc_28, ldc_29, stc_29, ldc_30, stc_30, ldc_194, stc_194, ldc_195, stc_195, ldc_196, stc_196, ldc_199, stc_199, ldc_201, stc_201, ldc_202, stc_202, ldc_203, stc_203, ldc_204, stc_204, ldc_205, stc_205, ldc_206, stc_206, ldc_207, stc_207, ldc_208, stc_208, ldc_209, stc_209, ldc_210, stc_210, ldc_211, stc_211, ldc_213, stc_213, ldc_214, stc_214, ldc_215, stc_215, ldc_216, stc_216, ldc_217, stc_217, ldc_218, stc_218, ldc_219, stc_219, ldc_263, stc_263, lda_197, lda_262, lda_212, lda_32, u2_s, u2_a, u2_b, isPer_C cP5.2.2.1, isMil_C cP5.2.2.2.1, within_T, hno]
    · unfold F_X12_takes; simp (disch := omega) only [gdm, gam_1, gam_2, gam_3, gam_4, gam_5, gam_6, gam_7, gam_8, gam_9, gam_10, gam_11, gam_12, gam_13, gam_14, gam_15, gam_16, gam_17, gam_18, gam_19, gam_20, gam_21, gam_22, gam_23, gam_24, gam_25, gam_26, gam_37, gam_38, gam_39, gam_40, gam_41, gam_42, gam_43, gam_44, gam_45, gam_46, gam_48, gam_49, gam_56, gam_57, gam_58, gam_59, gam_60, gam_61, gim_27, gim_28, gim_29, gim_30, gim_31, gim_32, gim_33, gim_34, gim_35, gim_36, gim_47, gim_50, gim_51, gim_52, gim_53, gim_54, gim_55, gim_62, gim_63, ob_some, reduceIte, lit, le_T, le_F, lt_T, lt_F, eq_T, eq_F, nI_add, ldm_997, stm_997, ldm_998, stm_998, ldm_999, stm_999, ldm_1000, stm_1000, ldm_1001, stm_1001, ldm_1002, stm_1002, ldm_1003, stm_1003, ldm_1004, stm_1004, ldm_1005, stm_1005, ldm_1006, stm_1006, ldm_1007, stm_1007, ldm_1008, stm_1008, ldm_1009, stm_1009, ldm_1010, stm_1010, ldm_1011, stm_1011, ldm_1012, stm_1012, ldm_1013, stm_1013, ldm_1014, stm_1014, ldm_1015, stm_1015, ldm_1016, stm_1016, ldm_1017, stm_1017, ldm_1018, stm_1018, ldm_1019, stm_1019, ldm_1020, stm_1020, ldm_1021, stm_1021, ldm_1022, stm_1022, u2_s, u2_a, u2_b, not_true, not_false_iff, isPer_M mP5.2.2.1, isMil_M mP5.2.2.2.1, within_T, in_1_9999, hno]
  rcases within_CL x4 1 60 (by omega) (by omega) with ⟨n1, hn0, hn1, rfl⟩ | hno
  rotate_left
  · refine ⟨-nI 1, m, q, m, q, ?_, ?_, hI, fun _ _ => rfl⟩
    · unfold F_X11_takes; simp (disch := omega) only [ob_some, reduceIte, lit, le_T, le_F, lt_T, lt_F, eq_T, eq_F, nI_add, gac_0_0, gac_0_1, gac_0_2, gac_0_3, gac_0_4, gac_0_5, gac_0_6, gac_1_0, gic_1_1, gic_1_2, gic_1_3, gic_1_4, gic_1_5, gic_1_6, gac_3_0, gic_3_1, gic_3_2, gic_3_3, gic_3_4, gic_3_5, gic_3_6, gic_3_7, gic_5_0, gic_5_1, gic_5_2, gic_5_3, gic_5_4, gac_5_5, gac_5_6, gac_5_7, gac_5_8, gac_5_9, gac_5_10, gac_5_11, gac_13_0, gac_13_1, gic_13_2, gac_13_3, gac_13_4, gac_13_5, gac_13_6, gac_13_7, gac_13_8, gac_13_9, gic_13_10, gic_13_11, gic_13_12, gic_13_13, gac_14_0, gac_14_1, gac_14_2, gac_14_3, gic_14_4, gic_14_5, gic_15_0, gic_15_1, gic_15_2, gic_15_3, gic_15_4, gac_15_5, gac_15_6, gac_15_7, gac_15_8, gac_15_9, gac_15_10, gac_15_11, gac_23_0, gac_23_1, gac_23_2, gac_23_3, gac_23_4, gac_23_5, gac_23_6, gic_23_7, gic_23_8, gac_31_0, gic_31_1, gic_31_2, gac_193_0, gac_193_1, gac_193_2, gic_193_3, gac_198_0, gac_200_0, gac_200_1, gac_200_2, gac_200_3, gac_200_4, gac_200_5, gac_200_6, gic_200_7, gic_200_8, pic_1_1, pic_1_2, pic_1_3, pic_1_4, pic_1_5, pic_1_6, pic_3_1, pic_3_2, pic_3_3, pic_3_4, pic_3_5, pic_3_6, pic_3_7, pic_5_0, pic_5_1, pic_5_2, pic_5_3, pic_5_4, pic_13_2, pic_13_10, pic_13_11, pic_13_12, pic_13_13, pic_14_4, pic_14_5, pic_15_0, pic_15_1, pic_15_2, pic_15_3, pic_15_4, pic_23_7, pic_23_8, pic_31_1, pic_31_2, pic_193_3, pic_200_7, pic_200_8, gdc_0, gdc_1, gdc_3, gdc_5, gdc_13, gdc_14, gdc_15, gdc_23, gdc_31, gdc_193, gdc_198, gdc_200, ldc_2, stc_2, ldc_4, stc_4, ldc_6, stc_6, ldc_7, stc_7, ldc_8, stc_8, ldc_9, stc_9, ldc_10, stc_10, ldc_11, stc_11, ldc_12, stc_12, ldc_16, stc_16, ldc_17, stc_17, ldc_18, stc_18, ldc_19, stc_19, ldc_20, stc_20, ldc_21, stc_21, ldc_22, stc_22, ldc_24, stc_24, ldc_25, stc_25, ldc_26, stc_26, ldc_27, stc_27, ldc_28, stc_28, ldc_29, stc_29, ldc_30, stc_30, ldc_194, stc_194, ldc_195, stc_195, ldc_196, stc_196, ldc_199, stc_199, ldc_201, stc_201, ldc_202, stc_202, ldc_203, stc_203, ldc_204, stc_204, ldc_205, stc_205, ldc_206, stc_206, ldc_207, stc_207, ldc_208, stc_208, ldc_209, stc_209, ldc_210, stc_210, ldc_211, stc_211, ldc_213, stc_213, ldc_214, stc_214, ldc_215, stc_215, ldc_216, stc_216, ldc_217, stc_217, ldc_218, stc_218, ldc_219, stc_219, ldc_263, stc_263, lda_197, lda_262, lda_212, lda_32, u2_s, u2_a, u2_b, isPer_C cP5.2.2.1, isMil_C cP5.2.2.2.1, within_T, within_TL, hno]
    · unfold F_X12_takes; simp (disch := omega) only [gdm, gam_1, gam_2, gam_3, gam_4, gam_5, gam_6, gam_7, gam_8, gam_9, gam_10, gam_11, gam_12, gam_13, gam_14, gam_15, gam_16, gam_17, gam_18, gam_19, gam_20, gam_21, gam_22, gam_23, gam_24, gam_25, gam_26, gam_37, gam_38, gam_39, gam_40, gam_41, gam_42, gam_43, gam_44, gam_45, gam_46, gam_48, gam_49, gam_56, gam_57, gam_58, gam_59, gam_60, gam_61, gim_27, gim_28, gim_29, gim_30, gim_31, gim_32, gim_33, gim_34, gim_35, gim_36, gim_47, gim_50, gim_51, gim_52, gim_53, gim_54, gim_55, gim_62, gim_63, ob_some, reduceIte, lit, le_T, le_F, lt_T, lt_F, eq_T, eq_F, nI_add, ldm_997, stm_997, ldm_998, stm_998, ldm_999, stm_999, ldm_1000, stm_1000, ldm_1001, stm_1001, ldm_1002, stm_1002, ldm_1003, stm_1003, ldm_1004, stm_1004, ldm_1005, stm_1005, ldm_1006, stm_1006, ldm_1007, stm_1007, ldm_1008, stm_1008, ldm_1009, stm_1009, ldm_1010, stm_1010, ldm_1011, stm_1011, ldm_1012, stm_1012, ldm_1013, stm_1013, ldm_1014, stm_1014, ldm_1015, stm_1015, ldm_1016, stm_1016, ldm_1017, stm_1017, ldm_1018, stm_1018, ldm_1019, stm_1019, ldm_1020, stm_1020, ldm_1021, stm_1021, ldm_1022, stm_1022, u2_s, u2_a, u2_b, not_true, not_false_iff, isPer_M mP5.2.2.1, isMil_M mP5.2.2.2.1, within_T, within_TL, in_1_9999, in_1_60, hno]
  have h0 : 0 < P 0 0 := by have := (cP.p hp).2; omega
  obtain ⟨hQ, h4, hf6⟩ := qc_of hC hE h0
  obtain ⟨mb, qb, b1, b2⟩ := takesC (k := k) (am := am) (n := n1) hf6 hp hk ha1 hn1 41 0 mk_fu m q (by omega) (by rw [mk_fu_eq]; omega) hQ h4
  have kb := KC.out b2 (by omega) (by omega)
  obtain ⟨hQM, hMS⟩ := qm_of hC hM h0 kb
  obtain ⟨mc, k1, k2, k3, k4, k5⟩ := keepsAll_ok (q := qb) mb
  have h47 : mc 996 47 = -nI 1 := by rw [k4 47 (by omega) (by omega)]; exact hQM.2.2
  obtain ⟨me, qe, e1, e2, e3, e4⟩ := takesM (k := k) (am := am) (n := n1) hQM hMS cAh hp hk ha1 hn1 41 0 mk_fu mc qb (by omega) (by rw [mk_fu_eq]; omega) k2 k3 h47
  obtain ⟨f1, f2⟩ := ask_fin hC hM hE kb e2.1 e3 (e4.trans hQM.2.2.symm)
  have hP2 : mb 997 2 = nI (P 0 2) := by rw [kb.1 _ (by omega) (by omega)]; exact mP5.2.2.1
  have hP3 : mb 997 3 = nI (P 0 3) := by rw [kb.1 _ (by omega) (by omega)]; exact mP5.2.2.2.1
  refine ⟨ansH 0 (fst (fun j => decide (am ≤ hoursA P (frho RS fo) (-nI 1) n1 (upA A 3 p (min 99 (A 3 p + j))) 6 k)) 0 41), mb, qb, me, qe, ?_, ?_, f1, f2⟩
  · unfold F_X11_takes F_X2_leastWine
    simp (disch := omega) only [ob_some, reduceIte, lit, le_T, le_F, lt_T, lt_F, eq_T, eq_F, nI_add, gac_0_0, gac_0_1, gac_0_2, gac_0_3, gac_0_4, gac_0_5, gac_0_6, gac_1_0, gic_1_1, gic_1_2, gic_1_3, gic_1_4, gic_1_5, gic_1_6, gac_3_0, gic_3_1, gic_3_2, gic_3_3, gic_3_4, gic_3_5, gic_3_6, gic_3_7, gic_5_0, gic_5_1, gic_5_2, gic_5_3, gic_5_4, gac_5_5, gac_5_6, gac_5_7, gac_5_8, gac_5_9, gac_5_10, gac_5_11, gac_13_0, gac_13_1, gic_13_2, gac_13_3, gac_13_4, gac_13_5, gac_13_6, gac_13_7, gac_13_8, gac_13_9, gic_13_10, gic_13_11, gic_13_12, gic_13_13, gac_14_0, gac_14_1, gac_14_2, gac_14_3, gic_14_4, gic_14_5, gic_15_0, gic_15_1, gic_15_2, gic_15_3, gic_15_4, gac_15_5, gac_15_6, gac_15_7, gac_15_8, gac_15_9, gac_15_10, gac_15_11, gac_23_0, gac_23_1, gac_23_2, gac_23_3, gac_23_4, gac_23_5, gac_23_6, gic_23_7, gic_23_8, gac_31_0, gic_31_1, gic_31_2, gac_193_0, gac_193_1, gac_193_2, gic_193_3, gac_198_0, gac_200_0, gac_200_1, gac_200_2, gac_200_3, gac_200_4, gac_200_5, gac_200_6, gic_200_7, gic_200_8, pic_1_1, pic_1_2, pic_1_3, pic_1_4, pic_1_5, pic_1_6, pic_3_1, pic_3_2, pic_3_3, pic_3_4, pic_3_5, pic_3_6, pic_3_7, pic_5_0, pic_5_1, pic_5_2, pic_5_3, pic_5_4, pic_13_2, pic_13_10, pic_13_11, pic_13_12, pic_13_13, pic_14_4, pic_14_5, pic_15_0, pic_15_1, pic_15_2, pic_15_3, pic_15_4, pic_23_7, pic_23_8, pic_31_1, pic_31_2, pic_193_3, pic_200_7, pic_200_8, gdc_0, gdc_1, gdc_3, gdc_5, gdc_13, gdc_14, gdc_15, gdc_23, gdc_31, gdc_193, gdc_198, gdc_200, ldc_2, stc_2, ldc_4, stc_4, ldc_6, stc_6, ldc_7, stc_7, ldc_8, stc_8, ldc_9, stc_9, ldc_10, stc_10, ldc_11, stc_11, ldc_12, stc_12, ldc_16, stc_16, ldc_17, stc_17, ldc_18, stc_18, ldc_19, stc_19, ldc_20, stc_20, ldc_21, stc_21, ldc_22, stc_22, ldc_24, stc_24, ldc_25, stc_25, ldc_26, stc_26, ldc_27, stc_27, ldc_28, stc_28, ldc_29, stc_29, ldc_30, stc_30, ldc_194, stc_194, ldc_195, stc_195, ldc_196, stc_196, ldc_199, stc_199, ldc_201, stc_201, ldc_202, stc_202, ldc_203, stc_203, ldc_204, stc_204, ldc_205, stc_205, ldc_206, stc_206, ldc_207, stc_207, ldc_208, stc_208, ldc_209, stc_209, ldc_210, stc_210, ldc_211, stc_211, ldc_213, stc_213, ldc_214, stc_214, ldc_215, stc_215, ldc_216, stc_216, ldc_217, stc_217, ldc_218, stc_218, ldc_219, stc_219, ldc_263, stc_263, lda_197, lda_262, lda_212, lda_32, u2_s, u2_a, u2_b, isPer_C cP5.2.2.1, isMil_C cP5.2.2.2.1, within_T, within_TL, b1]
  · unfold F_X12_takes
    simp (disch := omega) only [gdm, gam_1, gam_2, gam_3, gam_4, gam_5, gam_6, gam_7, gam_8, gam_9, gam_10, gam_11, gam_12, gam_13, gam_14, gam_15, gam_16, gam_17, gam_18, gam_19, gam_20, gam_21, gam_22, gam_23, gam_24, gam_25, gam_26, gam_37, gam_38, gam_39, gam_40, gam_41, gam_42, gam_43, gam_44, gam_45, gam_46, gam_48, gam_49, gam_56, gam_57, gam_58, gam_59, gam_60, gam_61, gim_27, gim_28, gim_29, gim_30, gim_31, gim_32, gim_33, gim_34, gim_35, gim_36, gim_47, gim_50, gim_51, gim_52, gim_53, gim_54, gim_55, gim_62, gim_63, ob_some, reduceIte, lit, le_T, le_F, lt_T, lt_F, eq_T, eq_F, nI_add, ldm_997, stm_997, ldm_998, stm_998, ldm_999, stm_999, ldm_1000, stm_1000, ldm_1001, stm_1001, ldm_1002, stm_1002, ldm_1003, stm_1003, ldm_1004, stm_1004, ldm_1005, stm_1005, ldm_1006, stm_1006, ldm_1007, stm_1007, ldm_1008, stm_1008, ldm_1009, stm_1009, ldm_1010, stm_1010, ldm_1011, stm_1011, ldm_1012, stm_1012, ldm_1013, stm_1013, ldm_1014, stm_1014, ldm_1015, stm_1015, ldm_1016, stm_1016, ldm_1017, stm_1017, ldm_1018, stm_1018, ldm_1019, stm_1019, ldm_1020, stm_1020, ldm_1021, stm_1021, ldm_1022, stm_1022, u2_s, u2_a, u2_b, not_true, not_false_iff, isPer_M hP2, isMil_M hP3, within_T, within_TL, in_1_9999, in_1_60, k1]
    exact e1
/-- lulls -/
def lulF (w : Nat → Nat) (h : Nat) : Nat → Nat × Int32 × Nat
  | 0 => (0, -nI 2, 0)
  | i + 1 => if (if w i = 0 then (lulF w h i).2.2 + 1 else 0) ≤ (lulF w h i).1 then ((lulF w h i).1, (lulF w h i).2.1, if w i = 0 then (lulF w h i).2.2 + 1 else 0) else ((if w i = 0 then (lulF w h i).2.2 + 1 else 0), nI (h + i + 1 - (if w i = 0 then (lulF w h i).2.2 + 1 else 0)), if w i = 0 then (lulF w h i).2.2 + 1 else 0)
set_option maxRecDepth 4000 in
theorem lulF_succ {w : Nat → Nat} {h i : Nat} : lulF w h (i + 1) = if (if w i = 0 then (lulF w h i).2.2 + 1 else 0) ≤ (lulF w h i).1 then ((lulF w h i).1, (lulF w h i).2.1, if w i = 0 then (lulF w h i).2.2 + 1 else 0) else ((if w i = 0 then (lulF w h i).2.2 + 1 else 0), nI (h + i + 1 - (if w i = 0 then (lulF w h i).2.2 + 1 else 0)), if w i = 0 then (lulF w h i).2.2 + 1 else 0) := rfl
set_option maxRecDepth 4000 in
theorem lulF_le {w : Nat → Nat} {h : Nat} : ∀ i, (lulF w h i).1 ≤ i ∧ (lulF w h i).2.2 ≤ i
  | 0 => ⟨Nat.le_refl _, Nat.le_refl _⟩
  | i + 1 => by
    obtain ⟨h1, h2⟩ := lulF_le (w := w) (h := h) i
    rw [lulF_succ]
    have hr : (if w i = 0 then (lulF w h i).2.2 + 1 else 0) ≤ i + 1 := by split <;> omega
    generalize (if w i = 0 then (lulF w h i).2.2 + 1 else 0) = r at hr ⊢
    split
    · exact ⟨by show (lulF w h i).1 ≤ i + 1; omega, hr⟩
    · exact ⟨hr, hr⟩
def wN (P : Nat → Nat → Nat) (ρ : Option RT) (A : Nat → Nat → Nat) (i : Nat) : Nat := nsum (hoursA P ρ (-nI 1) (i + 1) A 7) (P 0 0 * P 0 0)
set_option maxRecDepth 4000 in
theorem SR.wn {P B : Nat → Nat → Nat} {s : Nat → Nat → Int32} (h : SR P s B) (hS : P 0 0 * P 0 0 ≤ 36) : nsum (B 7) (P 0 0 * P 0 0) ≤ 21600 := by
  have := nsum_le (f := B 7) (B := 600) (n := P 0 0 * P 0 0) (fun k hk => (h.2.2.1 k hk).2)
  have : 600 * (P 0 0 * P 0 0) ≤ 600 * 36 := Nat.mul_le_mul_left _ hS
  omega
set_option maxRecDepth 4000 in
theorem MS.wn {P B : Nat → Nat → Nat} {s : Nat → Nat → Int32} (h : MS P s B) (hS : P 0 0 * P 0 0 ≤ 36) : nsum (B 7) (P 0 0 * P 0 0) ≤ 21600 := by
  have := nsum_le (f := B 7) (B := 600) (n := P 0 0 * P 0 0) (fun k hk => (h.2.2.1 k hk).2)
  have : 600 * (P 0 0 * P 0 0) ≤ 600 * 36 := Nat.mul_le_mul_left _ hS
  omega
abbrev LuS : Type := Int32 × Int32 × Int32 × (Nat → Nat → Int32) × (Nat → Nat → Int64)
set_option maxRecDepth 4000 in
theorem lull_C {m : Nat → Nat → Int32} {q : Nat → Nat → Int64} {P A : Nat → Nat → Nat} {fo n k : Nat} {ρ : Option RT} (h : QC m P A (fR fo) ρ) (h4 : m 14 4 = fI fo) (hf : fo ≤ 6) (hn : n ≤ 100) (hk : k ≤ 1) : ∃ m1 q1, F_X2_longestLull 13 (nI n) (nI k) (KS, m, q) = some (if k = 0 then nI (lulF (wN P ρ A) (A 0 1) n).1 else (lulF (wN P ρ A) (A 0 1) n).2.1, (KS, m1, q1)) ∧ KC m m1 := by
  obtain ⟨B1, B2, B3⟩ := h.1.2
  have hsq := h.1.sq
  have hAh := h.2.1.2
  obtain ⟨ma, t1, t2, t3⟩ := trial_ok (q := q) h
  have h4a : ma 14 4 = fI fo := by rw [t2 _ (by omega)]; exact h4
  obtain ⟨f1, ⟨y1, y2, y3, m1, q1⟩, e, i1, i2, i3, i4, i5⟩ := loop_up (fun f i (s : LuS) => B_X2_longestLull_32 f 13 (nI n) (nI k) (fR fo) s.1 s.2.1 s.2.2.1 (nI i) (KS, s.2.2.2.1, s.2.2.2.2)) n (fun i s => s.1 = nI (lulF (wN P ρ A) (A 0 1) i).1 ∧ s.2.1 = (lulF (wN P ρ A) (A 0 1) i).2.1 ∧ s.2.2.1 = nI (lulF (wN P ρ A) (A 0 1) i).2.2 ∧ Out m s.2.2.2.1 200 208 ∧ SR P (blk s.2.2.2.1 200) (hoursA P ρ (-nI 1) i A)) (by
    intro f i ⟨y1, y2, y3, m', q'⟩ hi ⟨i1, i2, i3, i4, i5⟩
    have i1 : y1 = _ := i1
    have i2 : y2 = _ := i2
    have i3 : y3 = _ := i3
    subst i1 i2 i3
    have hQ' := h.keep (KC.out i4 (by omega) (by omega))
    obtain ⟨m2, q2, w1, w2, w3⟩ := tpass (q := q') (kept := -nI 1) hQ' i5 (by rw [hoursA_h]; omega)
    have hw := s_windN (q := q2) sb200 w3 hsq.2
    have hwb := w3.wn hsq.2
    have c8 : m2 23 8 = nI (A 0 1) := by rw [w2 _ (by omega)]; exact hQ'.2.1.1.2.2.2.2.1.1
    obtain ⟨l1, l2⟩ := lulF_le (w := wN P ρ A) (h := A 0 1) i
    have ew : nsum (hourA P ρ (-nI 1) (hoursA P ρ (-nI 1) i A) 7) (P 0 0 * P 0 0) = wN P ρ A i := rfl
    rw [ew] at hw hwb
    simp only [B_X2_longestLull_32]
    simp (disch := omega) only [lit, le_F, reduceIte, gac_13_3, gac_13_0, gac_14_0, gac_13_4, ob_some, w1, hw]
    have hrr : (if nI (wN P ρ A i) = nI 0 then B_X2_longestLull_77 (B_X2_longestLull_32 f) 13 (nI n) (nI k) (fR fo) (nI (lulF (wN P ρ A) (A 0 1) i).1) (lulF (wN P ρ A) (A 0 1) i).2.1 (nI i) (nI (lulF (wN P ρ A) (A 0 1) i).2.2 + nI 1) (KS, m2, q2) else B_X2_longestLull_77 (B_X2_longestLull_32 f) 13 (nI n) (nI k) (fR fo) (nI (lulF (wN P ρ A) (A 0 1) i).1) (lulF (wN P ρ A) (A 0 1) i).2.1 (nI i) (nI 0) (KS, m2, q2)) = B_X2_longestLull_77 (B_X2_longestLull_32 f) 13 (nI n) (nI k) (fR fo) (nI (lulF (wN P ρ A) (A 0 1) i).1) (lulF (wN P ρ A) (A 0 1) i).2.1 (nI i) (nI (if wN P ρ A i = 0 then (lulF (wN P ρ A) (A 0 1) i).2.2 + 1 else 0)) (KS, m2, q2) := by
      by_cases hw0 : wN P ρ A i = 0
      · rw [if_pos (by rw [hw0]), if_pos hw0, nI_add]
      · rw [if_neg (by rw [eq_I (by omega) (by omega)]; exact hw0), if_neg hw0]
    rw [hrr]
    have hr : (if wN P ρ A i = 0 then (lulF (wN P ρ A) (A 0 1) i).2.2 + 1 else 0) ≤ i + 1 := by split <;> omega
    rw [lulF_succ]
    generalize (if wN P ρ A i = 0 then (lulF (wN P ρ A) (A 0 1) i).2.2 + 1 else 0) = r at hr ⊢
    unfold B_X2_longestLull_77 B_X2_longestLull_110
    by_cases hrl : r ≤ (lulF (wN P ρ A) (A 0 1) i).1
    · rw [if_pos hrl]
      refine ⟨(nI (lulF (wN P ρ A) (A 0 1) i).1, (lulF (wN P ρ A) (A 0 1) i).2.1, nI r, m2, q2), ?_, rfl, rfl, rfl, i4.trans w2, w3⟩
      simp (disch := omega) only [lit, le_T, reduceIte, nI_add]
    · rw [if_neg hrl]
      refine ⟨(nI r, nI (A 0 1 + i + 1 - r), nI r, m2, q2), ?_, rfl, rfl, rfl, i4.trans w2, w3⟩
      have hs : nI (A 0 1 + i + 1) - nI r = nI (A 0 1 + i + 1 - r) := pk_sub (by omega)
      simp (disch := omega) only [lit, le_F, reduceIte, nI_add, gac_13_0, gac_14_1, gic_23_8, ob_some, c8, hs]) n 0 mk_fu (nI 0, -nI 2, nI 0, ma, q) (by omega) (by rw [mk_fu_eq]; omega) ⟨rfl, rfl, rfl, t2, t3⟩
  refine ⟨m1, q1, ?_, KC.out i4 (by omega) (by omega)⟩
  unfold F_X2_longestLull
  simp only [gdc_13, gac_13_4, gac_13_0, gac_14_1, ob_some, lit, t1, inForce_C h4a hf]
  refine Eq.trans e ?_
  have i1 : y1 = _ := i1
  have i2 : y2 = _ := i2
  subst i1 i2
  simp only [B_X2_longestLull_32]
  rcases (show k = 0 ∨ k = 1 by omega) with ek | ek <;> subst ek <;> simp (disch := omega) only [lit, le_T, reduceIte, eq_T, eq_F] <;> rfl
set_option maxRecDepth 4000 in
theorem lull_M {m0 m : Nat → Nat → Int32} {q : Nat → Nat → Int64} {P A : Nat → Nat → Nat} {n k : Nat} {ρ : Option RT} (hQ : QM m P ρ (-nI 1)) (hA : MS P (blk m 997) A) (hAh : A 0 1 ≤ 999) (hn : n ≤ 100) (hk : k ≤ 1) (hK : KP m0 m) : ∃ m1 q1, B_X12_lull_47 mk_fu 996 (nI n) (nI k) (nI 0) (-nI 2) (nI 0) (nI 0) (KS, m, q) = some (if k = 0 then nI (lulF (wN P ρ A) (A 0 1) n).1 else (lulF (wN P ρ A) (A 0 1) n).2.1, (KS, m1, q1)) ∧ KP m0 m1 ∧ KB m0 m1 ∧ m1 996 47 = -nI 1 := by
  obtain ⟨B1, B2, B3⟩ := hQ.1.2
  have hsq := PR.sq hQ.1
  obtain ⟨f1, ⟨y1, y2, y3, m1, q1⟩, e, i1, i2, i3, i4, i5⟩ := loop_up (fun f i (s : LuS) => B_X12_lull_47 f 996 (nI n) (nI k) s.1 s.2.1 s.2.2.1 (nI i) (KS, s.2.2.2.1, s.2.2.2.2)) n (fun i s => s.1 = nI (lulF (wN P ρ A) (A 0 1) i).1 ∧ s.2.1 = (lulF (wN P ρ A) (A 0 1) i).2.1 ∧ s.2.2.1 = nI (lulF (wN P ρ A) (A 0 1) i).2.2 ∧ MO m s.2.2.2.1 ∧ MS P (blk s.2.2.2.1 997) (hoursA P ρ (-nI 1) i A)) (by
    intro f i ⟨y1, y2, y3, m', q'⟩ hi ⟨i1, i2, i3, i4, i5⟩
    have i1 : y1 = _ := i1
    have i2 : y2 = _ := i2
    have i3 : y3 = _ := i3
    subst i1 i2 i3
    have hQ' := hQ.mo i4
    obtain ⟨m2, q2, w1, w2, w3⟩ := mgo (q := q') hQ' i5 (by rw [hoursA_h]; omega)
    have hs0 : m2 997 0 = nI (P 0 0) := (hQ'.mo w2).1.1.1
    have hw := mallw (m := m2) (q := q2) hs0 hsq.2 (fun k hk => (w3.2.2.1 k hk).1)
    have hwb := w3.wn hsq.2
    have h5 : m2 997 5 = nI (A 0 1 + i + 1) := by
      have h := w3.2.2.2.2.1
      rw [show hourA P ρ (-nI 1) (hoursA P ρ (-nI 1) i A) 0 1 = hoursA P ρ (-nI 1) i A 0 1 + 1 from rfl, hoursA_h] at h
      exact h
    obtain ⟨l1, l2⟩ := lulF_le (w := wN P ρ A) (h := A 0 1) i
    have ew : nsum (hourA P ρ (-nI 1) (hoursA P ρ (-nI 1) i A) 7) (P 0 0 * P 0 0) = wN P ρ A i := rfl
    rw [ew] at hw hwb
    simp only [B_X12_lull_47]
    simp (disch := omega) only [lit, le_F, reduceIte, ob_some, w1, hw]
    have hrr : (if nI (wN P ρ A i) = nI 0 then B_X12_lull_73 (B_X12_lull_47 f) 996 (nI n) (nI k) (nI (lulF (wN P ρ A) (A 0 1) i).1) (lulF (wN P ρ A) (A 0 1) i).2.1 (nI i) (nI (lulF (wN P ρ A) (A 0 1) i).2.2 + nI 1) (KS, m2, q2) else B_X12_lull_73 (B_X12_lull_47 f) 996 (nI n) (nI k) (nI (lulF (wN P ρ A) (A 0 1) i).1) (lulF (wN P ρ A) (A 0 1) i).2.1 (nI i) (nI 0) (KS, m2, q2)) = B_X12_lull_73 (B_X12_lull_47 f) 996 (nI n) (nI k) (nI (lulF (wN P ρ A) (A 0 1) i).1) (lulF (wN P ρ A) (A 0 1) i).2.1 (nI i) (nI (if wN P ρ A i = 0 then (lulF (wN P ρ A) (A 0 1) i).2.2 + 1 else 0)) (KS, m2, q2) := by
      by_cases hw0 : wN P ρ A i = 0
      · rw [if_pos (by rw [hw0]), if_pos hw0, nI_add]
      · rw [if_neg (by rw [eq_I (by omega) (by omega)]; exact hw0), if_neg hw0]
    rw [hrr]
    have hr : (if wN P ρ A i = 0 then (lulF (wN P ρ A) (A 0 1) i).2.2 + 1 else 0) ≤ i + 1 := by split <;> omega
    rw [lulF_succ]
    generalize (if wN P ρ A i = 0 then (lulF (wN P ρ A) (A 0 1) i).2.2 + 1 else 0) = r at hr ⊢
    unfold B_X12_lull_73 B_X12_lull_95
    by_cases hrl : r ≤ (lulF (wN P ρ A) (A 0 1) i).1
    · rw [if_pos hrl]
      refine ⟨(nI (lulF (wN P ρ A) (A 0 1) i).1, (lulF (wN P ρ A) (A 0 1) i).2.1, nI r, m2, q2), ?_, rfl, rfl, rfl, i4.trans w2, w3⟩
      simp (disch := omega) only [lit, le_T, reduceIte, nI_add]
    · rw [if_neg hrl]
      refine ⟨(nI r, nI (A 0 1 + i + 1 - r), nI r, m2, q2), ?_, rfl, rfl, rfl, i4.trans w2, w3⟩
      have hs : nI (A 0 1 + i + 1) - nI r = nI (A 0 1 + i + 1 - r) := pk_sub (by omega)
      simp (disch := omega) only [lit, le_F, reduceIte, nI_add, gam_1, ldm_997, ob_some, h5, hs]) n 0 mk_fu (nI 0, -nI 2, nI 0, m, q) (by omega) (by rw [mk_fu_eq]; omega) ⟨rfl, rfl, rfl, MO.rf, hA⟩
  have i4 : MO m m1 := i4
  obtain ⟨mz, z1, z2, z3, z4, z5⟩ := laysBack_ok (q := q1) m1 (hK.mo i4)
  refine ⟨mz, q1, ?_, z2, z3, by rw [z4 47 (by omega) (by omega), i4.1 996 (by omega)]; exact hQ.2.2⟩
  refine Eq.trans e ?_
  have i1 : y1 = _ := i1
  have i2 : y2 = _ := i2
  subst i1 i2
  simp only [B_X12_lull_47]
  rcases (show k = 0 ∨ k = 1 by omega) with ek | ek <;> subst ek <;> simp (disch := omega) only [lit, le_T, reduceIte, eq_T, eq_F, z1, ob_some] <;> rfl
set_option maxRecDepth 4000 in
theorem op_lull (x1 x2 : Int32) : OP (F_X11_lull 0 x1 x2) (F_X12_lull 996 x1 x2) := by
  intro m q hI
  obtain ⟨⟨⟨⟨len, by_⟩, ⟨nr, RS⟩, ⟨P, A, H, n, N, nn, fo, x⟩, IM, md⟩, hC, hM⟩, hE⟩ := id hI
  obtain ⟨⟨ct1, ct2, ct3⟩, ⟨cr1, cr2, cr3⟩, ⟨⟨cP, ⟨cA, cAh⟩, cH, ⟨cn1, cn2⟩, ⟨cf1, cf2⟩, ⟨cx1, cx2⟩⟩, cwf⟩, cm1, cm2⟩ := id hC
  obtain ⟨⟨mt1, mt2⟩, ⟨mr1, mr2⟩, ⟨mP, ⟨mA, mAh⟩, ⟨mh1, mh2, mh3⟩, ⟨mn1, mn2⟩, ⟨mf1, mf2⟩, ⟨mx1, mx2⟩⟩, mm1, mm2, mw, ms⟩ := id hM
  have cP5 : m 15 0 = nI (P 0 0) ∧ m 15 1 = nI (P 0 1) ∧ m 15 2 = nI (P 0 2) ∧ m 15 3 = nI (P 0 3) ∧ m 15 4 = nI (P 0 4) := cP.five
  have mP5 : m 997 0 = nI (P 0 0) ∧ m 997 1 = nI (P 0 1) ∧ m 997 2 = nI (P 0 2) ∧ m 997 3 = nI (P 0 3) ∧ m 997 4 = nI (P 0 4) := mP.five
  obtain ⟨B0, B1, B2, B3, B4, B5⟩ := cP.bd
  by_cases h0 : P 0 0 = 0
  · refine ⟨-nI 1, m, q, m, q, ?_, ?_, hI, fun _ _ => rfl⟩
    · unfold F_X11_lull; simp (disch := omega) only [ob_some, reduceIte, lit, le_T, le_F, lt_T, lt_F, eq_T, eq_F, nI_add, gac_0_0, gac_0_1, gac_0_2, gac_0_3, gac_0_4, gac_0_5, gac_0_6, gac_1_0, gic_1_1, gic_1_2, gic_1_3, gic_1_4, gic_1_5, gic_1_6, gac_3_0, gic_3_1, gic_3_2, gic_3_3, gic_3_4, gic_3_5, gic_3_6, gic_3_7, gic_5_0, gic_5_1, gic_5_2, gic_5_3, gic_5_4, gac_5_5, gac_5_6, gac_5_7, gac_5_8, gac_5_9, gac_5_10, gac_5_11, gac_13_0, gac_13_1, gic_13_2, gac_13_3, gac_13_4, gac_13_5, gac_13_6, gac_13_7, gac_13_8, gac_13_9, gic_13_10, gic_13_11, gic_13_12, gic_13_13, gac_14_0, gac_14_1, gac_14_2, gac_14_3, gic_14_4, gic_14_5, gic_15_0, gic_15_1, gic_15_2, gic_15_3, gic_15_4, gac_15_5, gac_15_6, gac_15_7, gac_15_8, gac_15_9, gac_15_10, gac_15_11, gac_23_0, gac_23_1, gac_23_2, gac_23_3, gac_23_4, gac_23_5, gac_23_6, gic_23_7, gic_23_8, gac_31_0, gic_31_1, gic_31_2, gac_193_0, gac_193_1, gac_193_2, gic_193_3, gac_198_0, gac_200_0, gac_200_1, gac_200_2, gac_200_3, gac_200_4, gac_200_5, gac_200_6, gic_200_7, gic_200_8, pic_1_1, pic_1_2, pic_1_3, pic_1_4, pic_1_5, pic_1_6, pic_3_1, pic_3_2, pic_3_3, pic_3_4, pic_3_5, pic_3_6, pic_3_7, pic_5_0, pic_5_1, pic_5_2, pic_5_3, pic_5_4, pic_13_2, pic_13_10, pic_13_11, pic_13_12, pic_13_13, pic_14_4, pic_14_5, pic_15_0, pic_15_1, pic_15_2, pic_15_3, pic_15_4, pic_23_7, pic_23_8, pic_31_1, pic_31_2, pic_193_3, pic_200_7, pic_200_8, gdc_0, gdc_1, gdc_3, gdc_5, gdc_13, gdc_14, gdc_15, gdc_23, gdc_31, gdc_193, gdc_198, gdc_200, ldc_2, stc_2, ldc_4, stc_4, ldc_6, stc_6, ldc_7, stc_7, ldc_8, stc_8, ldc_9, stc_9, ldc_10, stc_10, ldc_11, stc_11, ldc_12, stc_12, ldc_16, stc_16, ldc_17, stc_17, ldc_18, stc_18, ldc_19, stc_19, ldc_20, stc_20, ldc_21, stc_21, ldc_22, stc_22, ldc_24, stc_24, ldc_25, stc_25, ldc_26, stc_26, ldc_27, stc_27, ldc_28, stc_28, ldc_29, stc_29, ldc_30, stc_30, ldc_194, stc_194, ldc_195, stc_195, ldc_196, stc_196, ldc_199, stc_199, ldc_201, stc_201, ldc_202, stc_202, ldc_203, stc_203, ldc_204, stc_204, ldc_205, stc_205, ldc_206, stc_206, ldc_207, stc_207, ldc_208, stc_208, ldc_209, stc_209, ldc_210, stc_210, ldc_211, stc_211, ldc_213, stc_213, ldc_214, stc_214, ldc_215, stc_215, ldc_216, stc_216, ldc_217, stc_217, ldc_218, stc_218, ldc_219, stc_219, ldc_263, stc_263, lda_197, lda_262, lda_212, lda_32, u2_s, u2_a, u2_b, isPla_C cP5.1, h0]
    · unfold F_X12_lull; simp (disch := omega) only [gdm, gam_1, gam_2, gam_3, gam_4, gam_5, gam_6, gam_7, gam_8, gam_9, gam_10, gam_11, gam_12, gam_13, gam_14, gam_15, gam_16, gam_17, gam_18, gam_19, gam_20, gam_21, gam_22, gam_23, gam_24, gam_25, gam_26, gam_37, gam_38, gam_39, gam_40, gam_41, gam_42, gam_43, gam_44, gam_45, gam_46, gam_48, gam_49, gam_56, gam_57, gam_58, gam_59, gam_60, gam_61, gim_27, gim_28, gim_29, gim_30, gim_31, gim_32, gim_33, gim_34, gim_35, gim_36, gim_47, gim_50, gim_51, gim_52, gim_53, gim_54, gim_55, gim_62, gim_63, ob_some, reduceIte, lit, le_T, le_F, lt_T, lt_F, eq_T, eq_F, nI_add, ldm_997, stm_997, ldm_998, stm_998, ldm_999, stm_999, ldm_1000, stm_1000, ldm_1001, stm_1001, ldm_1002, stm_1002, ldm_1003, stm_1003, ldm_1004, stm_1004, ldm_1005, stm_1005, ldm_1006, stm_1006, ldm_1007, stm_1007, ldm_1008, stm_1008, ldm_1009, stm_1009, ldm_1010, stm_1010, ldm_1011, stm_1011, ldm_1012, stm_1012, ldm_1013, stm_1013, ldm_1014, stm_1014, ldm_1015, stm_1015, ldm_1016, stm_1016, ldm_1017, stm_1017, ldm_1018, stm_1018, ldm_1019, stm_1019, ldm_1020, stm_1020, ldm_1021, stm_1021, ldm_1022, stm_1022, u2_s, u2_a, u2_b, not_true, not_false_iff, isPla_M mP5.1, h0]
  have h0 : 0 < P 0 0 := by omega
  rcases within_CL x1 1 100 (by omega) (by omega) with ⟨n1, hn0, hn1, rfl⟩ | hno
  rotate_left
  · refine ⟨-nI 1, m, q, m, q, ?_, ?_, hI, fun _ _ => rfl⟩
    · unfold F_X11_lull; simp (disch := omega) only [ob_some, reduceIte, lit, le_T, le_F, lt_T, lt_F, eq_T, eq_F, nI_add, gac_0_0, gac_0_1, gac_0_2, gac_0_3, gac_0_4, gac_0_5, gac_0_6, gac_1_0, gic_1_1, gic_1_2, gic_1_3, gic_1_4, gic_1_5, gic_1_6, gac_3_0, gic_3_1, gic_3_2, gic_3_3, gic_3_4, gic_3_5, gic_3_6, gic_3_7, gic_5_0, gic_5_1, gic_5_2, gic_5_3, gic_5_4, gac_5_5, gac_5_6, gac_5_7, gac_5_8, gac_5_9, gac_5_10, gac_5_11, gac_13_0, gac_13_1, gic_13_2, gac_13_3, gac_13_4, gac_13_5, gac_13_6, gac_13_7, gac_13_8, gac_13_9, gic_13_10, gic_13_11, gic_13_12, gic_13_13, gac_14_0, gac_14_1, gac_14_2, gac_14_3, gic_14_4, gic_14_5, gic_15_0, gic_15_1, gic_15_2, gic_15_3, gic_15_4, gac_15_5, gac_15_6, gac_15_7, gac_15_8, gac_15_9, gac_15_10, gac_15_11, gac_23_0, gac_23_1, gac_23_2, gac_23_3, gac_23_4, gac_23_5, gac_23_6, gic_23_7, gic_23_8, gac_31_0, gic_31_1, gic_31_2, gac_193_0, gac_193_1, gac_193_2, gic_193_3, gac_198_0, gac_200_0, gac_200_1, gac_200_2, gac_200_3, gac_200_4, gac_200_5, gac_200_6, gic_200_7, gic_200_8, pic_1_1, pic_1_2, pic_1_3, pic_1_4, pic_1_5, pic_1_6, pic_3_1, pic_3_2, pic_3_3, pic_3_4, pic_3_5, pic_3_6, pic_3_7, pic_5_0, pic_5_1, pic_5_2, pic_5_3, pic_5_4, pic_13_2, pic_13_10, pic_13_11, pic_13_12, pic_13_13, pic_14_4, pic_14_5, pic_15_0, pic_15_1, pic_15_2, pic_15_3, pic_15_4, pic_23_7, pic_23_8, pic_31_1, pic_31_2, pic_193_3, pic_200_7, pic_200_8, gdc_0, gdc_1, gdc_3, gdc_5, gdc_13, gdc_14, gdc_15, gdc_23, gdc_31, gdc_193, gdc_198, gdc_200, ldc_2, stc_2, ldc_4, stc_4, ldc_6, stc_6, ldc_7, stc_7, ldc_8, stc_8, ldc_9, stc_9, ldc_10, stc_10, ldc_11, stc_11, ldc_12, stc_12, ldc_16, stc_16, ldc_17, stc_17, ldc_18, stc_18, ldc_19, stc_19, ldc_20, stc_20, ldc_21, stc_21, ldc_22, stc_22, ldc_24, stc_24, ldc_25, stc_25, ldc_26, stc_26, ldc_27, stc_27, ldc_28, stc_28, ldc_29, stc_29, ldc_30, stc_30, ldc_194, stc_194, ldc_195, stc_195, ldc_196, stc_196, ldc_199, stc_199, ldc_201, stc_201, ldc_202, stc_202, ldc_203, stc_203, ldc_204, stc_204, ldc_205, stc_205, ldc_206, stc_206, ldc_207, stc_207, ldc_208, stc_208, ldc_209, stc_209, ldc_210, stc_210, ldc_211, stc_211, ldc_213, stc_213, ldc_214, stc_214, ldc_215, stc_215, ldc_216, stc_216, ldc_217, stc_217, ldc_218, stc_218, ldc_219, stc_219, ldc_263, stc_263, lda_197, lda_262, lda_212, lda_32, u2_s, u2_a, u2_b, isPla_T cP5.1, hno]
    · unfold F_X12_lull; simp (disch := omega) only [gdm, gam_1, gam_2, gam_3, gam_4, gam_5, gam_6, gam_7, gam_8, gam_9, gam_10, gam_11, gam_12, gam_13, gam_14, gam_15, gam_16, gam_17, gam_18, gam_19, gam_20, gam_21, gam_22, gam_23, gam_24, gam_25, gam_26, gam_37, gam_38, gam_39, gam_40, gam_41, gam_42, gam_43, gam_44, gam_45, gam_46, gam_48, gam_49, gam_56, gam_57, gam_58, gam_59, gam_60, gam_61, gim_27, gim_28, gim_29, gim_30, gim_31, gim_32, gim_33, gim_34, gim_35, gim_36, gim_47, gim_50, gim_51, gim_52, gim_53, gim_54, gim_55, gim_62, gim_63, ob_some, reduceIte, lit, le_T, le_F, lt_T, lt_F, eq_T, eq_F, nI_add, ldm_997, stm_997, ldm_998, stm_998, ldm_999, stm_999, ldm_1000, stm_1000, ldm_1001, stm_1001, ldm_1002, stm_1002, ldm_1003, stm_1003, ldm_1004, stm_1004, ldm_1005, stm_1005, ldm_1006, stm_1006, ldm_1007, stm_1007, ldm_1008, stm_1008, ldm_1009, stm_1009, ldm_1010, stm_1010, ldm_1011, stm_1011, ldm_1012, stm_1012, ldm_1013, stm_1013, ldm_1014, stm_1014, ldm_1015, stm_1015, ldm_1016, stm_1016, ldm_1017, stm_1017, ldm_1018, stm_1018, ldm_1019, stm_1019, ldm_1020, stm_1020, ldm_1021, stm_1021, ldm_1022, stm_1022, u2_s, u2_a, u2_b, not_true, not_false_iff, isPla_TM mP5.1, in_1_100, hno]
  rcases within_CL x2 0 1 (by omega) (by omega) with ⟨k, -, hk, rfl⟩ | hno
  rotate_left
  · refine ⟨-nI 1, m, q, m, q, ?_, ?_, hI, fun _ _ => rfl⟩
    · unfold F_X11_lull; simp (disch := omega) only [ob_some, reduceIte, lit, le_T, le_F, lt_T, lt_F, eq_T, eq_F, nI_add, gac_0_0, gac_0_1, gac_0_2, gac_0_3, gac_0_4, gac_0_5, gac_0_6, gac_1_0, gic_1_1, gic_1_2, gic_1_3, gic_1_4, gic_1_5, gic_1_6, gac_3_0, gic_3_1, gic_3_2, gic_3_3, gic_3_4, gic_3_5, gic_3_6, gic_3_7, gic_5_0, gic_5_1, gic_5_2, gic_5_3, gic_5_4, gac_5_5, gac_5_6, gac_5_7, gac_5_8, gac_5_9, gac_5_10, gac_5_11, gac_13_0, gac_13_1, gic_13_2, gac_13_3, gac_13_4, gac_13_5, gac_13_6, gac_13_7, gac_13_8, gac_13_9, gic_13_10, gic_13_11, gic_13_12, gic_13_13, gac_14_0, gac_14_1, gac_14_2, gac_14_3, gic_14_4, gic_14_5, gic_15_0, gic_15_1, gic_15_2, gic_15_3, gic_15_4, gac_15_5, gac_15_6, gac_15_7, gac_15_8, gac_15_9, gac_15_10, gac_15_11, gac_23_0, gac_23_1, gac_23_2, gac_23_3, gac_23_4, gac_23_5, gac_23_6, gic_23_7, gic_23_8, gac_31_0, gic_31_1, gic_31_2, gac_193_0, gac_193_1, gac_193_2, gic_193_3, gac_198_0, gac_200_0, gac_200_1, gac_200_2, gac_200_3, gac_200_4, gac_200_5, gac_200_6, gic_200_7, gic_200_8, pic_1_1, pic_1_2, pic_1_3, pic_1_4, pic_1_5, pic_1_6, pic_3_1, pic_3_2, pic_3_3, pic_3_4, pic_3_5, pic_3_6, pic_3_7, pic_5_0, pic_5_1, pic_5_2, pic_5_3, pic_5_4, pic_13_2, pic_13_10, pic_13_11, pic_13_12, pic_13_13, pic_14_4, pic_14_5, pic_15_0, pic_15_1, pic_15_2, pic_15_3, pic_15_4, pic_23_7, pic_23_8, pic_31_1, pic_31_2, pic_193_3, pic_200_7, pic_200_8, gdc_0, gdc_1, gdc_3, gdc_5, gdc_13, gdc_14, gdc_15, gdc_23, gdc_31, gdc_193, gdc_198, gdc_200, ldc_2, stc_2, ldc_4, stc_4, ldc_6, stc_6, ldc_7, stc_7, ldc_8, stc_8, ldc_9, stc_9, ldc_10, stc_10, ldc_11, stc_11, ldc_12, stc_12, ldc_16, stc_16, ldc_17, stc_17, ldc_18, stc_18, ldc_19, stc_19, ldc_20, stc_20, ldc_21, stc_21, ldc_22, stc_22, ldc_24, stc_24, ldc_25, stc_25, ldc_26, stc_26, ldc_27, stc_27, ldc_28, stc_28, ldc_29, stc_29, ldc_30, stc_30, ldc_194, stc_194, ldc_195, stc_195, ldc_196, stc_196, ldc_199, stc_199, ldc_201, stc_201, ldc_202, stc_202, ldc_203, stc_203, ldc_204, stc_204, ldc_205, stc_205, ldc_206, stc_206, ldc_207, stc_207, ldc_208, stc_208, ldc_209, stc_209, ldc_210, stc_210, ldc_211, stc_211, ldc_213, stc_213, ldc_214, stc_214, ldc_215, stc_215, ldc_216, stc_216, ldc_217, stc_217, ldc_218, stc_218, ldc_219, stc_219, ldc_263, stc_263, lda_197, lda_262, lda_212, lda_32, u2_s, u2_a, u2_b, isPla_T cP5.1, within_TL, hno]
    · unfold F_X12_lull; simp (disch := omega) only [gdm, gam_1, gam_2, gam_3, gam_4, gam_5, gam_6, gam_7, gam_8, gam_9, gam_10, gam_11, gam_12, gam_13, gam_14, gam_15, gam_16, gam_17, gam_18, gam_19, gam_20, gam_21, gam_22, gam_23, gam_24, gam_25, gam_26, gam_37, gam_38, gam_39, gam_40, gam_41, gam_42, gam_43, gam_44, gam_45, gam_46, gam_48, gam_49, gam_56, gam_57, gam_58, gam_59, gam_60, gam_61, gim_27, gim_28, gim_29, gim_30, gim_31, gim_32, gim_33, gim_34, gim_35, gim_36, gim_47, gim_50, gim_51, gim_52, gim_53, gim_54, gim_55, gim_62, gim_63, ob_some, reduceIte, lit, le_T, le_F, lt_T, lt_F, eq_T, eq_F, nI_add, ldm_997, stm_997, ldm_998, stm_998, ldm_999, stm_999, ldm_1000, stm_1000, ldm_1001, stm_1001, ldm_1002, stm_1002, ldm_1003, stm_1003, ldm_1004, stm_1004, ldm_1005, stm_1005, ldm_1006, stm_1006, ldm_1007, stm_1007, ldm_1008, stm_1008, ldm_1009, stm_1009, ldm_1010, stm_1010, ldm_1011, stm_1011, ldm_1012, stm_1012, ldm_1013, stm_1013, ldm_1014, stm_1014, ldm_1015, stm_1015, ldm_1016, stm_1016, ldm_1017, stm_1017, ldm_1018, stm_1018, ldm_1019, stm_1019, ldm_1020, stm_1020, ldm_1021, stm_1021, ldm_1022, stm_1022, u2_s, u2_a, u2_b, not_true, not_false_iff, isPla_TM mP5.1, within_TL, in_1_100, in_0_1, hno]
  obtain ⟨hQ, h4, hf6⟩ := qc_of hC hE h0
  obtain ⟨mb, qb, b1, kb⟩ := lull_C (q := q) hQ h4 hf6 hn1 hk
  obtain ⟨hQM, hMS⟩ := qm_of hC hM h0 kb
  obtain ⟨mc, k1, k2, k3, k4, k5⟩ := keepsAll_ok (q := qb) mb
  have hQc := hQM.back k2.1 k3 ((k4 47 (by omega) (by omega)).trans hQM.2.2)
  obtain ⟨me, qe, e1, e2, e3, e4⟩ := lull_M (q := qb) hQc (hMS.back hQM.1 k3) cAh hn1 hk k2
  obtain ⟨f1, f2⟩ := ask_fin hC hM hE kb e2.1 e3 (e4.trans hQM.2.2.symm)
  have hP2 : mb 997 0 = nI (P 0 0) := by rw [kb.1 _ (by omega) (by omega)]; exact mP5.1
  refine ⟨if k = 0 then nI (lulF (wN P (frho RS fo) A) (A 0 1) n1).1 else (lulF (wN P (frho RS fo) A) (A 0 1) n1).2.1, mb, qb, me, qe, ?_, ?_, f1, f2⟩
  · unfold F_X11_lull
    simp (disch := omega) only [ob_some, reduceIte, lit, le_T, le_F, lt_T, lt_F, eq_T, eq_F, nI_add, gac_0_0, gac_0_1, gac_0_2, gac_0_3, gac_0_4, gac_0_5, gac_0_6, gac_1_0, gic_1_1, gic_1_2, gic_1_3, gic_1_4, gic_1_5, gic_1_6, gac_3_0, gic_3_1, gic_3_2, gic_3_3, gic_3_4, gic_3_5, gic_3_6, gic_3_7, gic_5_0, gic_5_1, gic_5_2, gic_5_3, gic_5_4, gac_5_5, gac_5_6, gac_5_7, gac_5_8, gac_5_9, gac_5_10, gac_5_11, gac_13_0, gac_13_1, gic_13_2, gac_13_3, gac_13_4, gac_13_5, gac_13_6, gac_13_7, gac_13_8, gac_13_9, gic_13_10, gic_13_11, gic_13_12, gic_13_13, gac_14_0, gac_14_1, gac_14_2, gac_14_3, gic_14_4, gic_14_5, gic_15_0, gic_15_1, gic_15_2, gic_15_3, gic_15_4, gac_15_5, gac_15_6, gac_15_7, gac_15_8, gac_15_9, gac_15_10, gac_15_11, gac_23_0, gac_23_1, gac_23_2, gac_23_3, gac_23_4, gac_23_5, gac_23_6, gic_23_7, gic_23_8, gac_31_0, gic_31_1, gic_31_2, gac_193_0, gac_193_1, gac_193_2, gic_193_3, gac_198_0, gac_200_0, gac_200_1, gac_200_2, gac_200_3, gac_200_4, gac_200_5, gac_200_6, gic_200_7, gic_200_8, pic_1_1, pic_1_2, pic_1_3, pic_1_4, pic_1_5, pic_1_6, pic_3_1, pic_3_2, pic_3_3, pic_3_4, pic_3_5, pic_3_6, pic_3_7, pic_5_0, pic_5_1, pic_5_2, pic_5_3, pic_5_4, pic_13_2, pic_13_10, pic_13_11, pic_13_12, pic_13_13, pic_14_4, pic_14_5, pic_15_0, pic_15_1, pic_15_2, pic_15_3, pic_15_4, pic_23_7, pic_23_8, pic_31_1, pic_31_2, pic_193_3, pic_200_7, pic_200_8, gdc_0, gdc_1, gdc_3, gdc_5, gdc_13, gdc_14, gdc_15, gdc_23, gdc_31, gdc_193, gdc_198, gdc_200, ldc_2, stc_2, ldc_4, stc_4, ldc_6, stc_6, ldc_7, stc_7, ldc_8, stc_8, ldc_9, stc_9, ldc_10, stc_10, ldc_11, stc_11, ldc_12, stc_12, ldc_16, stc_16, ldc_17, stc_17, ldc_18, stc_18, ldc_19, stc_19, ldc_20, stc_20, ldc_21, stc_21, ldc_22, stc_22, ldc_24, stc_24, ldc_25, stc_25, ldc_26, stc_26, ldc_27, stc_27, ldc_28, stc_28, ldc_29, stc_29, ldc_30, stc_30, ldc_194, stc_194, ldc_195, stc_195, ldc_196, stc_196, ldc_199, stc_199, ldc_201, stc_201, ldc_202, stc_202, ldc_203, stc_203, ldc_204, stc_204, ldc_205, stc_205, ldc_206, stc_206, ldc_207, stc_207, ldc_208, stc_208, ldc_209, stc_209, ldc_210, stc_210, ldc_211, stc_211, ldc_213, stc_213, ldc_214, stc_214, ldc_215, stc_215, ldc_216, stc_216, ldc_217, stc_217, ldc_218, stc_218, ldc_219, stc_219, ldc_263, stc_263, lda_197, lda_262, lda_212, lda_32, u2_s, u2_a, u2_b, isPla_T cP5.1, within_TL, b1]
  · unfold F_X12_lull
    simp (disch := omega) only [gdm, gam_1, gam_2, gam_3, gam_4, gam_5, gam_6, gam_7, gam_8, gam_9, gam_10, gam_11, gam_12, gam_13, gam_14, gam_15, gam_16, gam_17, gam_18, gam_19, gam_20, gam_21, gam_22, gam_23, gam_24, gam_25, gam_26, gam_37, gam_38, gam_39, gam_40, gam_41, gam_42, gam_43, gam_44, gam_45, gam_46, gam_48, gam_49, gam_56, gam_57, gam_58, gam_59, gam_60, gam_61, gim_27, gim_28, gim_29, gim_30, gim_31, gim_32, gim_33, gim_34, gim_35, gim_36, gim_47, gim_50, gim_51, gim_52, gim_53, gim_54, gim_55, gim_62, gim_63, ob_some, reduceIte, lit, le_T, le_F, lt_T, lt_F, eq_T, eq_F, nI_add, ldm_997, stm_997, ldm_998, stm_998, ldm_999, stm_999, ldm_1000, stm_1000, ldm_1001, stm_1001, ldm_1002, stm_1002, ldm_1003, stm_1003, ldm_1004, stm_1004, ldm_1005, stm_1005, ldm_1006, stm_1006, ldm_1007, stm_1007, ldm_1008, stm_1008, ldm_1009, stm_1009, ldm_1010, stm_1010, ldm_1011, stm_1011, ldm_1012, stm_1012, ldm_1013, stm_1013, ldm_1014, stm_1014, ldm_1015, stm_1015, ldm_1016, stm_1016, ldm_1017, stm_1017, ldm_1018, stm_1018, ldm_1019, stm_1019, ldm_1020, stm_1020, ldm_1021, stm_1021, ldm_1022, stm_1022, u2_s, u2_a, u2_b, not_true, not_false_iff, isPla_TM hP2, within_TL, in_1_100, in_0_1, k1]
    exact e1
