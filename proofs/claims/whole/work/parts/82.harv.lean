/-! harvest, note, pence -/
def hvF (w : Nat → Nat) : Nat → Option (Nat × Nat)
  | 0 => none
  | i + 1 => match hvF w i with
    | none => some (w i, i)
    | some (a, j) => if w i ≤ a then some (a, j) else some (w i, i)
set_option maxRecDepth 4000 in
theorem hvF_some {w : Nat → Nat} : ∀ n, 0 < n → ∃ a j, hvF w n = some (a, j) ∧ j < n
  | 0, h => absurd h (by omega)
  | 1, _ => ⟨w 0, 0, rfl, by omega⟩
  | n + 2, _ => by
    obtain ⟨a, j, e, hj⟩ := hvF_some (w := w) (n + 1) (by omega)
    rw [hvF, e]
    by_cases h : w (n + 1) ≤ a
    · exact ⟨a, j, if_pos h, by omega⟩
    · exact ⟨_, _, if_neg h, by omega⟩
def hvR (h : Nat) (o : Option (Nat × Nat)) (x y : Int32) : Prop := match o with
  | none => x = -nI 1
  | some (a, j) => x = nI a ∧ y = nI (h + j) ∧ a ≤ 21600
abbrev HvS : Type := Int32 × Int32 × (Nat → Nat → Int32) × (Nat → Nat → Int64)
set_option maxRecDepth 4000 in
theorem harvest_C {m : Nat → Nat → Int32} {q : Nat → Nat → Int64} {P A : Nat → Nat → Nat} {fo n k : Nat} {ρ : Option RT} (h : QC m P A (fR fo) ρ) (h4 : m 14 4 = fI fo) (hf : fo ≤ 6) (hn : n ≤ 100) (hk : k ≤ 1) {a j : Nat} (ho : hvF (wN P ρ A) n = some (a, j)) : ∃ m1 q1, F_X2_windiest 13 (nI n) (nI k) (KS, m, q) = some (if k = 0 then nI (A 0 1 + j) else nI a, (KS, m1, q1)) ∧ KC m m1 := by
  obtain ⟨B1, B2, B3⟩ := h.1.2
  have hsq := h.1.sq
  have hAh := h.2.1.2
  obtain ⟨ma, t1, t2, t3⟩ := trial_ok (q := q) h
  have h4a : ma 14 4 = fI fo := by rw [t2 _ (by omega)]; exact h4
  have c8a : ma 23 8 = nI (A 0 1) := by rw [t2 _ (by omega)]; exact h.2.1.1.2.2.2.2.1.1
  obtain ⟨f1, ⟨y1, y2, m1, q1⟩, e, i1, i4, i5⟩ := loop_up (fun f i (s : HvS) => B_X2_windiest_37 f 13 (nI n) (nI k) (fR fo) s.1 s.2.1 (nI i) (KS, s.2.2.1, s.2.2.2)) n (fun i s => hvR (A 0 1) (hvF (wN P ρ A) i) s.1 s.2.1 ∧ Out m s.2.2.1 200 208 ∧ SR P (blk s.2.2.1 200) (hoursA P ρ (-nI 1) i A)) (by
    intro f i ⟨y1, y2, m', q'⟩ hi ⟨i1, i4, i5⟩
    have hQ' := h.keep (KC.out i4 (by omega) (by omega))
    obtain ⟨m2, q2, w1, w2, w3⟩ := tpass (q := q') (kept := -nI 1) hQ' i5 (by rw [hoursA_h]; omega)
    have hw := s_windN (q := q2) sb200 w3 hsq.2
    have hwb := w3.wn hsq.2
    have c8 : m2 23 8 = nI (A 0 1) := by rw [w2 _ (by omega)]; exact hQ'.2.1.1.2.2.2.2.1.1
    have ew : nsum (hourA P ρ (-nI 1) (hoursA P ρ (-nI 1) i A) 7) (P 0 0 * P 0 0) = wN P ρ A i := rfl
    rw [ew] at hw hwb
    simp only [B_X2_windiest_37, B_X2_windiest_99]
    simp (disch := omega) only [lit, le_F, reduceIte, gac_13_3, gac_13_0, gac_14_0, gac_13_4, ob_some, w1, hw]
    rw [hvF]
    cases hv : hvF (wN P ρ A) i with
    | none =>
      rw [hv] at i1
      have i1 : y1 = -nI 1 := i1
      subst i1
      refine ⟨(nI (wN P ρ A i), nI (A 0 1 + i), m2, q2), ?_, ⟨rfl, rfl, hwb⟩, i4.trans w2, w3⟩
      have hf1 : (nI (wN P ρ A i) ≤ -nI 1) = False := m1_le (by omega)
      simp only [hf1, if_false, gac_13_0, gac_14_1, gic_23_8, ob_some, c8, nI_add]
    | some z =>
      obtain ⟨a, j⟩ := z
      rw [hv] at i1
      obtain ⟨x1, x2, x3⟩ := i1
      have x1 : y1 = nI a := x1
      have x2 : y2 = nI (A 0 1 + j) := x2
      subst x1 x2
      by_cases hle : wN P ρ A i ≤ a
      · refine ⟨(nI a, nI (A 0 1 + j), m2, q2), ?_, ?_, i4.trans w2, w3⟩
        · simp (disch := omega) only [le_T, reduceIte, nI_add]
        · show hvR _ (if wN P ρ A i ≤ a then some (a, j) else some (wN P ρ A i, i)) _ _
          rw [if_pos hle]; exact ⟨rfl, rfl, x3⟩
      · refine ⟨(nI (wN P ρ A i), nI (A 0 1 + i), m2, q2), ?_, ?_, i4.trans w2, w3⟩
        · simp (disch := omega) only [le_F, reduceIte, gac_13_0, gac_14_1, gic_23_8, ob_some, c8, nI_add]
        · show hvR _ (if wN P ρ A i ≤ a then some (a, j) else some (wN P ρ A i, i)) _ _
          rw [if_neg hle]; exact ⟨rfl, rfl, hwb⟩) n 0 mk_fu (-nI 1, nI (A 0 1), ma, q) (by omega) (by rw [mk_fu_eq]; omega) ⟨rfl, t2, t3⟩
  refine ⟨m1, q1, ?_, KC.out i4 (by omega) (by omega)⟩
  unfold F_X2_windiest
  simp only [gdc_13, gac_13_4, gac_13_0, gac_14_1, gic_23_8, ob_some, lit, t1, inForce_C h4a hf, c8a]
  refine Eq.trans e ?_
  rw [ho] at i1
  obtain ⟨x1, x2, x3⟩ := i1
  have x1 : y1 = nI a := x1
  have x2 : y2 = nI (A 0 1 + j) := x2
  subst x1 x2
  simp only [B_X2_windiest_37]
  rcases (show k = 0 ∨ k = 1 by omega) with ek | ek <;> subst ek <;> simp (disch := omega) only [lit, le_T, reduceIte, eq_T, eq_F] <;> rfl
set_option maxRecDepth 4000 in
theorem harvest_M {m0 m : Nat → Nat → Int32} {q : Nat → Nat → Int64} {P A : Nat → Nat → Nat} {n k : Nat} {ρ : Option RT} (hQ : QM m P ρ (-nI 1)) (hA : MS P (blk m 997) A) (hAh : A 0 1 ≤ 999) (hn : n ≤ 100) (hk : k ≤ 1) (hK : KP m0 m) {a j : Nat} (ho : hvF (wN P ρ A) n = some (a, j)) : ∃ m1 q1, B_X12_harvest_43 mk_fu 996 (nI n) (nI k) (-nI 1) (-nI 1) (nI 0) (KS, m, q) = some (if k = 0 then nI (A 0 1 + j) else nI a, (KS, m1, q1)) ∧ KP m0 m1 ∧ KB m0 m1 ∧ m1 996 47 = -nI 1 := by
  obtain ⟨B1, B2, B3⟩ := hQ.1.2
  have hsq := PR.sq hQ.1
  obtain ⟨f1, ⟨y1, y2, m1, q1⟩, e, i1, i4, i5⟩ := loop_up (fun f i (s : HvS) => B_X12_harvest_43 f 996 (nI n) (nI k) s.1 s.2.1 (nI i) (KS, s.2.2.1, s.2.2.2)) n (fun i s => hvR (A 0 1) (hvF (wN P ρ A) i) s.1 s.2.1 ∧ MO m s.2.2.1 ∧ MS P (blk s.2.2.1 997) (hoursA P ρ (-nI 1) i A)) (by
    intro f i ⟨y1, y2, m', q'⟩ hi ⟨i1, i4, i5⟩
    have hQ' := hQ.mo i4
    obtain ⟨m2, q2, w1, w2, w3⟩ := mgo (q := q') hQ' i5 (by rw [hoursA_h]; omega)
    have hs0 : m2 997 0 = nI (P 0 0) := (hQ'.mo w2).1.1.1
    have hw := mallw (m := m2) (q := q2) hs0 hsq.2 (fun k hk => (w3.2.2.1 k hk).1)
    have hwb := w3.wn hsq.2
    have h5 : m2 997 5 = nI (A 0 1 + i + 1) := by
      have h := w3.2.2.2.2.1
      rw [show hourA P ρ (-nI 1) (hoursA P ρ (-nI 1) i A) 0 1 = hoursA P ρ (-nI 1) i A 0 1 + 1 from rfl, hoursA_h] at h
      exact h
    have ew : nsum (hourA P ρ (-nI 1) (hoursA P ρ (-nI 1) i A) 7) (P 0 0 * P 0 0) = wN P ρ A i := rfl
    rw [ew] at hw hwb
    simp only [B_X12_harvest_43, B_X12_harvest_77]
    simp (disch := omega) only [lit, le_F, reduceIte, ob_some, w1, hw]
    rw [hvF]
    cases hv : hvF (wN P ρ A) i with
    | none =>
      rw [hv] at i1
      have i1 : y1 = -nI 1 := i1
      subst i1
      refine ⟨(nI (wN P ρ A i), nI (A 0 1 + i), m2, q2), ?_, ⟨rfl, rfl, hwb⟩, i4.trans w2, w3⟩
      have hf1 : (nI (wN P ρ A i) ≤ -nI 1) = False := m1_le (by omega)
      simp (disch := omega) only [hf1, if_false, gam_1, ldm_997, ob_some, h5, sub1, nI_add, Nat.add_sub_cancel]
    | some z =>
      obtain ⟨a, j⟩ := z
      rw [hv] at i1
      obtain ⟨x1, x2, x3⟩ := i1
      have x1 : y1 = nI a := x1
      have x2 : y2 = nI (A 0 1 + j) := x2
      subst x1 x2
      by_cases hle : wN P ρ A i ≤ a
      · refine ⟨(nI a, nI (A 0 1 + j), m2, q2), ?_, ?_, i4.trans w2, w3⟩
        · simp (disch := omega) only [le_T, reduceIte, nI_add]
        · show hvR _ (if wN P ρ A i ≤ a then some (a, j) else some (wN P ρ A i, i)) _ _
          rw [if_pos hle]; exact ⟨rfl, rfl, x3⟩
      · refine ⟨(nI (wN P ρ A i), nI (A 0 1 + i), m2, q2), ?_, ?_, i4.trans w2, w3⟩
        · simp (disch := omega) only [le_F, reduceIte, gam_1, ldm_997, ob_some, h5, sub1, nI_add, Nat.add_sub_cancel]
        · show hvR _ (if wN P ρ A i ≤ a then some (a, j) else some (wN P ρ A i, i)) _ _
          rw [if_neg hle]; exact ⟨rfl, rfl, hwb⟩) n 0 mk_fu (-nI 1, -nI 1, m, q) (by omega) (by rw [mk_fu_eq]; omega) ⟨rfl, MO.rf, hA⟩
  have i4 : MO m m1 := i4
  obtain ⟨mz, z1, z2, z3, z4, z5⟩ := laysBack_ok (q := q1) m1 (hK.mo i4)
  refine ⟨mz, q1, ?_, z2, z3, by rw [z4 47 (by omega) (by omega), i4.1 996 (by omega)]; exact hQ.2.2⟩
  refine Eq.trans e ?_
  rw [ho] at i1
  obtain ⟨x1, x2, x3⟩ := i1
  have x1 : y1 = nI a := x1
  have x2 : y2 = nI (A 0 1 + j) := x2
  subst x1 x2
  simp only [B_X12_harvest_43]
  rcases (show k = 0 ∨ k = 1 by omega) with ek | ek <;> subst ek <;> simp (disch := omega) only [lit, le_T, reduceIte, eq_T, eq_F, z1, ob_some] <;> rfl
set_option maxRecDepth 4000 in
theorem op_harvest (x1 x2 : Int32) : OP (F_X11_harvest 0 x1 x2) (F_X12_harvest 996 x1 x2) := by
  intro m q hI
  obtain ⟨⟨⟨⟨len, by_⟩, ⟨nr, RS⟩, ⟨P, A, H, n, N, nn, fo, x⟩, IM, md⟩, hC, hM⟩, hE⟩ := id hI
  obtain ⟨⟨ct1, ct2, ct3⟩, ⟨cr1, cr2, cr3⟩, ⟨⟨cP, ⟨cA, cAh⟩, cH, ⟨cn1, cn2⟩, ⟨cf1, cf2⟩, ⟨cx1, cx2⟩⟩, cwf⟩, cm1, cm2⟩ := id hC
  obtain ⟨⟨mt1, mt2⟩, ⟨mr1, mr2⟩, ⟨mP, ⟨mA, mAh⟩, ⟨mh1, mh2, mh3⟩, ⟨mn1, mn2⟩, ⟨mf1, mf2⟩, ⟨mx1, mx2⟩⟩, mm1, mm2, mw, ms⟩ := id hM
  have cP5 : m 15 0 = nI (P 0 0) ∧ m 15 1 = nI (P 0 1) ∧ m 15 2 = nI (P 0 2) ∧ m 15 3 = nI (P 0 3) ∧ m 15 4 = nI (P 0 4) := cP.five
  have mP5 : m 997 0 = nI (P 0 0) ∧ m 997 1 = nI (P 0 1) ∧ m 997 2 = nI (P 0 2) ∧ m 997 3 = nI (P 0 3) ∧ m 997 4 = nI (P 0 4) := mP.five
  obtain ⟨B0, B1, B2, B3, B4, B5⟩ := cP.bd
  by_cases h0 : P 0 0 = 0
  · refine ⟨-nI 1, m, q, m, q, ?_, ?_, hI, fun _ _ => rfl⟩
    · unfold F_X11_harvest; simp (disch := omega) only [ob_some, reduceIte, lit, le_T, le_F, lt_T, lt_F, eq_T, eq_F, nI_add, gac_0_0, gac_0_1, gac_0_2, gac_0_3, gac_0_4, gac_0_5, gac_0_6, gac_1_0, gic_1_1, gic_1_2, gic_1_3, gic_1_4, gic_1_5, gic_1_6, gac_3_0, gic_3_1, gic_3_2, gic_3_3, gic_3_4, gic_3_5, gic_3_6, gic_3_7, gic_5_0, gic_5_1, gic_5_2, gic_5_3, gic_5_4, gac_5_5, gac_5_6, gac_5_7, gac_5_8, gac_5_9, gac_5_10, gac_5_11, gac_13_0, gac_13_1, gic_13_2, gac_13_3, gac_13_4, gac_13_5, gac_13_6, gac_13_7, gac_13_8, gac_13_9, gic_13_10, gic_13_11, gic_13_12, gic_13_13, gac_14_0, gac_14_1, gac_14_2, gac_14_3, gic_14_4, gic_14_5, gic_15_0, gic_15_1, gic_15_2, gic_15_3, gic_15_4, gac_15_5, gac_15_6, gac_15_7, gac_15_8, gac_15_9, gac_15_10, gac_15_11, gac_23_0, gac_23_1, gac_23_2, gac_23_3, gac_23_4, gac_23_5, gac_23_6, gic_23_7, gic_23_8, gac_31_0, gic_31_1, gic_31_2, gac_193_0, gac_193_1, gac_193_2, gic_193_3, gac_198_0, gac_200_0, gac_200_1, gac_200_2, gac_200_3, gac_200_4, gac_200_5, gac_200_6, gic_200_7, gic_200_8, pic_1_1, pic_1_2, pic_1_3, pic_1_4, pic_1_5, pic_1_6, pic_3_1, pic_3_2, pic_3_3, pic_3_4, pic_3_5, pic_3_6, pic_3_7, pic_5_0, pic_5_1, pic_5_2, pic_5_3, pic_5_4, pic_13_2, pic_13_10, pic_13_11, pic_13_12, pic_13_13, pic_14_4, pic_14_5, pic_15_0, pic_15_1, pic_15_2, pic_15_3, pic_15_4, pic_23_7, pic_23_8, pic_31_1, pic_31_2, pic_193_3, pic_200_7, pic_200_8, gdc_0, gdc_1, gdc_3, gdc_5, gdc_13, gdc_14, gdc_15, gdc_23, gdc_31, gdc_193, gdc_198, gdc_200, ldc_2, stc_2, ldc_4, stc_4, ldc_6, stc_6, ldc_7, stc_7, ldc_8, stc_8, ldc_9, stc_9, ldc_10, stc_10, ldc_11, stc_11, ldc_12, stc_12, ldc_16, stc_16, ldc_17, stc_17, ldc_18, stc_18, ldc_19, stc_19, ldc_20, stc_20, ldc_21, stc_21, ldc_22, stc_22, ldc_24, stc_24, ldc_25, stc_25, ldc_26, stc_26, ldc_27, stc_27, ldc_28, stc_28, ldc_29, stc_29, ldc_30, stc_30, ldc_194, stc_194, ldc_195, stc_195, ldc_196, stc_196, ldc_199, stc_199, ldc_201, stc_201, ldc_202, stc_202, ldc_203, stc_203, ldc_204, stc_204, ldc_205, stc_205, ldc_206, stc_206, ldc_207, stc_207, ldc_208, stc_208, ldc_209, stc_209, ldc_210, stc_210, ldc_211, stc_211, ldc_213, stc_213, ldc_214, stc_214, ldc_215, stc_215, ldc_216, stc_216, ldc_217, stc_217, ldc_218, stc_218, ldc_219, stc_219, ldc_263, stc_263, lda_197, lda_262, lda_212, lda_32, u2_s, u2_a, u2_b, isPla_C cP5.1, h0]
    · unfold F_X12_harvest; simp (disch := omega) only [gdm, gam_1, gam_2, gam_3, gam_4, gam_5, gam_6, gam_7, gam_8, gam_9, gam_10, gam_11, gam_12, gam_13, gam_14, gam_15, gam_16, gam_17, gam_18, gam_19, gam_20, gam_21, gam_22, gam_23, gam_24, gam_25, gam_26, gam_37, gam_38, gam_39, gam_40, gam_41, gam_42, gam_43, gam_44, gam_45, gam_46, gam_48, gam_49, gam_56, gam_57, gam_58, gam_59, gam_60, gam_61, gim_27, gim_28, gim_29, gim_30, gim_31, gim_32, gim_33, gim_34, gim_35, gim_36, gim_47, gim_50, gim_51, gim_52, gim_53, gim_54, gim_55, gim_62, gim_63, ob_some, reduceIte, lit, le_T, le_F, lt_T, lt_F, eq_T, eq_F, nI_add, ldm_997, stm_997, ldm_998, stm_998, ldm_999, stm_999, ldm_1000, stm_1000, ldm_1001, stm_1001, ldm_1002, stm_1002, ldm_1003, stm_1003, ldm_1004, stm_1004, ldm_1005, stm_1005, ldm_1006, stm_1006, ldm_1007, stm_1007, ldm_1008, stm_1008, ldm_1009, stm_1009, ldm_1010, stm_1010, ldm_1011, stm_1011, ldm_1012, stm_1012, ldm_1013, stm_1013, ldm_1014, stm_1014, ldm_1015, stm_1015, ldm_1016, stm_1016, ldm_1017, stm_1017, ldm_1018, stm_1018, ldm_1019, stm_1019, ldm_1020, stm_1020, ldm_1021, stm_1021, ldm_1022, stm_1022, u2_s, u2_a, u2_b, not_true, not_false_iff, isPla_M mP5.1, h0]
  have h0 : 0 < P 0 0 := by omega
  rcases within_CL x1 1 100 (by omega) (by omega) with ⟨n1, hn0, hn1, rfl⟩ | hno
  rotate_left
  · refine ⟨-nI 1, m, q, m, q, ?_, ?_, hI, fun _ _ => rfl⟩
    · unfold F_X11_harvest; simp (disch := omega) only [ob_some, reduceIte, lit, le_T, le_F, lt_T, lt_F, eq_T, eq_F, nI_add, gac_0_0, gac_0_1, gac_0_2, gac_0_3, gac_0_4, gac_0_5, gac_0_6, gac_1_0, gic_1_1, gic_1_2, gic_1_3, gic_1_4, gic_1_5, gic_1_6, gac_3_0, gic_3_1, gic_3_2, gic_3_3, gic_3_4, gic_3_5, gic_3_6, gic_3_7, gic_5_0, gic_5_1, gic_5_2, gic_5_3, gic_5_4, gac_5_5, gac_5_6, gac_5_7, gac_5_8, gac_5_9, gac_5_10, gac_5_11, gac_13_0, gac_13_1, gic_13_2, gac_13_3, gac_13_4, gac_13_5, gac_13_6, gac_13_7, gac_13_8, gac_13_9, gic_13_10, gic_13_11, gic_13_12, gic_13_13, gac_14_0, gac_14_1, gac_14_2, gac_14_3, gic_14_4, gic_14_5, gic_15_0, gic_15_1, gic_15_2, gic_15_3, gic_15_4, gac_15_5, gac_15_6, gac_15_7, gac_15_8, gac_15_9, gac_15_10, gac_15_11, gac_23_0, gac_23_1, gac_23_2, gac_23_3, gac_23_4, gac_23_5, gac_23_6, gic_23_7, gic_23_8, gac_31_0, gic_31_1, gic_31_2, gac_193_0, gac_193_1, gac_193_2, gic_193_3, gac_198_0, gac_200_0, gac_200_1, gac_200_2, gac_200_3, gac_200_4, gac_200_5, gac_200_6, gic_200_7, gic_200_8, pic_1_1, pic_1_2, pic_1_3, pic_1_4, pic_1_5, pic_1_6, pic_3_1, pic_3_2, pic_3_3, pic_3_4, pic_3_5, pic_3_6, pic_3_7, pic_5_0, pic_5_1, pic_5_2, pic_5_3, pic_5_4, pic_13_2, pic_13_10, pic_13_11, pic_13_12, pic_13_13, pic_14_4, pic_14_5, pic_15_0, pic_15_1, pic_15_2, pic_15_3, pic_15_4, pic_23_7, pic_23_8, pic_31_1, pic_31_2, pic_193_3, pic_200_7, pic_200_8, gdc_0, gdc_1, gdc_3, gdc_5, gdc_13, gdc_14, gdc_15, gdc_23, gdc_31, gdc_193, gdc_198, gdc_200, ldc_2, stc_2, ldc_4, stc_4, ldc_6, stc_6, ldc_7, stc_7, ldc_8, stc_8, ldc_9, stc_9, ldc_10, stc_10, ldc_11, stc_11, ldc_12, stc_12, ldc_16, stc_16, ldc_17, stc_17, ldc_18, stc_18, ldc_19, stc_19, ldc_20, stc_20, ldc_21, stc_21, ldc_22, stc_22, ldc_24, stc_24, ldc_25, stc_25, ldc_26, stc_26, ldc_27, stc_27, ldc_28, stc_28, ldc_29, stc_29, ldc_30, stc_30, ldc_194, stc_194, ldc_195, stc_195, ldc_196, stc_196, ldc_199, stc_199, ldc_201, stc_201, ldc_202, stc_202, ldc_203, stc_203, ldc_204, stc_204, ldc_205, stc_205, ldc_206, stc_206, ldc_207, stc_207, ldc_208, stc_208, ldc_209, stc_209, ldc_210, stc_210, ldc_211, stc_211, ldc_213, stc_213, ldc_214, stc_214, ldc_215, stc_215, ldc_216, stc_216, ldc_217, stc_217, ldc_218, stc_218, ldc_219, stc_219, ldc_263, stc_263, lda_197, lda_262, lda_212, lda_32, u2_s, u2_a, u2_b, isPla_T cP5.1, hno]
    · unfold F_X12_harvest; simp (disch := omega) only [gdm, gam_1, gam_2, gam_3, gam_4, gam_5, gam_6, gam_7, gam_8, gam_9, gam_10, gam_11, gam_12, gam_13, gam_14, gam_15, gam_16, gam_17, gam_18, gam_19, gam_20, gam_21, gam_22, gam_23, gam_24, gam_25, gam_26, gam_37, gam_38, gam_39, gam_40, gam_41, gam_42, gam_43, gam_44, gam_45, gam_46, gam_48, gam_49, gam_56, gam_57, gam_58, gam_59, gam_60, gam_61, gim_27, gim_28, gim_29, gim_30, gim_31, gim_32, gim_33, gim_34, gim_35, gim_36, gim_47, gim_50, gim_51, gim_52, gim_53, gim_54, gim_55, gim_62, gim_63, ob_some, reduceIte, lit, le_T, le_F, lt_T, lt_F, eq_T, eq_F, nI_add, ldm_997, stm_997, ldm_998, stm_998, ldm_999, stm_999, ldm_1000, stm_1000, ldm_1001, stm_1001, ldm_1002, stm_1002, ldm_1003, stm_1003, ldm_1004, stm_1004, ldm_1005, stm_1005, ldm_1006, stm_1006, ldm_1007, stm_1007, ldm_1008, stm_1008, ldm_1009, stm_1009, ldm_1010, stm_1010, ldm_1011, stm_1011, ldm_1012, stm_1012, ldm_1013, stm_1013, ldm_1014, stm_1014, ldm_1015, stm_1015, ldm_1016, stm_1016, ldm_1017, stm_1017, ldm_1018, stm_1018, ldm_1019, stm_1019, ldm_1020, stm_1020, ldm_1021, stm_1021, ldm_1022, stm_1022, u2_s, u2_a, u2_b, not_true, not_false_iff, isPla_TM mP5.1, in_1_100, hno]
  rcases within_CL x2 0 1 (by omega) (by omega) with ⟨k, -, hk, rfl⟩ | hno
  rotate_left
  · refine ⟨-nI 1, m, q, m, q, ?_, ?_, hI, fun _ _ => rfl⟩
    · unfold F_X11_harvest; simp (disch := omega) only [ob_some, reduceIte, lit, le_T, le_F, lt_T, lt_F, eq_T, eq_F, nI_add, gac_0_0, gac_0_1, gac_0_2, gac_0_3, gac_0_4, gac_0_5, gac_0_6, gac_1_0, gic_1_1, gic_1_2, gic_1_3, gic_1_4, gic_1_5, gic_1_6, gac_3_0, gic_3_1, gic_3_2, gic_3_3, gic_3_4, gic_3_5, gic_3_6, gic_3_7, gic_5_0, gic_5_1, gic_5_2, gic_5_3, gic_5_4, gac_5_5, gac_5_6, gac_5_7, gac_5_8, gac_5_9, gac_5_10, gac_5_11, gac_13_0, gac_13_1, gic_13_2, gac_13_3, gac_13_4, gac_13_5, gac_13_6, gac_13_7, gac_13_8, gac_13_9, gic_13_10, gic_13_11, gic_13_12, gic_13_13, gac_14_0, gac_14_1, gac_14_2, gac_14_3, gic_14_4, gic_14_5, gic_15_0, gic_15_1, gic_15_2, gic_15_3, gic_15_4, gac_15_5, gac_15_6, gac_15_7, gac_15_8, gac_15_9, gac_15_10, gac_15_11, gac_23_0, gac_23_1, gac_23_2, gac_23_3, gac_23_4, gac_23_5, gac_23_6, gic_23_7, gic_23_8, gac_31_0, gic_31_1, gic_31_2, gac_193_0, gac_193_1, gac_193_2, gic_193_3, gac_198_0, gac_200_0, gac_200_1, gac_200_2, gac_200_3, gac_200_4, gac_200_5, gac_200_6, gic_200_7, gic_200_8, pic_1_1, pic_1_2, pic_1_3, pic_1_4, pic_1_5, pic_1_6, pic_3_1, pic_3_2, pic_3_3, pic_3_4, pic_3_5, pic_3_6, pic_3_7, pic_5_0, pic_5_1, pic_5_2, pic_5_3, pic_5_4, pic_13_2, pic_13_10, pic_13_11, pic_13_12, pic_13_13, pic_14_4, pic_14_5, pic_15_0, pic_15_1, pic_15_2, pic_15_3, pic_15_4, pic_23_7, pic_23_8, pic_31_1, pic_31_2, pic_193_3, pic_200_7, pic_200_8, gdc_0, gdc_1, gdc_3, gdc_5, gdc_13, gdc_14, gdc_15, gdc_23, gdc_31, gdc_193, gdc_198, gdc_200, ldc_2, stc_2, ldc_4, stc_4, ldc_6, stc_6, ldc_7, stc_7, ldc_8, stc_8, ldc_9, stc_9, ldc_10, stc_10, ldc_11, stc_11, ldc_12, stc_12, ldc_16, stc_16, ldc_17, stc_17, ldc_18, stc_18, ldc_19, stc_19, ldc_20, stc_20, ldc_21, stc_21, ldc_22, stc_22, ldc_24, stc_24, ldc_25, stc_25, ldc_26, stc_26, ldc_27, stc_27, ldc_28, stc_28, ldc_29, stc_29, ldc_30, stc_30, ldc_194, stc_194, ldc_195, stc_195, ldc_196, stc_196, ldc_199, stc_199, ldc_201, stc_201, ldc_202, stc_202, ldc_203, stc_203, ldc_204, stc_204, ldc_205, stc_205, ldc_206, stc_206, ldc_207, stc_207, ldc_208, stc_208, ldc_209, stc_209, ldc_210, stc_210, ldc_211, stc_211, ldc_213, stc_213, ldc_214, stc_214, ldc_215, stc_215, ldc_216, stc_216, ldc_217, stc_217, ldc_218, stc_218, ldc_219, stc_219, ldc_263, stc_263, lda_197, lda_262, lda_212, lda_32, u2_s, u2_a, u2_b, isPla_T cP5.1, within_TL, hno]
    · unfold F_X12_harvest; simp (disch := omega) only [gdm, gam_1, gam_2, gam_3, gam_4, gam_5, gam_6, gam_7, gam_8, gam_9, gam_10, gam_11, gam_12, gam_13, gam_14, gam_15, gam_16, gam_17, gam_18, gam_19, gam_20, gam_21, gam_22, gam_23, gam_24, gam_25, gam_26, gam_37, gam_38, gam_39, gam_40, gam_41, gam_42, gam_43, gam_44, gam_45, gam_46, gam_48, gam_49, gam_56, gam_57, gam_58, gam_59, gam_60, gam_61, gim_27, gim_28, gim_29, gim_30, gim_31, gim_32, gim_33, gim_34, gim_35, gim_36, gim_47, gim_50, gim_51, gim_52, gim_53, gim_54, gim_55, gim_62, gim_63, ob_some, reduceIte, lit, le_T, le_F, lt_T, lt_F, eq_T, eq_F, nI_add, ldm_997, stm_997, ldm_998, stm_998, ldm_999, stm_999, ldm_1000, stm_1000, ldm_1001, stm_1001, ldm_1002, stm_1002, ldm_1003, stm_1003, ldm_1004, stm_1004, ldm_1005, stm_1005, ldm_1006, stm_1006, ldm_1007, stm_1007, ldm_1008, stm_1008, ldm_1009, stm_1009, ldm_1010, stm_1010, ldm_1011, stm_1011, ldm_1012, stm_1012, ldm_1013, stm_1013, ldm_1014, stm_1014, ldm_1015, stm_1015, ldm_1016, stm_1016, ldm_1017, stm_1017, ldm_1018, stm_1018, ldm_1019, stm_1019, ldm_1020, stm_1020, ldm_1021, stm_1021, ldm_1022, stm_1022, u2_s, u2_a, u2_b, not_true, not_false_iff, isPla_TM mP5.1, within_TL, in_1_100, in_0_1, hno]
  obtain ⟨hQ, h4, hf6⟩ := qc_of hC hE h0
  obtain ⟨a, j, ho, -⟩ := hvF_some (w := wN P (frho RS fo) A) n1 hn0
  obtain ⟨mb, qb, b1, kb⟩ := harvest_C (q := q) hQ h4 hf6 hn1 hk ho
  obtain ⟨hQM, hMS⟩ := qm_of hC hM h0 kb
  obtain ⟨mc, k1, k2, k3, k4, k5⟩ := keepsAll_ok (q := qb) mb
  have hQc := hQM.back k2.1 k3 ((k4 47 (by omega) (by omega)).trans hQM.2.2)
  obtain ⟨me, qe, e1, e2, e3, e4⟩ := harvest_M (q := qb) hQc (hMS.back hQM.1 k3) cAh hn1 hk k2 ho
  obtain ⟨f1, f2⟩ := ask_fin hC hM hE kb e2.1 e3 (e4.trans hQM.2.2.symm)
  have hP2 : mb 997 0 = nI (P 0 0) := by rw [kb.1 _ (by omega) (by omega)]; exact mP5.1
  refine ⟨if k = 0 then nI (A 0 1 + j) else nI a, mb, qb, me, qe, ?_, ?_, f1, f2⟩
  · unfold F_X11_harvest
    simp (disch := omega) only [ob_some, reduceIte, lit, le_T, le_F, lt_T, lt_F, eq_T, eq_F, nI_add, gac_0_0, gac_0_1, gac_0_2, gac_0_3, gac_0_4, gac_0_5, gac_0_6, gac_1_0, gic_1_1, gic_1_2, gic_1_3, gic_1_4, gic_1_5, gic_1_6, gac_3_0, gic_3_1, gic_3_2, gic_3_3, gic_3_4, gic_3_5, gic_3_6, gic_3_7, gic_5_0, gic_5_1, gic_5_2, gic_5_3, gic_5_4, gac_5_5, gac_5_6, gac_5_7, gac_5_8, gac_5_9, gac_5_10, gac_5_11, gac_13_0, gac_13_1, gic_13_2, gac_13_3, gac_13_4, gac_13_5, gac_13_6, gac_13_7, gac_13_8, gac_13_9, gic_13_10, gic_13_11, gic_13_12, gic_13_13, gac_14_0, gac_14_1, gac_14_2, gac_14_3, gic_14_4, gic_14_5, gic_15_0, gic_15_1, gic_15_2, gic_15_3, gic_15_4, gac_15_5, gac_15_6, gac_15_7, gac_15_8, gac_15_9, gac_15_10, gac_15_11, gac_23_0, gac_23_1, gac_23_2, gac_23_3, gac_23_4, gac_23_5, gac_23_6, gic_23_7, gic_23_8, gac_31_0, gic_31_1, gic_31_2, gac_193_0, gac_193_1, gac_193_2, gic_193_3, gac_198_0, gac_200_0, gac_200_1, gac_200_2, gac_200_3, gac_200_4, gac_200_5, gac_200_6, gic_200_7, gic_200_8, pic_1_1, pic_1_2, pic_1_3, pic_1_4, pic_1_5, pic_1_6, pic_3_1, pic_3_2, pic_3_3, pic_3_4, pic_3_5, pic_3_6, pic_3_7, pic_5_0, pic_5_1, pic_5_2, pic_5_3, pic_5_4, pic_13_2, pic_13_10, pic_13_11, pic_13_12, pic_13_13, pic_14_4, pic_14_5, pic_15_0, pic_15_1, pic_15_2, pic_15_3, pic_15_4, pic_23_7, pic_23_8, pic_31_1, pic_31_2, pic_193_3, pic_200_7, pic_200_8, gdc_0, gdc_1, gdc_3, gdc_5, gdc_13, gdc_14, gdc_15, gdc_23, gdc_31, gdc_193, gdc_198, gdc_200, ldc_2, stc_2, ldc_4, stc_4, ldc_6, stc_6, ldc_7, stc_7, ldc_8, stc_8, ldc_9, stc_9, ldc_10, stc_10, ldc_11, stc_11, ldc_12, stc_12, ldc_16, stc_16, ldc_17, stc_17, ldc_18, stc_18, ldc_19, stc_19, ldc_20, stc_20, ldc_21, stc_21, ldc_22, stc_22, ldc_24, stc_24, ldc_25, stc_25, ldc_26, stc_26, ldc_27, stc_27, ldc_28, stc_28, ldc_29, stc_29, ldc_30, stc_30, ldc_194, stc_194, ldc_195, stc_195, ldc_196, stc_196, ldc_199, stc_199, ldc_201, stc_201, ldc_202, stc_202, ldc_203, stc_203, ldc_204, stc_204, ldc_205, stc_205, ldc_206, stc_206, ldc_207, stc_207, ldc_208, stc_208, ldc_209, stc_209, ldc_210, stc_210, ldc_211, stc_211, ldc_213, stc_213, ldc_214, stc_214, ldc_215, stc_215, ldc_216, stc_216, ldc_217, stc_217, ldc_218, stc_218, ldc_219, stc_219, ldc_263, stc_263, lda_197, lda_262, lda_212, lda_32, u2_s, u2_a, u2_b, isPla_T cP5.1, within_TL, b1]
  · unfold F_X12_harvest
    simp (disch := omega) only [gdm, gam_1, gam_2, gam_3, gam_4, gam_5, gam_6, gam_7, gam_8, gam_9, gam_10, gam_11, gam_12, gam_13, gam_14, gam_15, gam_16, gam_17, gam_18, gam_19, gam_20, gam_21, gam_22, gam_23, gam_24, gam_25, gam_26, gam_37, gam_38, gam_39, gam_40, gam_41, gam_42, gam_43, gam_44, gam_45, gam_46, gam_48, gam_49, gam_56, gam_57, gam_58, gam_59, gam_60, gam_61, gim_27, gim_28, gim_29, gim_30, gim_31, gim_32, gim_33, gim_34, gim_35, gim_36, gim_47, gim_50, gim_51, gim_52, gim_53, gim_54, gim_55, gim_62, gim_63, ob_some, reduceIte, lit, le_T, le_F, lt_T, lt_F, eq_T, eq_F, nI_add, ldm_997, stm_997, ldm_998, stm_998, ldm_999, stm_999, ldm_1000, stm_1000, ldm_1001, stm_1001, ldm_1002, stm_1002, ldm_1003, stm_1003, ldm_1004, stm_1004, ldm_1005, stm_1005, ldm_1006, stm_1006, ldm_1007, stm_1007, ldm_1008, stm_1008, ldm_1009, stm_1009, ldm_1010, stm_1010, ldm_1011, stm_1011, ldm_1012, stm_1012, ldm_1013, stm_1013, ldm_1014, stm_1014, ldm_1015, stm_1015, ldm_1016, stm_1016, ldm_1017, stm_1017, ldm_1018, stm_1018, ldm_1019, stm_1019, ldm_1020, stm_1020, ldm_1021, stm_1021, ldm_1022, stm_1022, u2_s, u2_a, u2_b, not_true, not_false_iff, isPla_TM hP2, within_TL, in_1_100, in_0_1, k1]
    exact e1
set_option maxRecDepth 4000 in
/-- notes come, or go -/
theorem note_set {m m1 m2 : Nat → Nat → Int32} {T : TT} {nr : Nat} {RS : Nat → RT} {P A N N1 : Nat → Nat → Nat} {H : Nat → Nat → Nat → Nat} {n nn nn1 fo x : Nat} {IM : Nat → WT} {md : Nat → Bool} (hC : CI (T, (nr, RS), (P, A, H, n, N, nn, fo, x), IM, md) m) (hM : MI (T, (nr, RS), (P, A, H, n, N, nn, fo, x), IM, md) m) (hE : EX m)
    (e1 : ∀ i, i < 193 ∨ 196 < i → m1 i = m i) (h1 : m1 193 3 = nI nn1) (h2 : NotesOK P N1 (m1 194) (m1 195) (m1 196) nn1)
    (e2 : ∀ i, i ≠ 997 → i < 1010 ∨ 1012 < i → m2 i = m1 i) (e7 : ∀ k, k ≠ 7 → m2 997 k = m1 997 k) (h3 : m2 997 7 = nI nn1) (h4 : NotesOK P N1 (m2 1010) (m2 1011) (m2 1012) nn1) : Inv m2 ∧ ∀ i, 1041 ≤ i → m2 i = m i := by
  have e : ∀ i, i < 193 ∨ 196 < i → i ≠ 997 → i < 1010 ∨ 1012 < i → m2 i = m i := fun i a b c => (e2 i b c).trans (e1 i a)
  have e41 : ∀ i, 1041 ≤ i → m2 i = m i := fun i hi => e i (by omega) (by omega) (by omega)
  refine ⟨⟨⟨(T, (nr, RS), (P, A, H, n, N1, nn1, fo, x), IM, md), ?_, ?_⟩, hE.up e41⟩, e41⟩
  · have hW := hC.2.2.1
    refine CI.now (m := m) hC (CW.nt (m := m) hW.1 (fun i a b => e i (by omega) (by omega) (by omega)) ?_ ?_) hW.2 (by rw [e _ (by omega) (by omega) (by omega)]) (e _ (by omega) (by omega) (by omega)) (by rw [e _ (by omega) (by omega) (by omega)]) (fun i _ _ => e i (by omega) (by omega) (by omega)) (fun i _ _ => e i (by omega) (by omega) (by omega))
    · rw [e2 _ (by omega) (by omega)]; exact h1
    · rw [e2 _ (by omega) (by omega), e2 _ (by omega) (by omega), e2 _ (by omega) (by omega)]; exact h2
  · refine MI.now (m := m) hM (MW.nt (v := nv m) hM.2.2.1 (fun j k hj hk h h' => ?_) h3 h4) (by rw [e _ (by omega) (by omega) (by omega)]) (by rw [e _ (by omega) (by omega) (by omega)]) (by rw [e _ (by omega) (by omega) (by omega)]) (by rw [e _ (by omega) (by omega) (by omega)]) (fun i _ _ => e i (by omega) (by omega) (by omega)) (fun k _ => by rw [e _ (by omega) (by omega) (by omega)]) (e _ (by omega) (by omega) (by omega))
    refine nv_eq hj (fun _ => by rw [e _ (by omega) (by omega) (by omega)]) (fun hl => ?_) (fun _ _ => by rw [e _ (by omega) (by omega) (by omega)]) (fun _ => by rw [e _ (by omega) (by omega) (by omega)])
    by_cases h0 : j = 0
    · subst h0
      show m2 997 k = m 997 k
      rw [e7 k (by omega), e1 _ (by omega)]
    · rw [e _ (by omega) (by omega) (by omega)]
def noteU (N : Nat → Nat → Nat) (nn h c w : Nat) : Nat → Nat → Nat := fun i k => if k = nn then (match i with | 0 => h | 1 => c | _ => w) else N i k
set_option maxRecDepth 4000 in
theorem noteU_0 {N : Nat → Nat → Nat} {nn h c w : Nat} : noteU N nn h c w 0 nn = h := by unfold noteU; exact if_pos rfl
set_option maxRecDepth 4000 in
theorem noteU_1 {N : Nat → Nat → Nat} {nn h c w : Nat} : noteU N nn h c w 1 nn = c := by unfold noteU; exact if_pos rfl
set_option maxRecDepth 4000 in
theorem noteU_2 {N : Nat → Nat → Nat} {nn h c w : Nat} : noteU N nn h c w 2 nn = w := by unfold noteU; exact if_pos rfl
set_option maxRecDepth 4000 in
theorem noteU_ne {N : Nat → Nat → Nat} {nn h c w i k : Nat} (e : k ≠ nn) : noteU N nn h c w i k = N i k := by unfold noteU; exact if_neg e
set_option maxRecDepth 4000 in
theorem op_note (x1 x2 x3 : Int32) : OP (F_X11_note 0 x1 x2 x3) (F_X12_note 996 x1 x2 x3) := by
  intro m q hI
  obtain ⟨⟨⟨⟨len, by_⟩, ⟨nr, RS⟩, ⟨P, A, H, n, N, nn, fo, x⟩, IM, md⟩, hC, hM⟩, hE⟩ := id hI
  obtain ⟨⟨ct1, ct2, ct3⟩, ⟨cr1, cr2, cr3⟩, ⟨⟨cP, ⟨cA, cAh⟩, cH, ⟨cn1, cn2⟩, ⟨cf1, cf2⟩, ⟨cx1, cx2⟩⟩, cwf⟩, cm1, cm2⟩ := id hC
  obtain ⟨⟨mt1, mt2⟩, ⟨mr1, mr2⟩, ⟨mP, ⟨mA, mAh⟩, ⟨mh1, mh2, mh3⟩, ⟨mn1, mn2⟩, ⟨mf1, mf2⟩, ⟨mx1, mx2⟩⟩, mm1, mm2, mw, ms⟩ := id hM
  have cP5 : m 15 0 = nI (P 0 0) ∧ m 15 1 = nI (P 0 1) ∧ m 15 2 = nI (P 0 2) ∧ m 15 3 = nI (P 0 3) ∧ m 15 4 = nI (P 0 4) := cP.five
  have mP5 : m 997 0 = nI (P 0 0) ∧ m 997 1 = nI (P 0 1) ∧ m 997 2 = nI (P 0 2) ∧ m 997 3 = nI (P 0 3) ∧ m 997 4 = nI (P 0 4) := mP.five
  obtain ⟨B0, B1, B2, B3, B4, B5⟩ := cP.bd
  have c3 : m 193 3 = nI nn := cn1
  have d7 : m 997 7 = nI nn := mn1
  have hnn : nn ≤ 10 := cn2.1
  by_cases hm : x1 = -1
  · subst hm
    obtain ⟨f1, f2⟩ := note_set (N1 := N) (nn1 := 0) (m1 := mk_u2 m 193 3 (nI 0)) (m2 := mk_u2 (mk_u2 m 193 3 (nI 0)) 997 7 (nI 0)) hC hM hE (fun i hi => mk_u2_ne (by omega)) u2_s ⟨by omega, fun i hi => absurd hi (by omega)⟩ (fun i a b => mk_u2_ne a) (fun k hk => u2_b hk) u2_s ⟨by omega, fun i hi => absurd hi (by omega)⟩
    refine ⟨nI 0, mk_u2 m 193 3 (nI 0), q, mk_u2 (mk_u2 m 193 3 (nI 0)) 997 7 (nI 0), q, ?_, ?_, f1, f2⟩
    · unfold F_X11_note
      simp (disch := omega) only [ob_some, reduceIte, lit, le_T, le_F, lt_T, lt_F, eq_T, eq_F, nI_add, gac_0_0, gac_0_1, gac_0_2, gac_0_3, gac_0_4, gac_0_5, gac_0_6, gac_1_0, gic_1_1, gic_1_2, gic_1_3, gic_1_4, gic_1_5, gic_1_6, gac_3_0, gic_3_1, gic_3_2, gic_3_3, gic_3_4, gic_3_5, gic_3_6, gic_3_7, gic_5_0, gic_5_1, gic_5_2, gic_5_3, gic_5_4, gac_5_5, gac_5_6, gac_5_7, gac_5_8, gac_5_9, gac_5_10, gac_5_11, gac_13_0, gac_13_1, gic_13_2, gac_13_3, gac_13_4, gac_13_5, gac_13_6, gac_13_7, gac_13_8, gac_13_9, gic_13_10, gic_13_11, gic_13_12, gic_13_13, gac_14_0, gac_14_1, gac_14_2, gac_14_3, gic_14_4, gic_14_5, gic_15_0, gic_15_1, gic_15_2, gic_15_3, gic_15_4, gac_15_5, gac_15_6, gac_15_7, gac_15_8, gac_15_9, gac_15_10, gac_15_11, gac_23_0, gac_23_1, gac_23_2, gac_23_3, gac_23_4, gac_23_5, gac_23_6, gic_23_7, gic_23_8, gac_31_0, gic_31_1, gic_31_2, gac_193_0, gac_193_1, gac_193_2, gic_193_3, gac_198_0, gac_200_0, gac_200_1, gac_200_2, gac_200_3, gac_200_4, gac_200_5, gac_200_6, gic_200_7, gic_200_8, pic_1_1, pic_1_2, pic_1_3, pic_1_4, pic_1_5, pic_1_6, pic_3_1, pic_3_2, pic_3_3, pic_3_4, pic_3_5, pic_3_6, pic_3_7, pic_5_0, pic_5_1, pic_5_2, pic_5_3, pic_5_4, pic_13_2, pic_13_10, pic_13_11, pic_13_12, pic_13_13, pic_14_4, pic_14_5, pic_15_0, pic_15_1, pic_15_2, pic_15_3, pic_15_4, pic_23_7, pic_23_8, pic_31_1, pic_31_2, pic_193_3, pic_200_7, pic_200_8, gdc_0, gdc_1, gdc_3, gdc_5, gdc_13, gdc_14, gdc_15, gdc_23, gdc_31, gdc_193, gdc_198, gdc_200, ldc_2, stc_2, ldc_4, stc_4, ldc_6, stc_6, ldc_7, stc_7, ldc_8, stc_8, ldc_9, stc_9, ldc_10, stc_10, ldc_11, stc_11, ldc_12, stc_12, ldc_16, stc_16, ldc_17, stc_17, ldc_18, stc_18, ldc_19, stc_19, ldc_20, stc_20, ldc_21, stc_21, ldc_22, stc_22, ldc_24, stc_24, ldc_25, stc_25, ldc_26, stc_26, ldc_27, stc_27, ldc_28, stc_28, ldc_29, stc_29, ldc_30, stc_30, ldc_194, stc_194, ldc_195, stc_195, ldc_196, stc_196, ldc_199, stc_199, ldc_201, stc_201, ldc_202, stc_202, ldc_203, stc_203, ldc_204, stc_204, ldc_205, stc_205, ldc_206, stc_206, ldc_207, stc_207, ldc_208, stc_208, ldc_209, stc_209, ldc_210, stc_210, ldc_211, stc_211, ldc_213, stc_213, ldc_214, stc_214, ldc_215, stc_215, ldc_216, stc_216, ldc_217, stc_217, ldc_218, stc_218, ldc_219, stc_219, ldc_263, stc_263, lda_197, lda_262, lda_212, lda_32, u2_s, u2_a, u2_b]
    · unfold F_X12_note
      simp (disch := omega) only [gdm, gam_1, gam_2, gam_3, gam_4, gam_5, gam_6, gam_7, gam_8, gam_9, gam_10, gam_11, gam_12, gam_13, gam_14, gam_15, gam_16, gam_17, gam_18, gam_19, gam_20, gam_21, gam_22, gam_23, gam_24, gam_25, gam_26, gam_37, gam_38, gam_39, gam_40, gam_41, gam_42, gam_43, gam_44, gam_45, gam_46, gam_48, gam_49, gam_56, gam_57, gam_58, gam_59, gam_60, gam_61, gim_27, gim_28, gim_29, gim_30, gim_31, gim_32, gim_33, gim_34, gim_35, gim_36, gim_47, gim_50, gim_51, gim_52, gim_53, gim_54, gim_55, gim_62, gim_63, ob_some, reduceIte, lit, le_T, le_F, lt_T, lt_F, eq_T, eq_F, nI_add, ldm_997, stm_997, ldm_998, stm_998, ldm_999, stm_999, ldm_1000, stm_1000, ldm_1001, stm_1001, ldm_1002, stm_1002, ldm_1003, stm_1003, ldm_1004, stm_1004, ldm_1005, stm_1005, ldm_1006, stm_1006, ldm_1007, stm_1007, ldm_1008, stm_1008, ldm_1009, stm_1009, ldm_1010, stm_1010, ldm_1011, stm_1011, ldm_1012, stm_1012, ldm_1013, stm_1013, ldm_1014, stm_1014, ldm_1015, stm_1015, ldm_1016, stm_1016, ldm_1017, stm_1017, ldm_1018, stm_1018, ldm_1019, stm_1019, ldm_1020, stm_1020, ldm_1021, stm_1021, ldm_1022, stm_1022, u2_s, u2_a, u2_b, not_true, not_false_iff]
  have hmf : (x1 = -nI 1) = False := eq_false hm
  rcases within_CL x1 0 60 (by omega) (by omega) with ⟨h, -, hh, rfl⟩ | hno
  rotate_left
  · refine ⟨-nI 2, m, q, m, q, ?_, ?_, hI, fun _ _ => rfl⟩
    · unfold F_X11_note; simp (disch := omega) only [ob_some, reduceIte, lit, le_T, le_F, lt_T, lt_F, eq_T, eq_F, nI_add, gac_0_0, gac_0_1, gac_0_2, gac_0_3, gac_0_4, gac_0_5, gac_0_6, gac_1_0, gic_1_1, gic_1_2, gic_1_3, gic_1_4, gic_1_5, gic_1_6, gac_3_0, gic_3_1, gic_3_2, gic_3_3, gic_3_4, gic_3_5, gic_3_6, gic_3_7, gic_5_0, gic_5_1, gic_5_2, gic_5_3, gic_5_4, gac_5_5, gac_5_6, gac_5_7, gac_5_8, gac_5_9, gac_5_10, gac_5_11, gac_13_0, gac_13_1, gic_13_2, gac_13_3, gac_13_4, gac_13_5, gac_13_6, gac_13_7, gac_13_8, gac_13_9, gic_13_10, gic_13_11, gic_13_12, gic_13_13, gac_14_0, gac_14_1, gac_14_2, gac_14_3, gic_14_4, gic_14_5, gic_15_0, gic_15_1, gic_15_2, gic_15_3, gic_15_4, gac_15_5, gac_15_6, gac_15_7, gac_15_8, gac_15_9, gac_15_10, gac_15_11, gac_23_0, gac_23_1, gac_23_2, gac_23_3, gac_23_4, gac_23_5, gac_23_6, gic_23_7, gic_23_8, gac_31_0, gic_31_1, gic_31_2, gac_193_0, gac_193_1, gac_193_2, gic_193_3, gac_198_0, gac_200_0, gac_200_1, gac_200_2, gac_200_3, gac_200_4, gac_200_5, gac_200_6, gic_200_7, gic_200_8, pic_1_1, pic_1_2, pic_1_3, pic_1_4, pic_1_5, pic_1_6, pic_3_1, pic_3_2, pic_3_3, pic_3_4, pic_3_5, pic_3_6, pic_3_7, pic_5_0, pic_5_1, pic_5_2, pic_5_3, pic_5_4, pic_13_2, pic_13_10, pic_13_11, pic_13_12, pic_13_13, pic_14_4, pic_14_5, pic_15_0, pic_15_1, pic_15_2, pic_15_3, pic_15_4, pic_23_7, pic_23_8, pic_31_1, pic_31_2, pic_193_3, pic_200_7, pic_200_8, gdc_0, gdc_1, gdc_3, gdc_5, gdc_13, gdc_14, gdc_15, gdc_23, gdc_31, gdc_193, gdc_198, gdc_200, ldc_2, stc_2, ldc_4, stc_4, ldc_6, stc_6, ldc_7, stc_7, ldc_8, stc_8, ldc_9, stc_9, ldc_10, stc_10, ldc_11, stc_11, ldc_12, stc_12, ldc_16, stc_16, ldc_17, stc_17, ldc_18, stc_18, ldc_19, stc_19, ldc_20, stc_20, ldc_21, stc_21, ldc_22, stc_22, ldc_24, stc_24, ldc_25, stc_25, ldc_26, stc_26, ldc_27, stc_27, ldc_28, stc_28, ldc_29, stc_29, ldc_30, stc_30, ldc_194, stc_194, ldc_195, stc_195, ldc_196, stc_196, ldc_199, stc_199, ldc_201, stc_201, ldc_202, stc_202, ldc_203, stc_203, ldc_204, stc_204, ldc_205, stc_205, ldc_206, stc_206, ldc_207, stc_207, ldc_208, stc_208, ldc_209, stc_209, ldc_210, stc_210, ldc_211, stc_211, ldc_213, stc_213, ldc_214, stc_214, ldc_215, stc_215, ldc_216, stc_216, ldc_217, stc_217, ldc_218, stc_218, ldc_219, stc_219, ldc_263, stc_263, lda_197, lda_262, lda_212, lda_32, u2_s, u2_a, u2_b, hmf, hno]
    · unfold F_X12_note; simp (disch := omega) only [gdm, gam_1, gam_2, gam_3, gam_4, gam_5, gam_6, gam_7, gam_8, gam_9, gam_10, gam_11, gam_12, gam_13, gam_14, gam_15, gam_16, gam_17, gam_18, gam_19, gam_20, gam_21, gam_22, gam_23, gam_24, gam_25, gam_26, gam_37, gam_38, gam_39, gam_40, gam_41, gam_42, gam_43, gam_44, gam_45, gam_46, gam_48, gam_49, gam_56, gam_57, gam_58, gam_59, gam_60, gam_61, gim_27, gim_28, gim_29, gim_30, gim_31, gim_32, gim_33, gim_34, gim_35, gim_36, gim_47, gim_50, gim_51, gim_52, gim_53, gim_54, gim_55, gim_62, gim_63, ob_some, reduceIte, lit, le_T, le_F, lt_T, lt_F, eq_T, eq_F, nI_add, ldm_997, stm_997, ldm_998, stm_998, ldm_999, stm_999, ldm_1000, stm_1000, ldm_1001, stm_1001, ldm_1002, stm_1002, ldm_1003, stm_1003, ldm_1004, stm_1004, ldm_1005, stm_1005, ldm_1006, stm_1006, ldm_1007, stm_1007, ldm_1008, stm_1008, ldm_1009, stm_1009, ldm_1010, stm_1010, ldm_1011, stm_1011, ldm_1012, stm_1012, ldm_1013, stm_1013, ldm_1014, stm_1014, ldm_1015, stm_1015, ldm_1016, stm_1016, ldm_1017, stm_1017, ldm_1018, stm_1018, ldm_1019, stm_1019, ldm_1020, stm_1020, ldm_1021, stm_1021, ldm_1022, stm_1022, u2_s, u2_a, u2_b, not_true, not_false_iff, hmf, in_0_60, hno]
  rcases within_C x2 0 (P 0 0 * P 0 0) (by omega) (by omega) with ⟨c, -, hc, rfl⟩ | hno
  rotate_left
  · refine ⟨-nI 2, m, q, m, q, ?_, ?_, hI, fun _ _ => rfl⟩
    · unfold F_X11_note; simp (disch := omega) only [ob_some, reduceIte, lit, le_T, le_F, lt_T, lt_F, eq_T, eq_F, nI_add, gac_0_0, gac_0_1, gac_0_2, gac_0_3, gac_0_4, gac_0_5, gac_0_6, gac_1_0, gic_1_1, gic_1_2, gic_1_3, gic_1_4, gic_1_5, gic_1_6, gac_3_0, gic_3_1, gic_3_2, gic_3_3, gic_3_4, gic_3_5, gic_3_6, gic_3_7, gic_5_0, gic_5_1, gic_5_2, gic_5_3, gic_5_4, gac_5_5, gac_5_6, gac_5_7, gac_5_8, gac_5_9, gac_5_10, gac_5_11, gac_13_0, gac_13_1, gic_13_2, gac_13_3, gac_13_4, gac_13_5, gac_13_6, gac_13_7, gac_13_8, gac_13_9, gic_13_10, gic_13_11, gic_13_12, gic_13_13, gac_14_0, gac_14_1, gac_14_2, gac_14_3, gic_14_4, gic_14_5, gic_15_0, gic_15_1, gic_15_2, gic_15_3, gic_15_4, gac_15_5, gac_15_6, gac_15_7, gac_15_8, gac_15_9, gac_15_10, gac_15_11, gac_23_0, gac_23_1, gac_23_2, gac_23_3, gac_23_4, gac_23_5, gac_23_6, gic_23_7, gic_23_8, gac_31_0, gic_31_1, gic_31_2, gac_193_0, gac_193_1, gac_193_2, gic_193_3, gac_198_0, gac_200_0, gac_200_1, gac_200_2, gac_200_3, gac_200_4, gac_200_5, gac_200_6, gic_200_7, gic_200_8, pic_1_1, pic_1_2, pic_1_3, pic_1_4, pic_1_5, pic_1_6, pic_3_1, pic_3_2, pic_3_3, pic_3_4, pic_3_5, pic_3_6, pic_3_7, pic_5_0, pic_5_1, pic_5_2, pic_5_3, pic_5_4, pic_13_2, pic_13_10, pic_13_11, pic_13_12, pic_13_13, pic_14_4, pic_14_5, pic_15_0, pic_15_1, pic_15_2, pic_15_3, pic_15_4, pic_23_7, pic_23_8, pic_31_1, pic_31_2, pic_193_3, pic_200_7, pic_200_8, gdc_0, gdc_1, gdc_3, gdc_5, gdc_13, gdc_14, gdc_15, gdc_23, gdc_31, gdc_193, gdc_198, gdc_200, ldc_2, stc_2, ldc_4, stc_4, ldc_6, stc_6, ldc_7, stc_7, ldc_8, stc_8, ldc_9, stc_9, ldc_10, stc_10, ldc_11, stc_11, ldc_12, stc_12, ldc_16, stc_16, ldc_17, stc_17, ldc_18, stc_18, ldc_19, stc_19, ldc_20, stc_20, ldc_21, stc_21, ldc_22, stc_22, ldc_24, stc_24, ldc_25, stc_25, ldc_26, stc_26, ldc_27, stc_27, ldc_28, stc_28, ldc_29, stc_29, ldc_30, stc_30, ldc_194, stc_194, ldc_195, stc_195, ldc_196, stc_196, ldc_199, stc_199, ldc_201, stc_201, ldc_202, stc_202, ldc_203, stc_203, ldc_204, stc_204, ldc_205, stc_205, ldc_206, stc_206, ldc_207, stc_207, ldc_208, stc_208, ldc_209, stc_209, ldc_210, stc_210, ldc_211, stc_211, ldc_213, stc_213, ldc_214, stc_214, ldc_215, stc_215, ldc_216, stc_216, ldc_217, stc_217, ldc_218, stc_218, ldc_219, stc_219, ldc_263, stc_263, lda_197, lda_262, lda_212, lda_32, u2_s, u2_a, u2_b, hmf, within_TL, isCel_C cP5.1, hno]
    · unfold F_X12_note; simp (disch := omega) only [gdm, gam_1, gam_2, gam_3, gam_4, gam_5, gam_6, gam_7, gam_8, gam_9, gam_10, gam_11, gam_12, gam_13, gam_14, gam_15, gam_16, gam_17, gam_18, gam_19, gam_20, gam_21, gam_22, gam_23, gam_24, gam_25, gam_26, gam_37, gam_38, gam_39, gam_40, gam_41, gam_42, gam_43, gam_44, gam_45, gam_46, gam_48, gam_49, gam_56, gam_57, gam_58, gam_59, gam_60, gam_61, gim_27, gim_28, gim_29, gim_30, gim_31, gim_32, gim_33, gim_34, gim_35, gim_36, gim_47, gim_50, gim_51, gim_52, gim_53, gim_54, gim_55, gim_62, gim_63, ob_some, reduceIte, lit, le_T, le_F, lt_T, lt_F, eq_T, eq_F, nI_add, ldm_997, stm_997, ldm_998, stm_998, ldm_999, stm_999, ldm_1000, stm_1000, ldm_1001, stm_1001, ldm_1002, stm_1002, ldm_1003, stm_1003, ldm_1004, stm_1004, ldm_1005, stm_1005, ldm_1006, stm_1006, ldm_1007, stm_1007, ldm_1008, stm_1008, ldm_1009, stm_1009, ldm_1010, stm_1010, ldm_1011, stm_1011, ldm_1012, stm_1012, ldm_1013, stm_1013, ldm_1014, stm_1014, ldm_1015, stm_1015, ldm_1016, stm_1016, ldm_1017, stm_1017, ldm_1018, stm_1018, ldm_1019, stm_1019, ldm_1020, stm_1020, ldm_1021, stm_1021, ldm_1022, stm_1022, u2_s, u2_a, u2_b, not_true, not_false_iff, hmf, in_0_60, within_TL, isCel_M mP5.1, hno]
  rcases within_CL x3 0 999 (by omega) (by omega) with ⟨w, -, hw, rfl⟩ | hno
  rotate_left
  · refine ⟨-nI 2, m, q, m, q, ?_, ?_, hI, fun _ _ => rfl⟩
    · unfold F_X11_note; simp (disch := omega) only [ob_some, reduceIte, lit, le_T, le_F, lt_T, lt_F, eq_T, eq_F, nI_add, gac_0_0, gac_0_1, gac_0_2, gac_0_3, gac_0_4, gac_0_5, gac_0_6, gac_1_0, gic_1_1, gic_1_2, gic_1_3, gic_1_4, gic_1_5, gic_1_6, gac_3_0, gic_3_1, gic_3_2, gic_3_3, gic_3_4, gic_3_5, gic_3_6, gic_3_7, gic_5_0, gic_5_1, gic_5_2, gic_5_3, gic_5_4, gac_5_5, gac_5_6, gac_5_7, gac_5_8, gac_5_9, gac_5_10, gac_5_11, gac_13_0, gac_13_1, gic_13_2, gac_13_3, gac_13_4, gac_13_5, gac_13_6, gac_13_7, gac_13_8, gac_13_9, gic_13_10, gic_13_11, gic_13_12, gic_13_13, gac_14_0, gac_14_1, gac_14_2, gac_14_3, gic_14_4, gic_14_5, gic_15_0, gic_15_1, gic_15_2, gic_15_3, gic_15_4, gac_15_5, gac_15_6, gac_15_7, gac_15_8, gac_15_9, gac_15_10, gac_15_11, gac_23_0, gac_23_1, gac_23_2, gac_23_3, gac_23_4, gac_23_5, gac_23_6, gic_23_7, gic_23_8, gac_31_0, gic_31_1, gic_31_2, gac_193_0, gac_193_1, gac_193_2, gic_193_3, gac_198_0, gac_200_0, gac_200_1, gac_200_2, gac_200_3, gac_200_4, gac_200_5, gac_200_6, gic_200_7, gic_200_8, pic_1_1, pic_1_2, pic_1_3, pic_1_4, pic_1_5, pic_1_6, pic_3_1, pic_3_2, pic_3_3, pic_3_4, pic_3_5, pic_3_6, pic_3_7, pic_5_0, pic_5_1, pic_5_2, pic_5_3, pic_5_4, pic_13_2, pic_13_10, pic_13_11, pic_13_12, pic_13_13, pic_14_4, pic_14_5, pic_15_0, pic_15_1, pic_15_2, pic_15_3, pic_15_4, pic_23_7, pic_23_8, pic_31_1, pic_31_2, pic_193_3, pic_200_7, pic_200_8, gdc_0, gdc_1, gdc_3, gdc_5, gdc_13, gdc_14, gdc_15, gdc_23, gdc_31, gdc_193, gdc_198, gdc_200, ldc_2, stc_2, ldc_4, stc_4, ldc_6, stc_6, ldc_7, stc_7, ldc_8, stc_8, ldc_9, stc_9, ldc_10, stc_10, ldc_11, stc_11, ldc_12, stc_12, ldc_16, stc_16, ldc_17, stc_17, ldc_18, stc_18, ldc_19, stc_19, ldc_20, stc_20, ldc_21, stc_21, ldc_22, stc_22, ldc_24, stc_24, ldc_25, stc_25, ldc_26, stc_26, ldc_27, stc_27, ldc_28, stc_28, ldc_29, stc_29, ldc_30, stc_30, ldc_194, stc_194, ldc_195, stc_195, ldc_196, stc_196, ldc_199, stc_199, ldc_201, stc_201, ldc_202, stc_202, ldc_203, stc_203, ldc_204, stc_204, ldc_205, stc_205, ldc_206, stc_206, ldc_207, stc_207, ldc_208, stc_208, ldc_209, stc_209, ldc_210, stc_210, ldc_211, stc_211, ldc_213, stc_213, ldc_214, stc_214, ldc_215, stc_215, ldc_216, stc_216, ldc_217, stc_217, ldc_218, stc_218, ldc_219, stc_219, ldc_263, stc_263, lda_197, lda_262, lda_212, lda_32, u2_s, u2_a, u2_b, hmf, within_TL, within_T, isCel_C cP5.1, hno]
    · unfold F_X12_note; simp (disch := omega) only [gdm, gam_1, gam_2, gam_3, gam_4, gam_5, gam_6, gam_7, gam_8, gam_9, gam_10, gam_11, gam_12, gam_13, gam_14, gam_15, gam_16, gam_17, gam_18, gam_19, gam_20, gam_21, gam_22, gam_23, gam_24, gam_25, gam_26, gam_37, gam_38, gam_39, gam_40, gam_41, gam_42, gam_43, gam_44, gam_45, gam_46, gam_48, gam_49, gam_56, gam_57, gam_58, gam_59, gam_60, gam_61, gim_27, gim_28, gim_29, gim_30, gim_31, gim_32, gim_33, gim_34, gim_35, gim_36, gim_47, gim_50, gim_51, gim_52, gim_53, gim_54, gim_55, gim_62, gim_63, ob_some, reduceIte, lit, le_T, le_F, lt_T, lt_F, eq_T, eq_F, nI_add, ldm_997, stm_997, ldm_998, stm_998, ldm_999, stm_999, ldm_1000, stm_1000, ldm_1001, stm_1001, ldm_1002, stm_1002, ldm_1003, stm_1003, ldm_1004, stm_1004, ldm_1005, stm_1005, ldm_1006, stm_1006, ldm_1007, stm_1007, ldm_1008, stm_1008, ldm_1009, stm_1009, ldm_1010, stm_1010, ldm_1011, stm_1011, ldm_1012, stm_1012, ldm_1013, stm_1013, ldm_1014, stm_1014, ldm_1015, stm_1015, ldm_1016, stm_1016, ldm_1017, stm_1017, ldm_1018, stm_1018, ldm_1019, stm_1019, ldm_1020, stm_1020, ldm_1021, stm_1021, ldm_1022, stm_1022, u2_s, u2_a, u2_b, not_true, not_false_iff, hmf, in_0_60, in_0_999, within_TL, within_T, isCel_M mP5.1, hno]
  by_cases h10 : nn = 10
  · refine ⟨-nI 2, m, q, m, q, ?_, ?_, hI, fun _ _ => rfl⟩
    · unfold F_X11_note F_X1_add; simp (disch := omega) only [ob_some, reduceIte, lit, le_T, le_F, lt_T, lt_F, eq_T, eq_F, nI_add, gac_0_0, gac_0_1, gac_0_2, gac_0_3, gac_0_4, gac_0_5, gac_0_6, gac_1_0, gic_1_1, gic_1_2, gic_1_3, gic_1_4, gic_1_5, gic_1_6, gac_3_0, gic_3_1, gic_3_2, gic_3_3, gic_3_4, gic_3_5, gic_3_6, gic_3_7, gic_5_0, gic_5_1, gic_5_2, gic_5_3, gic_5_4, gac_5_5, gac_5_6, gac_5_7, gac_5_8, gac_5_9, gac_5_10, gac_5_11, gac_13_0, gac_13_1, gic_13_2, gac_13_3, gac_13_4, gac_13_5, gac_13_6, gac_13_7, gac_13_8, gac_13_9, gic_13_10, gic_13_11, gic_13_12, gic_13_13, gac_14_0, gac_14_1, gac_14_2, gac_14_3, gic_14_4, gic_14_5, gic_15_0, gic_15_1, gic_15_2, gic_15_3, gic_15_4, gac_15_5, gac_15_6, gac_15_7, gac_15_8, gac_15_9, gac_15_10, gac_15_11, gac_23_0, gac_23_1, gac_23_2, gac_23_3, gac_23_4, gac_23_5, gac_23_6, gic_23_7, gic_23_8, gac_31_0, gic_31_1, gic_31_2, gac_193_0, gac_193_1, gac_193_2, gic_193_3, gac_198_0, gac_200_0, gac_200_1, gac_200_2, gac_200_3, gac_200_4, gac_200_5, gac_200_6, gic_200_7, gic_200_8, pic_1_1, pic_1_2, pic_1_3, pic_1_4, pic_1_5, pic_1_6, pic_3_1, pic_3_2, pic_3_3, pic_3_4, pic_3_5, pic_3_6, pic_3_7, pic_5_0, pic_5_1, pic_5_2, pic_5_3, pic_5_4, pic_13_2, pic_13_10, pic_13_11, pic_13_12, pic_13_13, pic_14_4, pic_14_5, pic_15_0, pic_15_1, pic_15_2, pic_15_3, pic_15_4, pic_23_7, pic_23_8, pic_31_1, pic_31_2, pic_193_3, pic_200_7, pic_200_8, gdc_0, gdc_1, gdc_3, gdc_5, gdc_13, gdc_14, gdc_15, gdc_23, gdc_31, gdc_193, gdc_198, gdc_200, ldc_2, stc_2, ldc_4, stc_4, ldc_6, stc_6, ldc_7, stc_7, ldc_8, stc_8, ldc_9, stc_9, ldc_10, stc_10, ldc_11, stc_11, ldc_12, stc_12, ldc_16, stc_16, ldc_17, stc_17, ldc_18, stc_18, ldc_19, stc_19, ldc_20, stc_20, ldc_21, stc_21, ldc_22, stc_22, ldc_24, stc_24, ldc_25, stc_25, ldc_26, stc_26, ldc_27, stc_27, ldc_28, stc_28, ldc_29, stc_29, ldc_30, stc_30, ldc_194, stc_194, ldc_195, stc_195, ldc_196, stc_196, ldc_199, stc_199, ldc_201, stc_201, ldc_202, stc_202, ldc_203, stc_203, ldc_204, stc_204, ldc_205, stc_205, ldc_206, stc_206, ldc_207, stc_207, ldc_208, stc_208, ldc_209, stc_209, ldc_210, stc_210, ldc_211, stc_211, ldc_213, stc_213, ldc_214, stc_214, ldc_215, stc_215, ldc_216, stc_216, ldc_217, stc_217, ldc_218, stc_218, ldc_219, stc_219, ldc_263, stc_263, lda_197, lda_262, lda_212, lda_32, u2_s, u2_a, u2_b, hmf, within_TL, within_T, isCel_C cP5.1, c3, rz0]
    · unfold F_X12_note; simp (disch := omega) only [gdm, gam_1, gam_2, gam_3, gam_4, gam_5, gam_6, gam_7, gam_8, gam_9, gam_10, gam_11, gam_12, gam_13, gam_14, gam_15, gam_16, gam_17, gam_18, gam_19, gam_20, gam_21, gam_22, gam_23, gam_24, gam_25, gam_26, gam_37, gam_38, gam_39, gam_40, gam_41, gam_42, gam_43, gam_44, gam_45, gam_46, gam_48, gam_49, gam_56, gam_57, gam_58, gam_59, gam_60, gam_61, gim_27, gim_28, gim_29, gim_30, gim_31, gim_32, gim_33, gim_34, gim_35, gim_36, gim_47, gim_50, gim_51, gim_52, gim_53, gim_54, gim_55, gim_62, gim_63, ob_some, reduceIte, lit, le_T, le_F, lt_T, lt_F, eq_T, eq_F, nI_add, ldm_997, stm_997, ldm_998, stm_998, ldm_999, stm_999, ldm_1000, stm_1000, ldm_1001, stm_1001, ldm_1002, stm_1002, ldm_1003, stm_1003, ldm_1004, stm_1004, ldm_1005, stm_1005, ldm_1006, stm_1006, ldm_1007, stm_1007, ldm_1008, stm_1008, ldm_1009, stm_1009, ldm_1010, stm_1010, ldm_1011, stm_1011, ldm_1012, stm_1012, ldm_1013, stm_1013, ldm_1014, stm_1014, ldm_1015, stm_1015, ldm_1016, stm_1016, ldm_1017, stm_1017, ldm_1018, stm_1018, ldm_1019, stm_1019, ldm_1020, stm_1020, ldm_1021, stm_1021, ldm_1022, stm_1022, u2_s, u2_a, u2_b, not_true, not_false_iff, hmf, in_0_60, in_0_999, within_TL, within_T, isCel_M mP5.1, d7]
  generalize hm1 : mk_u2 (mk_u2 (mk_u2 (mk_u2 m 194 nn (nI h)) 195 nn (nI c)) 196 nn (nI w)) 193 3 (nI (nn + 1)) = m1
  have e1 : ∀ i, i < 193 ∨ 196 < i → m1 i = m i := fun i hi => by rw [← hm1, mk_u2_ne (by omega), mk_u2_ne (by omega), mk_u2_ne (by omega), mk_u2_ne (by omega)]
  have d7' : m1 997 7 = nI nn := by rw [e1 _ (by omega)]; exact d7
  have d0' : m1 997 0 = nI (P 0 0) := by rw [e1 _ (by omega)]; exact mP5.1
  have hN1 : ∀ (a b c1 a1 b1 c2 : Nat → Int32), NotesOK P N a b c1 nn → (∀ k, k ≠ nn → a1 k = a k) → a1 nn = nI h → (∀ k, k ≠ nn → b1 k = b k) → b1 nn = nI c → (∀ k, k ≠ nn → c2 k = c1 k) → c2 nn = nI w → NotesOK P (noteU N nn h c w) a1 b1 c2 (nn + 1) := by
    intro a b c1 a1 b1 c2 hN p1 p2 p3 p4 p5 p6
    refine ⟨by omega, fun i hi => ?_⟩
    by_cases hin : i = nn
    · subst hin
      rw [noteU_0, noteU_1, noteU_2, p2, p4, p6]
      exact ⟨⟨rfl, hh⟩, ⟨rfl, hc⟩, ⟨rfl, hw⟩⟩
    · rw [noteU_ne hin, noteU_ne hin, noteU_ne hin, p1 i hin, p3 i hin, p5 i hin]
      exact hN.2 i (by omega)
  generalize hm2 : mk_u2 (mk_u2 (mk_u2 (mk_u2 m1 1010 nn (nI h)) 1011 nn (nI c)) 1012 nn (nI w)) 997 7 (nI (nn + 1)) = m2
  obtain ⟨f1, f2⟩ := note_set (nn1 := nn + 1) (m1 := m1) (m2 := m2) hC hM hE e1 (by rw [← hm1, u2_s]) (hN1 (m 194) (m 195) (m 196) _ _ _ cn2 (fun k hk => by rw [← hm1, u2_a (by omega), u2_a (by omega), u2_a (by omega), u2_b hk]) (by rw [← hm1, u2_a (by omega), u2_a (by omega), u2_a (by omega), u2_s]) (fun k hk => by rw [← hm1, u2_a (by omega), u2_a (by omega), u2_b hk, u2_a (by omega)]) (by rw [← hm1, u2_a (by omega), u2_a (by omega), u2_s]) (fun k hk => by rw [← hm1, u2_a (by omega), u2_b hk, u2_a (by omega), u2_a (by omega)]) (by rw [← hm1, u2_a (by omega), u2_s])) (fun i a b => by rw [← hm2, mk_u2_ne a, mk_u2_ne (by omega), mk_u2_ne (by omega), mk_u2_ne (by omega)]) (fun k hk => by rw [← hm2, u2_b hk, u2_a (by omega), u2_a (by omega), u2_a (by omega)]) (by rw [← hm2, u2_s]) (hN1 (m 1010) (m 1011) (m 1012) _ _ _ mn2 (fun k hk => by rw [← hm2, u2_a (by omega), u2_a (by omega), u2_a (by omega), u2_b hk, e1 _ (by omega)]) (by rw [← hm2, u2_a (by omega), u2_a (by omega), u2_a (by omega), u2_s]) (fun k hk => by rw [← hm2, u2_a (by omega), u2_a (by omega), u2_b hk, u2_a (by omega), e1 _ (by omega)]) (by rw [← hm2, u2_a (by omega), u2_a (by omega), u2_s]) (fun k hk => by rw [← hm2, u2_a (by omega), u2_b hk, u2_a (by omega), u2_a (by omega), e1 _ (by omega)]) (by rw [← hm2, u2_a (by omega), u2_s]))
  refine ⟨nI (nn + 1), m1, q, m2, q, ?_, ?_, f1, f2⟩
  · unfold F_X11_note F_X1_add; simp (disch := omega) only [ob_some, reduceIte, lit, le_T, le_F, lt_T, lt_F, eq_T, eq_F, nI_add, gac_0_0, gac_0_1, gac_0_2, gac_0_3, gac_0_4, gac_0_5, gac_0_6, gac_1_0, gic_1_1, gic_1_2, gic_1_3, gic_1_4, gic_1_5, gic_1_6, gac_3_0, gic_3_1, gic_3_2, gic_3_3, gic_3_4, gic_3_5, gic_3_6, gic_3_7, gic_5_0, gic_5_1, gic_5_2, gic_5_3, gic_5_4, gac_5_5, gac_5_6, gac_5_7, gac_5_8, gac_5_9, gac_5_10, gac_5_11, gac_13_0, gac_13_1, gic_13_2, gac_13_3, gac_13_4, gac_13_5, gac_13_6, gac_13_7, gac_13_8, gac_13_9, gic_13_10, gic_13_11, gic_13_12, gic_13_13, gac_14_0, gac_14_1, gac_14_2, gac_14_3, gic_14_4, gic_14_5, gic_15_0, gic_15_1, gic_15_2, gic_15_3, gic_15_4, gac_15_5, gac_15_6, gac_15_7, gac_15_8, gac_15_9, gac_15_10, gac_15_11, gac_23_0, gac_23_1, gac_23_2, gac_23_3, gac_23_4, gac_23_5, gac_23_6, gic_23_7, gic_23_8, gac_31_0, gic_31_1, gic_31_2, gac_193_0, gac_193_1, gac_193_2, gic_193_3, gac_198_0, gac_200_0, gac_200_1, gac_200_2, gac_200_3, gac_200_4, gac_200_5, gac_200_6, gic_200_7, gic_200_8, pic_1_1, pic_1_2, pic_1_3, pic_1_4, pic_1_5, pic_1_6, pic_3_1, pic_3_2, pic_3_3, pic_3_4, pic_3_5, pic_3_6, pic_3_7, pic_5_0, pic_5_1, pic_5_2, pic_5_3, pic_5_4, pic_13_2, pic_13_10, pic_13_11, pic_13_12, pic_13_13, pic_14_4, pic_14_5, pic_15_0, pic_15_1, pic_15_2, pic_15_3, pic_15_4, pic_23_7, pic_23_8, pic_31_1, pic_31_2, pic_193_3, pic_200_7, pic_200_8, gdc_0, gdc_1, gdc_3, gdc_5, gdc_13, gdc_14, gdc_15, gdc_23, gdc_31, gdc_193, gdc_198, gdc_200, ldc_2, stc_2, ldc_4, stc_4, ldc_6, stc_6, ldc_7, stc_7, ldc_8, stc_8, ldc_9, stc_9, ldc_10, stc_10, ldc_11, stc_11, ldc_12, stc_12, ldc_16, stc_16, ldc_17, stc_17, ldc_18, stc_18, ldc_19, stc_19, ldc_20, stc_20, ldc_21, stc_21, ldc_22, stc_22, ldc_24, stc_24, ldc_25, stc_25, ldc_26, stc_26, ldc_27, stc_27, ldc_28, stc_28, ldc_29, stc_29, ldc_30, stc_30, ldc_194, stc_194, ldc_195, stc_195, ldc_196, stc_196, ldc_199, stc_199, ldc_201, stc_201, ldc_202, stc_202, ldc_203, stc_203, ldc_204, stc_204, ldc_205, stc_205, ldc_206, stc_206, ldc_207, stc_207, ldc_208, stc_208, ldc_209, stc_209, ldc_210, stc_210, ldc_211, stc_211, ldc_213, stc_213, ldc_214, stc_214, ldc_215, stc_215, ldc_216, stc_216, ldc_217, stc_217, ldc_218, stc_218, ldc_219, stc_219, ldc_263, stc_263, lda_197, lda_262, lda_212, lda_32, u2_s, u2_a, u2_b, hmf, within_TL, within_T, isCel_C cP5.1, c3, hm1, rz1]
    simp (disch := omega) only [← hm1, u2_s]
  · unfold F_X12_note; simp (disch := omega) only [gdm, gam_1, gam_2, gam_3, gam_4, gam_5, gam_6, gam_7, gam_8, gam_9, gam_10, gam_11, gam_12, gam_13, gam_14, gam_15, gam_16, gam_17, gam_18, gam_19, gam_20, gam_21, gam_22, gam_23, gam_24, gam_25, gam_26, gam_37, gam_38, gam_39, gam_40, gam_41, gam_42, gam_43, gam_44, gam_45, gam_46, gam_48, gam_49, gam_56, gam_57, gam_58, gam_59, gam_60, gam_61, gim_27, gim_28, gim_29, gim_30, gim_31, gim_32, gim_33, gim_34, gim_35, gim_36, gim_47, gim_50, gim_51, gim_52, gim_53, gim_54, gim_55, gim_62, gim_63, ob_some, reduceIte, lit, le_T, le_F, lt_T, lt_F, eq_T, eq_F, nI_add, ldm_997, stm_997, ldm_998, stm_998, ldm_999, stm_999, ldm_1000, stm_1000, ldm_1001, stm_1001, ldm_1002, stm_1002, ldm_1003, stm_1003, ldm_1004, stm_1004, ldm_1005, stm_1005, ldm_1006, stm_1006, ldm_1007, stm_1007, ldm_1008, stm_1008, ldm_1009, stm_1009, ldm_1010, stm_1010, ldm_1011, stm_1011, ldm_1012, stm_1012, ldm_1013, stm_1013, ldm_1014, stm_1014, ldm_1015, stm_1015, ldm_1016, stm_1016, ldm_1017, stm_1017, ldm_1018, stm_1018, ldm_1019, stm_1019, ldm_1020, stm_1020, ldm_1021, stm_1021, ldm_1022, stm_1022, u2_s, u2_a, u2_b, not_true, not_false_iff, hmf, in_0_60, in_0_999, within_TL, within_T, isCel_M d0', d7', hm2]
set_option maxRecDepth 4000 in
/-- pence -/
theorem rem_P {x d : Nat} : nI x - nI (x / d * d) = nI (x % d) := by
  rw [pk_sub (Nat.div_mul_le_self x d)]
  have h := Nat.div_add_mod x d
  rw [Nat.mul_comm] at h
  exact congrArg nI (by omega)
set_option maxRecDepth 4000 in
theorem sub_pos {a b : Nat} (ha : a < 2 ^ 30) (hb : b < 2 ^ 30) : (nI 0 < nI a - nI b) ↔ (b < a) := by
  have h := pk_sub_toInt ha hb
  have h0 : (nI 0).toInt = 0 := by decide
  rw [Int32.lt_iff_toInt_lt, h, h0]
  exact ⟨fun h => by omega, fun h => by omega⟩
set_option maxRecDepth 4000 in
theorem sub_zero_iff {a b : Nat} (ha : a < 2 ^ 30) (hb : b < 2 ^ 30) : (nI a - nI b = nI 0) ↔ (a = b) := by
  have h := pk_sub_toInt ha hb
  have h0 : (nI 0).toInt = 0 := by decide
  rw [← Int32.toInt_inj, h, h0]
  exact ⟨fun h => by omega, fun h => by omega⟩
def pnF (mu al p : Nat) (a : Nat → Nat) : Nat → Int32 × Nat
  | 0 => (nI mu, 0)
  | i + 1 => ((pnF mu al p a i).1 - nI (mu * a i / al), (pnF mu al p a i).2 + if mu * a p % al < mu * a i % al ∨ (mu * a i % al = mu * a p % al ∧ i < p) then 1 else 0)
set_option maxRecDepth 4000 in
theorem pnF_le {mu al p : Nat} {a : Nat → Nat} : ∀ i, (pnF mu al p a i).2 ≤ i
  | 0 => Nat.le_refl _
  | i + 1 => by
    have := pnF_le (mu := mu) (al := al) (p := p) (a := a) i
    show (pnF mu al p a i).2 + (if mu * a p % al < mu * a i % al ∨ (mu * a i % al = mu * a p % al ∧ i < p) then 1 else 0) ≤ i + 1
    split <;> omega
set_option maxRecDepth 4000 in
theorem pnF_ext {mu al p N : Nat} {a : Nat → Nat} (hp : p < N) (h0 : ∀ i, N ≤ i → a i = 0) : ∀ d, pnF mu al p a (N + d) = pnF mu al p a N
  | 0 => rfl
  | d + 1 => by
    have ih := pnF_ext (mu := mu) (al := al) hp h0 d
    rw [show N + (d + 1) = (N + d) + 1 from rfl, pnF, ih, h0 (N + d) (by omega)]
    rw [Nat.mul_zero, Nat.zero_div, Nat.zero_mod, if_neg (by omega), show nI 0 = (0 : Int32) from rfl, Int32.sub_zero, Nat.add_zero]
set_option maxRecDepth 4000 in
theorem pnF_congr {mu al p n : Nat} {a b : Nat → Nat} (hp : a p = b p) : (∀ i, i < n → a i = b i) → pnF mu al p a n = pnF mu al p b n := by
  induction n with
  | zero => intro _; rfl
  | succ n ih =>
    intro h
    rw [pnF, pnF, ih (fun i hi => h i (by omega)), h n (by omega), hp]
abbrev PnS : Type := Int32 × Int32
set_option maxRecDepth 4000 in
theorem share_loop {m : Nat → Nat → Int32} {q : Nat → Nat → Int64} {mu al p : Nat} {a : Nat → Nat} (ha : ∀ i, i < 6 → m 27 i = nI (a i) ∧ a i ≤ 999) (hmu : mu ≤ 9999) (h0 : 0 < al) (hal : al ≤ 10000) (hp : p < 6) : B_X7_share_42 mk_fu 23 (nI mu) (nI p) (nI al) (nI mu) (nI 0) (nI (mu * a p % al)) (nI 0) (KS, m, q) = some (if (pnF mu al p a 6).1 ≤ nI (pnF mu al p a 6).2 then nI (mu * a p / al) + nI 0 else nI (mu * a p / al) + nI 1, (KS, m, q)) := by
  have hb : ∀ i, i < 6 → mu * a i < 10000000 := fun i hi => by
    have := Nat.mul_le_mul hmu (ha i hi).2
    omega
  obtain ⟨f1, ⟨y1, y2⟩, e, i1, i2⟩ := loop_up (fun f i (s : PnS) => B_X7_share_42 f 23 (nI mu) (nI p) (nI al) s.1 s.2 (nI (mu * a p % al)) (nI i) (KS, m, q)) 6 (fun i s => s.1 = (pnF mu al p a i).1 ∧ s.2 = nI (pnF mu al p a i).2) (by
    intro f i ⟨y1, y2⟩ hi ⟨i1, i2⟩
    have i1 : y1 = _ := i1
    have i2 : y2 = _ := i2
    subst i1 i2
    have hv := (ha i hi).1
    have hbi := hb i hi
    have hbp := hb p hp
    have r1 : mu * a i % al < al := Nat.mod_lt _ h0
    have r2 : mu * a p % al < al := Nat.mod_lt _ h0
    have hrem : nI (mu * a i) - nI (mu * a i / al * al) = nI (mu * a i % al) := rem_P
    have hdiv : nI (mu * a i) / nI al = nI (mu * a i / al) := pk_div (by omega) h0 (by omega)
    refine ⟨((pnF mu al p a (i + 1)).1, nI (pnF mu al p a (i + 1)).2), ?_, rfl, rfl⟩
    rw [pnF]
    simp only [B_X7_share_42, B_X7_share_98, B_X7_share_101]
    simp (disch := omega) only [lit, le_F, reduceIte, gac_23_3, ldc_27, ob_some, hv, pk_mul, eq_F, hdiv, hrem]
    generalize mu * a i % al = r at r1 ⊢
    generalize mu * a p % al = rp at r2 ⊢
    by_cases c1 : rp < r
    · rw [if_pos (show rp < r ∨ (r = rp ∧ i < p) from .inl c1)]
      simp (disch := omega) only [lt_T, reduceIte, nI_add]
    · by_cases c2 : r = rp
      · by_cases c3 : i < p
        · rw [if_pos (show rp < r ∨ (r = rp ∧ i < p) from .inr ⟨c2, c3⟩)]
          simp (disch := omega) only [lt_F, eq_T, le_F, reduceIte, nI_add]
        · rw [if_neg (show ¬ (rp < r ∨ (r = rp ∧ i < p)) by omega)]
          simp (disch := omega) only [lt_F, eq_T, le_T, reduceIte, nI_add, Nat.add_zero]
      · rw [if_neg (show ¬ (rp < r ∨ (r = rp ∧ i < p)) by omega)]
        simp (disch := omega) only [lt_F, eq_F, reduceIte, nI_add, Nat.add_zero]) 6 0 mk_fu (nI mu, nI 0) (by omega) (by rw [mk_fu_eq]; omega) ⟨rfl, rfl⟩
  have i1 : y1 = _ := i1
  have i2 : y2 = _ := i2
  subst i1 i2
  refine Eq.trans e ?_
  have hdiv : nI (mu * a p) / nI al = nI (mu * a p / al) := pk_div (by have := hb p hp; omega) h0 (by omega)
  simp only [B_X7_share_42]
  simp (disch := omega) only [lit, le_T, reduceIte, gac_23_3, ldc_27, ob_some, (ha p hp).1, pk_mul, eq_F, hdiv]
  split <;> rfl
set_option maxRecDepth 4000 in
theorem pence_loop {m : Nat → Nat → Int32} {q : Nat → Nat → Int64} {mu al p N : Nat} {a : Nat → Nat} (hN : m 997 2 = nI N) (hN6 : N ≤ 6) (ha : ∀ i, i < N → m 1001 i = nI (a i) ∧ a i ≤ 999) (hmu : mu ≤ 9999) (h0 : 0 < al) (hal : al ≤ 10000) (hp : p < N) : B_X12_pence_42 mk_fu 996 (nI mu) (nI p) (nI al) (nI mu) (nI 0) (nI 0) (KS, m, q) = some (if (pnF mu al p a N).1 ≤ nI (pnF mu al p a N).2 then nI (mu * a p / al) + nI 0 else nI (mu * a p / al) + nI 1, (KS, m, q)) := by
  have hb : ∀ i, i < N → mu * a i < 10000000 := fun i hi => by
    have := Nat.mul_le_mul hmu (ha i hi).2
    omega
  obtain ⟨f1, ⟨y1, y2⟩, e, i1, i2⟩ := loop_up (fun f i (s : PnS) => B_X12_pence_42 f 996 (nI mu) (nI p) (nI al) s.1 s.2 (nI i) (KS, m, q)) N (fun i s => s.1 = (pnF mu al p a i).1 ∧ s.2 = nI (pnF mu al p a i).2) (by
    intro f i ⟨y1, y2⟩ hi ⟨i1, i2⟩
    have i1 : y1 = _ := i1
    have i2 : y2 = _ := i2
    subst i1 i2
    have hv := (ha i hi).1
    have hvp := (ha p hp).1
    have hbi := hb i hi
    have hbp := hb p hp
    have r1 : mu * a i % al < al := Nat.mod_lt _ h0
    have r2 : mu * a p % al < al := Nat.mod_lt _ h0
    have hrem : nI (mu * a i) - nI (mu * a i / al * al) = nI (mu * a i % al) := rem_P
    have hdiv : nI (mu * a i) / nI al = nI (mu * a i / al) := pk_div (by omega) h0 (by omega)
    have hremp : nI (mu * a p) - nI (mu * a p / al * al) = nI (mu * a p % al) := rem_P
    have hdivp : nI (mu * a p) / nI al = nI (mu * a p / al) := pk_div (by omega) h0 (by omega)
    refine ⟨((pnF mu al p a (i + 1)).1, nI (pnF mu al p a (i + 1)).2), ?_, rfl, rfl⟩
    rw [pnF]
    simp only [B_X12_pence_42, B_X12_pence_111, B_X12_pence_115, B_X12_pence_116]
    simp (disch := omega) only [lit, hN, le_F, reduceIte, gam_1, gam_5, ldm_997, ldm_1001, ob_some, hv, hvp, pk_mul, eq_F, hdiv, hrem, hdivp, hremp]
    generalize mu * a i % al = r at r1 ⊢
    generalize mu * a p % al = rp at r2 ⊢
    have sp := sub_pos (a := r) (b := rp) (by omega) (by omega)
    have sz := sub_zero_iff (a := r) (b := rp) (by omega) (by omega)
    by_cases c1 : rp < r
    · rw [if_pos (show rp < r ∨ (r = rp ∧ i < p) from .inl c1), if_pos (sp.mpr c1), nI_add, nI_add]
    · rw [if_neg (fun z => c1 (sp.mp z))]
      by_cases c2 : r = rp
      · rw [if_pos (sz.mpr c2)]
        by_cases c3 : i < p
        · rw [if_pos (show rp < r ∨ (r = rp ∧ i < p) from .inr ⟨c2, c3⟩)]
          simp (disch := omega) only [le_F, reduceIte, nI_add]
        · rw [if_neg (show ¬ (rp < r ∨ (r = rp ∧ i < p)) by omega)]
          simp (disch := omega) only [le_T, reduceIte, nI_add, Nat.add_zero]
      · rw [if_neg (fun z => c2 (sz.mp z)), if_neg (show ¬ (rp < r ∨ (r = rp ∧ i < p)) by omega), nI_add, nI_add]) N 0 mk_fu (nI mu, nI 0) (by omega) (by rw [mk_fu_eq]; omega) ⟨rfl, rfl⟩
  have i1 : y1 = _ := i1
  have i2 : y2 = _ := i2
  subst i1 i2
  refine Eq.trans e ?_
  have hdiv : nI (mu * a p) / nI al = nI (mu * a p / al) := pk_div (by have := hb p hp; omega) h0 (by omega)
  simp only [B_X12_pence_42]
  simp (disch := omega) only [lit, hN, le_T, reduceIte, gam_1, gam_5, ldm_997, ldm_1001, ob_some, (ha p hp).1, pk_mul, eq_F, hdiv]
  split <;> rfl
set_option maxRecDepth 4000 in
theorem op_pence (x1 x2 : Int32) : OP (F_X11_pence 0 x1 x2) (F_X12_pence 996 x1 x2) := by
  intro m q hI
  obtain ⟨⟨⟨⟨len, by_⟩, ⟨nr, RS⟩, ⟨P, A, H, n, N, nn, fo, x⟩, IM, md⟩, hC, hM⟩, hE⟩ := id hI
  obtain ⟨⟨ct1, ct2, ct3⟩, ⟨cr1, cr2, cr3⟩, ⟨⟨cP, ⟨cA, cAh⟩, cH, ⟨cn1, cn2⟩, ⟨cf1, cf2⟩, ⟨cx1, cx2⟩⟩, cwf⟩, cm1, cm2⟩ := id hC
  obtain ⟨⟨mt1, mt2⟩, ⟨mr1, mr2⟩, ⟨mP, ⟨mA, mAh⟩, ⟨mh1, mh2, mh3⟩, ⟨mn1, mn2⟩, ⟨mf1, mf2⟩, ⟨mx1, mx2⟩⟩, mm1, mm2, mw, ms⟩ := id hM
  have cP5 : m 15 0 = nI (P 0 0) ∧ m 15 1 = nI (P 0 1) ∧ m 15 2 = nI (P 0 2) ∧ m 15 3 = nI (P 0 3) ∧ m 15 4 = nI (P 0 4) := cP.five
  have mP5 : m 997 0 = nI (P 0 0) ∧ m 997 1 = nI (P 0 1) ∧ m 997 2 = nI (P 0 2) ∧ m 997 3 = nI (P 0 3) ∧ m 997 4 = nI (P 0 4) := mP.five
  obtain ⟨B0, B1, B2, B3, B4, B5⟩ := cP.bd
  rcases within_C x2 0 (P 0 2) (by omega) (by omega) with ⟨p, -, hp, rfl⟩ | hno
  rotate_left
  · refine ⟨-nI 1, m, q, m, q, ?_, ?_, hI, fun _ _ => rfl⟩
    · unfold F_X11_pence; simp (disch := omega) only [ob_some, reduceIte, lit, le_T, le_F, lt_T, lt_F, eq_T, eq_F, nI_add, gac_0_0, gac_0_1, gac_0_2, gac_0_3, gac_0_4, gac_0_5, gac_0_6, gac_1_0, gic_1_1, gic_1_2, gic_1_3, gic_1_4, gic_1_5, gic_1_6, gac_3_0, gic_3_1, gic_3_2, gic_3_3, gic_3_4, gic_3_5, gic_3_6, gic_3_7, gic_5_0, gic_5_1, gic_5_2, gic_5_3, gic_5_4, gac_5_5, gac_5_6, gac_5_7, gac_5_8, gac_5_9, gac_5_10, gac_5_11, gac_13_0, gac_13_1, gic_13_2, gac_13_3, gac_13_4, gac_13_5, gac_13_6, gac_13_7, gac_13_8, gac_13_9, gic_13_10, gic_13_11, gic_13_12, gic_13_13, gac_14_0, gac_14_1, gac_14_2, gac_14_3, gic_14_4, gic_14_5, gic_15_0, gic_15_1, gic_15_2, gic_15_3, gic_15_4, gac_15_5, gac_15_6, gac_15_7, gac_15_8, gac_15_9, gac_15_10, gac_15_11, gac_23_0, gac_23_1, gac_23_2, gac_23_3, gac_23_4, gac_23_5, gac_23_6, gic_23_7, gic_23_8, gac_31_0, gic_31_1, gic_31_2, gac_193_0, gac_193_1, gac_193_2, gic_193_3, gac_198_0, gac_200_0, gac_200_1, gac_200_2, gac_200_3, gac_200_4, gac_200_5, gac_200_6, gic_200_7, gic_200_8, pic_1_1, pic_1_2, pic_1_3, pic_1_4, pic_1_5, pic_1_6, pic_3_1, pic_3_2, pic_3_3, pic_3_4, pic_3_5, pic_3_6, pic_3_7, pic_5_0, pic_5_1, pic_5_2, pic_5_3, pic_5_4, pic_13_2, pic_13_10, pic_13_11, pic_13_12, pic_13_13, pic_14_4, pic_14_5, pic_15_0, pic_15_1, pic_15_2, pic_15_3, pic_15_4, pic_23_7, pic_23_8, pic_31_1, pic_31_2, pic_193_3, pic_200_7, pic_200_8, gdc_0, gdc_1, gdc_3, gdc_5, gdc_13, gdc_14, gdc_15, gdc_23, gdc_31, gdc_193, gdc_198, gdc_200, ldc_2, stc_2, ldc_4, stc_4, ldc_6, stc_6, ldc_7, stc_7, ldc_8, stc_8, ldc_9, stc_9, ldc_10, stc_10, ldc_11, stc_11, ldc_12, stc_12, ldc_16, stc_16, ldc_17, stc_17, ldc_18, stc_18, ldc_19, stc_19, ldc_20, stc_20, ldc_21, stc_21, ldc_22, stc_22, ldc_24, stc_24, ldc_25, stc_25, ldc_26, stc_26, ldc_27, stc_27, ldc_28, stc_28, ldc_29, stc_29, ldc_30, stc_30, ldc_194, stc_194, ldc_195, stc_195, ldc_196, stc_196, ldc_199, stc_199, ldc_201, stc_201, ldc_202, stc_202, ldc_203, stc_203, ldc_204, stc_204, ldc_205, stc_205, ldc_206, stc_206, ldc_207, stc_207, ldc_208, stc_208, ldc_209, stc_209, ldc_210, stc_210, ldc_211, stc_211, ldc_213, stc_213, ldc_214, stc_214, ldc_215, stc_215, ldc_216, stc_216, ldc_217, stc_217, ldc_218, stc_218, ldc_219, stc_219, ldc_263, stc_263, lda_197, lda_262, lda_212, lda_32, u2_s, u2_a, u2_b, isPer_C cP5.2.2.1, hno]
    · unfold F_X12_pence; simp (disch := omega) only [gdm, gam_1, gam_2, gam_3, gam_4, gam_5, gam_6, gam_7, gam_8, gam_9, gam_10, gam_11, gam_12, gam_13, gam_14, gam_15, gam_16, gam_17, gam_18, gam_19, gam_20, gam_21, gam_22, gam_23, gam_24, gam_25, gam_26, gam_37, gam_38, gam_39, gam_40, gam_41, gam_42, gam_43, gam_44, gam_45, gam_46, gam_48, gam_49, gam_56, gam_57, gam_58, gam_59, gam_60, gam_61, gim_27, gim_28, gim_29, gim_30, gim_31, gim_32, gim_33, gim_34, gim_35, gim_36, gim_47, gim_50, gim_51, gim_52, gim_53, gim_54, gim_55, gim_62, gim_63, ob_some, reduceIte, lit, le_T, le_F, lt_T, lt_F, eq_T, eq_F, nI_add, ldm_997, stm_997, ldm_998, stm_998, ldm_999, stm_999, ldm_1000, stm_1000, ldm_1001, stm_1001, ldm_1002, stm_1002, ldm_1003, stm_1003, ldm_1004, stm_1004, ldm_1005, stm_1005, ldm_1006, stm_1006, ldm_1007, stm_1007, ldm_1008, stm_1008, ldm_1009, stm_1009, ldm_1010, stm_1010, ldm_1011, stm_1011, ldm_1012, stm_1012, ldm_1013, stm_1013, ldm_1014, stm_1014, ldm_1015, stm_1015, ldm_1016, stm_1016, ldm_1017, stm_1017, ldm_1018, stm_1018, ldm_1019, stm_1019, ldm_1020, stm_1020, ldm_1021, stm_1021, ldm_1022, stm_1022, u2_s, u2_a, u2_b, not_true, not_false_iff, isPer_M mP5.2.2.1, hno]
  rcases within_CL x1 0 9999 (by omega) (by omega) with ⟨mu, -, hmu, rfl⟩ | hno
  rotate_left
  · refine ⟨-nI 1, m, q, m, q, ?_, ?_, hI, fun _ _ => rfl⟩
    · unfold F_X11_pence; simp (disch := omega) only [ob_some, reduceIte, lit, le_T, le_F, lt_T, lt_F, eq_T, eq_F, nI_add, gac_0_0, gac_0_1, gac_0_2, gac_0_3, gac_0_4, gac_0_5, gac_0_6, gac_1_0, gic_1_1, gic_1_2, gic_1_3, gic_1_4, gic_1_5, gic_1_6, gac_3_0, gic_3_1, gic_3_2, gic_3_3, gic_3_4, gic_3_5, gic_3_6, gic_3_7, gic_5_0, gic_5_1, gic_5_2, gic_5_3, gic_5_4, gac_5_5, gac_5_6, gac_5_7, gac_5_8, gac_5_9, gac_5_10, gac_5_11, gac_13_0, gac_13_1, gic_13_2, gac_13_3, gac_13_4, gac_13_5, gac_13_6, gac_13_7, gac_13_8, gac_13_9, gic_13_10, gic_13_11, gic_13_12, gic_13_13, gac_14_0, gac_14_1, gac_14_2, gac_14_3, gic_14_4, gic_14_5, gic_15_0, gic_15_1, gic_15_2, gic_15_3, gic_15_4, gac_15_5, gac_15_6, gac_15_7, gac_15_8, gac_15_9, gac_15_10, gac_15_11, gac_23_0, gac_23_1, gac_23_2, gac_23_3, gac_23_4, gac_23_5, gac_23_6, gic_23_7, gic_23_8, gac_31_0, gic_31_1, gic_31_2, gac_193_0, gac_193_1, gac_193_2, gic_193_3, gac_198_0, gac_200_0, gac_200_1, gac_200_2, gac_200_3, gac_200_4, gac_200_5, gac_200_6, gic_200_7, gic_200_8, pic_1_1, pic_1_2, pic_1_3, pic_1_4, pic_1_5, pic_1_6, pic_3_1, pic_3_2, pic_3_3, pic_3_4, pic_3_5, pic_3_6, pic_3_7, pic_5_0, pic_5_1, pic_5_2, pic_5_3, pic_5_4, pic_13_2, pic_13_10, pic_13_11, pic_13_12, pic_13_13, pic_14_4, pic_14_5, pic_15_0, pic_15_1, pic_15_2, pic_15_3, pic_15_4, pic_23_7, pic_23_8, pic_31_1, pic_31_2, pic_193_3, pic_200_7, pic_200_8, gdc_0, gdc_1, gdc_3, gdc_5, gdc_13, gdc_14, gdc_15, gdc_23, gdc_31, gdc_193, gdc_198, gdc_200, ldc_2, stc_2, ldc_4, stc_4, ldc_6, stc_6, ldc_7, stc_7, ldc_8, stc_8, ldc_9, stc_9, ldc_10, stc_10, ldc_11, stc_11, ldc_12, stc_12, ldc_16, stc_16, ldc_17, stc_17, ldc_18, stc_18, ldc_19, stc_19, ldc_20, stc_20, ldc_21, stc_21, ldc_22, stc_22, ldc_24, stc_24, ldc_25, stc_25, ldc_26, stc_26, ldc_27, stc_27, ldc_28, stc_28, ldc_29, stc_29, ldc_30, stc_30, ldc_194, stc_194, ldc_195, stc_195, ldc_196, stc_196, ldc_199, stc_199, ldc_201, stc_201, ldc_202, stc_202, ldc_203, stc_203, ldc_204, stc_204, ldc_205, stc_205, ldc_206, stc_206, ldc_207, stc_207, ldc_208, stc_208, ldc_209, stc_209, ldc_210, stc_210, ldc_211, stc_211, ldc_213, stc_213, ldc_214, stc_214, ldc_215, stc_215, ldc_216, stc_216, ldc_217, stc_217, ldc_218, stc_218, ldc_219, stc_219, ldc_263, stc_263, lda_197, lda_262, lda_212, lda_32, u2_s, u2_a, u2_b, isPer_C cP5.2.2.1, within_T, hno]
    · unfold F_X12_pence; simp (disch := omega) only [gdm, gam_1, gam_2, gam_3, gam_4, gam_5, gam_6, gam_7, gam_8, gam_9, gam_10, gam_11, gam_12, gam_13, gam_14, gam_15, gam_16, gam_17, gam_18, gam_19, gam_20, gam_21, gam_22, gam_23, gam_24, gam_25, gam_26, gam_37, gam_38, gam_39, gam_40, gam_41, gam_42, gam_43, gam_44, gam_45, gam_46, gam_48, gam_49, gam_56, gam_57, gam_58, gam_59, gam_60, gam_61, gim_27, gim_28, gim_29, gim_30, gim_31, gim_32, gim_33, gim_34, gim_35, gim_36, gim_47, gim_50, gim_51, gim_52, gim_53, gim_54, gim_55, gim_62, gim_63, ob_some, reduceIte, lit, le_T, le_F, lt_T, lt_F, eq_T, eq_F, nI_add, ldm_997, stm_997, ldm_998, stm_998, ldm_999, stm_999, ldm_1000, stm_1000, ldm_1001, stm_1001, ldm_1002, stm_1002, ldm_1003, stm_1003, ldm_1004, stm_1004, ldm_1005, stm_1005, ldm_1006, stm_1006, ldm_1007, stm_1007, ldm_1008, stm_1008, ldm_1009, stm_1009, ldm_1010, stm_1010, ldm_1011, stm_1011, ldm_1012, stm_1012, ldm_1013, stm_1013, ldm_1014, stm_1014, ldm_1015, stm_1015, ldm_1016, stm_1016, ldm_1017, stm_1017, ldm_1018, stm_1018, ldm_1019, stm_1019, ldm_1020, stm_1020, ldm_1021, stm_1021, ldm_1022, stm_1022, u2_s, u2_a, u2_b, not_true, not_false_iff, isPer_M mP5.2.2.1, within_T, in_0_9999, hno]
  have g3 := s_actedN (q := q) sb23 cA B2
  have h3 := malla (m := m) (q := q) (W := A 4) mP5.2.2.1 B2 (fun k hk => (mA.1 k hk).2.2.2.1.1)
  have hall : nsum (A 4) (P 0 2) ≤ 10000 := by
    have h1 := nsum_le (f := A 4) (B := 999) (n := P 0 2) (fun k hk => Nat.le_trans (cA.1 k hk).2.2.2.1.2 cAh)
    have h2 : 999 * P 0 2 ≤ 999 * 6 := Nat.mul_le_mul_left _ B2
    omega
  generalize nsum (A 4) (P 0 2) = al at g3 h3 hall
  by_cases h0 : al = 0
  · refine ⟨nI 0, m, q, m, q, ?_, ?_, hI, fun _ _ => rfl⟩
    · unfold F_X11_pence F_X7_share; simp (disch := omega) only [ob_some, reduceIte, lit, le_T, le_F, lt_T, lt_F, eq_T, eq_F, nI_add, gac_0_0, gac_0_1, gac_0_2, gac_0_3, gac_0_4, gac_0_5, gac_0_6, gac_1_0, gic_1_1, gic_1_2, gic_1_3, gic_1_4, gic_1_5, gic_1_6, gac_3_0, gic_3_1, gic_3_2, gic_3_3, gic_3_4, gic_3_5, gic_3_6, gic_3_7, gic_5_0, gic_5_1, gic_5_2, gic_5_3, gic_5_4, gac_5_5, gac_5_6, gac_5_7, gac_5_8, gac_5_9, gac_5_10, gac_5_11, gac_13_0, gac_13_1, gic_13_2, gac_13_3, gac_13_4, gac_13_5, gac_13_6, gac_13_7, gac_13_8, gac_13_9, gic_13_10, gic_13_11, gic_13_12, gic_13_13, gac_14_0, gac_14_1, gac_14_2, gac_14_3, gic_14_4, gic_14_5, gic_15_0, gic_15_1, gic_15_2, gic_15_3, gic_15_4, gac_15_5, gac_15_6, gac_15_7, gac_15_8, gac_15_9, gac_15_10, gac_15_11, gac_23_0, gac_23_1, gac_23_2, gac_23_3, gac_23_4, gac_23_5, gac_23_6, gic_23_7, gic_23_8, gac_31_0, gic_31_1, gic_31_2, gac_193_0, gac_193_1, gac_193_2, gic_193_3, gac_198_0, gac_200_0, gac_200_1, gac_200_2, gac_200_3, gac_200_4, gac_200_5, gac_200_6, gic_200_7, gic_200_8, pic_1_1, pic_1_2, pic_1_3, pic_1_4, pic_1_5, pic_1_6, pic_3_1, pic_3_2, pic_3_3, pic_3_4, pic_3_5, pic_3_6, pic_3_7, pic_5_0, pic_5_1, pic_5_2, pic_5_3, pic_5_4, pic_13_2, pic_13_10, pic_13_11, pic_13_12, pic_13_13, pic_14_4, pic_14_5, pic_15_0, pic_15_1, pic_15_2, pic_15_3, pic_15_4, pic_23_7, pic_23_8, pic_31_1, pic_31_2, pic_193_3, pic_200_7, pic_200_8, gdc_0, gdc_1, gdc_3, gdc_5, gdc_13, gdc_14, gdc_15, gdc_23, gdc_31, gdc_193, gdc_198, gdc_200, ldc_2, stc_2, ldc_4, stc_4, ldc_6, stc_6, ldc_7, stc_7, ldc_8, stc_8, ldc_9, stc_9, ldc_10, stc_10, ldc_11, stc_11, ldc_12, stc_12, ldc_16, stc_16, ldc_17, stc_17, ldc_18, stc_18, ldc_19, stc_19, ldc_20, stc_20, ldc_21, stc_21, ldc_22, stc_22, ldc_24, stc_24, ldc_25, stc_25, ldc_26, stc_26, ldc_27, stc_27, ldc_28, stc_28, ldc_29, stc_29, ldc_30, stc_30, ldc_194, stc_194, ldc_195, stc_195, ldc_196, stc_196, ldc_199, stc_199, ldc_201, stc_201, ldc_202, stc_202, ldc_203, stc_203, ldc_204, stc_204, ldc_205, stc_205, ldc_206, stc_206, ldc_207, stc_207, ldc_208, stc_208, ldc_209, stc_209, ldc_210, stc_210, ldc_211, stc_211, ldc_213, stc_213, ldc_214, stc_214, ldc_215, stc_215, ldc_216, stc_216, ldc_217, stc_217, ldc_218, stc_218, ldc_219, stc_219, ldc_263, stc_263, lda_197, lda_262, lda_212, lda_32, u2_s, u2_a, u2_b, isPer_C cP5.2.2.1, within_T, within_TL, g3]
    · unfold F_X12_pence; simp (disch := omega) only [gdm, gam_1, gam_2, gam_3, gam_4, gam_5, gam_6, gam_7, gam_8, gam_9, gam_10, gam_11, gam_12, gam_13, gam_14, gam_15, gam_16, gam_17, gam_18, gam_19, gam_20, gam_21, gam_22, gam_23, gam_24, gam_25, gam_26, gam_37, gam_38, gam_39, gam_40, gam_41, gam_42, gam_43, gam_44, gam_45, gam_46, gam_48, gam_49, gam_56, gam_57, gam_58, gam_59, gam_60, gam_61, gim_27, gim_28, gim_29, gim_30, gim_31, gim_32, gim_33, gim_34, gim_35, gim_36, gim_47, gim_50, gim_51, gim_52, gim_53, gim_54, gim_55, gim_62, gim_63, ob_some, reduceIte, lit, le_T, le_F, lt_T, lt_F, eq_T, eq_F, nI_add, ldm_997, stm_997, ldm_998, stm_998, ldm_999, stm_999, ldm_1000, stm_1000, ldm_1001, stm_1001, ldm_1002, stm_1002, ldm_1003, stm_1003, ldm_1004, stm_1004, ldm_1005, stm_1005, ldm_1006, stm_1006, ldm_1007, stm_1007, ldm_1008, stm_1008, ldm_1009, stm_1009, ldm_1010, stm_1010, ldm_1011, stm_1011, ldm_1012, stm_1012, ldm_1013, stm_1013, ldm_1014, stm_1014, ldm_1015, stm_1015, ldm_1016, stm_1016, ldm_1017, stm_1017, ldm_1018, stm_1018, ldm_1019, stm_1019, ldm_1020, stm_1020, ldm_1021, stm_1021, ldm_1022, stm_1022, u2_s, u2_a, u2_b, not_true, not_false_iff, isPer_M mP5.2.2.1, within_T, within_TL, in_0_9999, h3]
  have h0 : 0 < al := by omega
  have haC : ∀ i, i < 6 → m 27 i = nI (if i < P 0 2 then A 4 i else 0) ∧ (if i < P 0 2 then A 4 i else 0) ≤ 999 := fun i hi => by
    by_cases hip : i < P 0 2
    · rw [if_pos hip]; exact ⟨(cA.1 i hip).2.2.2.1.1, Nat.le_trans (cA.1 i hip).2.2.2.1.2 cAh⟩
    · rw [if_neg hip]; exact ⟨cA.2.2.2.2.2.1 i (by omega) hi, by omega⟩
  have haM : ∀ i, i < P 0 2 → m 1001 i = nI (if i < P 0 2 then A 4 i else 0) ∧ (if i < P 0 2 then A 4 i else 0) ≤ 999 := fun i hip => by
    rw [if_pos hip]; exact ⟨(mA.1 i hip).2.2.2.1.1, Nat.le_trans (cA.1 i hip).2.2.2.1.2 cAh⟩
  have s1 := share_loop (q := q) (p := p) (a := fun i => if i < P 0 2 then A 4 i else 0) haC hmu h0 hall (by omega)
  have s2 := pence_loop (q := q) (p := p) (a := fun i => if i < P 0 2 then A 4 i else 0) mP5.2.2.1 B2 haM hmu h0 hall hp
  have ex := pnF_ext (mu := mu) (al := al) (p := p) (N := P 0 2) (a := fun i => if i < P 0 2 then A 4 i else 0) hp (fun i hi => if_neg (by omega)) (6 - P 0 2)
  rw [show P 0 2 + (6 - P 0 2) = 6 by omega] at ex
  rw [ex] at s1
  have hap : (if p < P 0 2 then A 4 p else 0) = A 4 p := if_pos hp
  have hp27 : m 27 p = nI (A 4 p) := (cA.1 p hp).2.2.2.1.1
  have hmul : mu * A 4 p < 10000000 := by
    have := Nat.mul_le_mul hmu (Nat.le_trans (cA.1 p hp).2.2.2.1.2 cAh)
    omega
  have hrem : nI (mu * A 4 p) - nI (mu * A 4 p / al * al) = nI (mu * A 4 p % al) := rem_P
  have hdiv : nI (mu * A 4 p) / nI al = nI (mu * A 4 p / al) := pk_div (by omega) h0 (by omega)
  simp only [hap] at s1 s2
  refine ⟨_, m, q, m, q, ?_, Eq.trans ?_ s2, hI, fun _ _ => rfl⟩
  · unfold F_X11_pence F_X7_share
    simp (disch := omega) only [ob_some, reduceIte, lit, le_T, le_F, lt_T, lt_F, eq_T, eq_F, nI_add, gac_0_0, gac_0_1, gac_0_2, gac_0_3, gac_0_4, gac_0_5, gac_0_6, gac_1_0, gic_1_1, gic_1_2, gic_1_3, gic_1_4, gic_1_5, gic_1_6, gac_3_0, gic_3_1, gic_3_2, gic_3_3, gic_3_4, gic_3_5, gic_3_6, gic_3_7, gic_5_0, gic_5_1, gic_5_2, gic_5_3, gic_5_4, gac_5_5, gac_5_6, gac_5_7, gac_5_8, gac_5_9, gac_5_10, gac_5_11, gac_13_0, gac_13_1, gic_13_2, gac_13_3, gac_13_4, gac_13_5, gac_13_6, gac_13_7, gac_13_8, gac_13_9, gic_13_10, gic_13_11, gic_13_12, gic_13_13, gac_14_0, gac_14_1, gac_14_2, gac_14_3, gic_14_4, gic_14_5, gic_15_0, gic_15_1, gic_15_2, gic_15_3, gic_15_4, gac_15_5, gac_15_6, gac_15_7, gac_15_8, gac_15_9, gac_15_10, gac_15_11, gac_23_0, gac_23_1, gac_23_2, gac_23_3, gac_23_4, gac_23_5, gac_23_6, gic_23_7, gic_23_8, gac_31_0, gic_31_1, gic_31_2, gac_193_0, gac_193_1, gac_193_2, gic_193_3, gac_198_0, gac_200_0, gac_200_1, gac_200_2, gac_200_3, gac_200_4, gac_200_5, gac_200_6, gic_200_7, gic_200_8, pic_1_1, pic_1_2, pic_1_3, pic_1_4, pic_1_5, pic_1_6, pic_3_1, pic_3_2, pic_3_3, pic_3_4, pic_3_5, pic_3_6, pic_3_7, pic_5_0, pic_5_1, pic_5_2, pic_5_3, pic_5_4, pic_13_2, pic_13_10, pic_13_11, pic_13_12, pic_13_13, pic_14_4, pic_14_5, pic_15_0, pic_15_1, pic_15_2, pic_15_3, pic_15_4, pic_23_7, pic_23_8, pic_31_1, pic_31_2, pic_193_3, pic_200_7, pic_200_8, gdc_0, gdc_1, gdc_3, gdc_5, gdc_13, gdc_14, gdc_15, gdc_23, gdc_31, gdc_193, gdc_198, gdc_200, ldc_2, stc_2, ldc_4, stc_4, ldc_6, stc_6, ldc_7, stc_7, ldc_8, stc_8, ldc_9, stc_9, ldc_10, stc_10, ldc_11, stc_11, ldc_12, stc_12, ldc_16, stc_16, ldc_17, stc_17, ldc_18, stc_18, ldc_19, stc_19, ldc_20, stc_20, ldc_21, stc_21, ldc_22, stc_22, ldc_24, stc_24, ldc_25, stc_25, ldc_26, stc_26, ldc_27, stc_27, ldc_28, stc_28, ldc_29, stc_29, ldc_30, stc_30, ldc_194, stc_194, ldc_195, stc_195, ldc_196, stc_196, ldc_199, stc_199, ldc_201, stc_201, ldc_202, stc_202, ldc_203, stc_203, ldc_204, stc_204, ldc_205, stc_205, ldc_206, stc_206, ldc_207, stc_207, ldc_208, stc_208, ldc_209, stc_209, ldc_210, stc_210, ldc_211, stc_211, ldc_213, stc_213, ldc_214, stc_214, ldc_215, stc_215, ldc_216, stc_216, ldc_217, stc_217, ldc_218, stc_218, ldc_219, stc_219, ldc_263, stc_263, lda_197, lda_262, lda_212, lda_32, u2_s, u2_a, u2_b, isPer_C cP5.2.2.1, within_T, within_TL, g3, hp27, pk_mul, hdiv, hrem]
    simp only [s1, ob_some, nI_add]
  · unfold F_X12_pence; simp (disch := omega) only [gdm, gam_1, gam_2, gam_3, gam_4, gam_5, gam_6, gam_7, gam_8, gam_9, gam_10, gam_11, gam_12, gam_13, gam_14, gam_15, gam_16, gam_17, gam_18, gam_19, gam_20, gam_21, gam_22, gam_23, gam_24, gam_25, gam_26, gam_37, gam_38, gam_39, gam_40, gam_41, gam_42, gam_43, gam_44, gam_45, gam_46, gam_48, gam_49, gam_56, gam_57, gam_58, gam_59, gam_60, gam_61, gim_27, gim_28, gim_29, gim_30, gim_31, gim_32, gim_33, gim_34, gim_35, gim_36, gim_47, gim_50, gim_51, gim_52, gim_53, gim_54, gim_55, gim_62, gim_63, ob_some, reduceIte, lit, le_T, le_F, lt_T, lt_F, eq_T, eq_F, nI_add, ldm_997, stm_997, ldm_998, stm_998, ldm_999, stm_999, ldm_1000, stm_1000, ldm_1001, stm_1001, ldm_1002, stm_1002, ldm_1003, stm_1003, ldm_1004, stm_1004, ldm_1005, stm_1005, ldm_1006, stm_1006, ldm_1007, stm_1007, ldm_1008, stm_1008, ldm_1009, stm_1009, ldm_1010, stm_1010, ldm_1011, stm_1011, ldm_1012, stm_1012, ldm_1013, stm_1013, ldm_1014, stm_1014, ldm_1015, stm_1015, ldm_1016, stm_1016, ldm_1017, stm_1017, ldm_1018, stm_1018, ldm_1019, stm_1019, ldm_1020, stm_1020, ldm_1021, stm_1021, ldm_1022, stm_1022, u2_s, u2_a, u2_b, not_true, not_false_iff, isPer_M mP5.2.2.1, within_T, within_TL, in_0_9999, h3]
