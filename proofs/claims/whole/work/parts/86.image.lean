/-! rows of an image, all of them -/
set_option maxRecDepth 4000 in
theorem CV.pi {m0 m : Nat → Nat → Int32} {p0 tb J : Nat} {v : Int32} (h : CV m0 m p0 tb J) : CV m0 (mk_u2 m 996 50 v) p0 tb J := by
  obtain ⟨i1, i2, i3, i4, i5⟩ := h
  refine ⟨fun i h1 h2 h3 => by rw [mk_u2_ne h1]; exact i1 i h1 h2 h3, fun k h1 h2 => by rw [u2_b h2]; exact i2 k h1 h2, by rw [u2_b (by omega)]; exact i3, fun j hj k hk => ?_, fun k hk => by rw [u2_a (by omega)]; exact i5 k hk⟩
  by_cases hr : rid j = 996
  · exfalso
    by_cases hj20 : j < 20
    · exact (rid_ne j hj20).1 hr
    · unfold rid at hr; rw [if_neg (by omega), if_neg (by omega), if_neg (by omega)] at hr; omega
  · rw [u2_a hr, u2_a (by omega)]; exact i4 j hj k hk
set_option maxRecDepth 4000 in
theorem rid_34 : ∀ j, j < 20 → j ≠ 8 → rid j ≠ 1034 := by decide
set_option maxRecDepth 4000 in
theorem rid_34' : ∀ j, j < 8 → rid j ≠ 1034 := by decide
set_option maxRecDepth 4000 in
theorem nv_rid {m : Nat → Nat → Int32} {j k : Nat} (hj : j < 20) (h8 : j ≠ 8) : nv m j k = m (rid j) k := by
  unfold nv rid
  rw [if_neg h8]
  by_cases h : j < 8
  · rw [if_pos h, if_pos h]
  · rw [if_neg h, if_neg h, if_neg h8]
    by_cases h2 : j < 19
    · rw [if_pos h2, if_pos h2]
    · rw [if_neg h2, if_neg h2]
set_option maxRecDepth 4000 in
theorem carriesF {q : Nat → Nat → Int64} {kk tb : Nat} (m : Nat → Nat → Int32) (hk : kk < 4) (ht : tb < 2) : ∃ m4, F_X12_carriesAll 996 (nI kk) (nI tb) (KS, m, q) = some ((), (KS, m4, q)) ∧ (∀ j c, j < 20 → c < szv j → nv m4 j c = (if tb = 1 then iv m kk j c else nv m j c) ∧ iv m4 kk j c = (if tb = 1 then iv m kk j c else nv m j c)) ∧ (∀ i, i < 996 ∨ (1014 < i ∧ i < 1033) ∨ 1034 < i → i ≠ 1039 → m4 i = m i) ∧ (∀ k, k ≠ 50 → k ≠ 62 → k ≠ 63 → m4 996 k = m 996 k) ∧ (∀ c, c < 1700 * kk ∨ 1700 * kk + 1585 ≤ c → m4 1039 c = m 1039 c) := by
  obtain ⟨m1, m0, a1, a2, a3, V8, a5, a6⟩ := carries8 (q := q) (kk := kk) (tb := tb) m (by omega) ht
  have hp : 1700 * kk + 1585 ≤ 8500 := by omega
  generalize hmz : mk_u2 m0 1034 0 (m 996 50) = mz
  have z63 : mz 996 63 = nI tb := by rw [← hmz, u2_a (by omega)]; exact a3
  have W8 : CV mz (mk_u2 m1 1034 0 (m 996 50)) (1700 * kk) tb 8 := by
    obtain ⟨i1, i2, i3, i4, i5⟩ := V8
    refine ⟨fun i h1 h2 h3 => ?_, fun k h1 h2 => ?_, ?_, fun j hj k hk => ?_, fun k hk => ?_⟩
    · rw [← hmz]
      by_cases h : i = 1034
      · subst h
        have e := i1 1034 (by omega) (by omega) h3
        funext c
        rw [u2_at, u2_at, e]
      · rw [mk_u2_ne h, mk_u2_ne h]; exact i1 i h1 h2 h3
    · rw [← hmz, u2_a (by omega), u2_a (by omega)]; exact i2 k h1 h2
    · rw [u2_a (by omega)]; exact i3
    · have hr := rid_34' j hj
      have hs : CVs mz (1700 * kk) tb j k = CVs m0 (1700 * kk) tb j k := by
        unfold CVs
        rw [← hmz, u2_a (by omega), u2_a hr]
      rw [u2_a hr, u2_a (by omega), hs]
      exact i4 j hj k hk
    · rw [← hmz, u2_a (by omega), u2_a (by omega)]; exact i5 k hk
  generalize hm1 : mk_u2 m1 1034 0 (m 996 50) = x8 at W8
  obtain ⟨x9, e9, V9, f9⟩ := W8.step (q := q) (by omega) ht z63 hp
  have W9 := V9.pi (v := CVs mz (1700 * kk) tb 8 0)
  have r9 : x9 1034 0 = CVs mz (1700 * kk) tb 8 0 := (V9.2.2.2.1 8 (by omega) 0 (by decide)).1
  generalize hmy : mk_u2 x9 996 50 (CVs mz (1700 * kk) tb 8 0) = y9 at W9
  have y50 : y9 996 50 = CVs mz (1700 * kk) tb 8 0 := by rw [← hmy, u2_s]
  obtain ⟨x10, e10, V10, f10⟩ := W9.step (q := q) (by omega) ht z63 hp
  obtain ⟨x11, e11, V11, f11⟩ := V10.step (q := q) (by omega) ht z63 hp
  obtain ⟨x12, e12, V12, f12⟩ := V11.step (q := q) (by omega) ht z63 hp
  obtain ⟨x13, e13, V13, f13⟩ := V12.step (q := q) (by omega) ht z63 hp
  obtain ⟨x14, e14, V14, f14⟩ := V13.step (q := q) (by omega) ht z63 hp
  obtain ⟨x15, e15, V15, f15⟩ := V14.step (q := q) (by omega) ht z63 hp
  obtain ⟨x16, e16, V16, f16⟩ := V15.step (q := q) (by omega) ht z63 hp
  obtain ⟨x17, e17, V17, f17⟩ := V16.step (q := q) (by omega) ht z63 hp
  obtain ⟨x18, e18, V18, f18⟩ := V17.step (q := q) (by omega) ht z63 hp
  obtain ⟨x19, e19, V19, f19⟩ := V18.step (q := q) (by omega) ht z63 hp
  obtain ⟨x20, e20, V20, f20⟩ := V19.step (q := q) (by omega) ht z63 hp
  have e9 : F_X12_carryRow 996 1034 (KS, x8, q) = some ((), (KS, x9, q)) := e9
  have e10 : F_X12_carryRow 996 1005 (KS, y9, q) = some ((), (KS, x10, q)) := e10
  have e11 : F_X12_carryRow 996 1006 (KS, x10, q) = some ((), (KS, x11, q)) := e11
  have e12 : F_X12_carryRow 996 1007 (KS, x11, q) = some ((), (KS, x12, q)) := e12
  have e13 : F_X12_carryRow 996 1008 (KS, x12, q) = some ((), (KS, x13, q)) := e13
  have e14 : F_X12_carryRow 996 1009 (KS, x13, q) = some ((), (KS, x14, q)) := e14
  have e15 : F_X12_carryRow 996 1010 (KS, x14, q) = some ((), (KS, x15, q)) := e15
  have e16 : F_X12_carryRow 996 1011 (KS, x15, q) = some ((), (KS, x16, q)) := e16
  have e17 : F_X12_carryRow 996 1012 (KS, x16, q) = some ((), (KS, x17, q)) := e17
  have e18 : F_X12_carryRow 996 1013 (KS, x17, q) = some ((), (KS, x18, q)) := e18
  have e19 : F_X12_carryRow 996 1014 (KS, x18, q) = some ((), (KS, x19, q)) := e19
  have e20 : F_X12_carryRow 996 1033 (KS, x19, q) = some ((), (KS, x20, q)) := e20
  have c50 : x20 996 50 = CVs mz (1700 * kk) tb 8 0 := by rw [f20, f19, f18, f17, f16, f15, f14, f13, f12, f11, f10, y50]
  obtain ⟨i1, i2, i3, i4, i5⟩ := V20
  have ofe : ∀ j, j < 20 → ofs j = ofv j := fun j hj => if_pos hj
  have src : ∀ j c, j < 20 → c < szv j → CVs mz (1700 * kk) tb j c = (if tb = 1 then iv m kk j c else nv m j c) := fun j c hj hc => by
    have hr := (rid_ne j hj).1
    unfold CVs iv
    rw [ofe j hj]
    by_cases h1 : tb = 1
    · rw [if_pos h1, if_pos h1, ← hmz, u2_a (by omega), a1 _ (by omega)]
    · rw [if_neg h1, if_neg h1]
      by_cases h8 : j = 8
      · subst h8
        have hc0 : c = 0 := by have : c < 1 := hc; omega
        subst hc0
        show mz 1034 0 = m 996 50
        rw [← hmz, u2_s]
      · rw [nv_rid hj h8, ← hmz, u2_a (rid_34 j hj h8), a1 _ hr]
  refine ⟨x20, ?_, fun j c hj hc => ⟨?_, ?_⟩, fun i h1 h2 => ?_, fun k h1 h2 h3 => ?_, fun c hc => ?_⟩
  · refine a6.trans ?_
    rw [if_neg (by rw [eq_I (by omega) (by omega)]; omega), a5]
    simp (disch := omega) only [stm_1034, ob_some, hm1, gam_49, e9, ldm_1034, r9, pim_50, hmy, gam_9, gam_10, gam_11, gam_12, gam_13, gam_14, gam_15, gam_16, gam_17, gam_18, gam_48, e10, e11, e12, e13, e14, e15, e16, e17, e18, e19, e20]
  · by_cases h8 : j = 8
    · subst h8
      have hc0 : c = 0 := by have : c < 1 := hc; omega
      subst hc0
      show x20 996 50 = _
      rw [c50]; exact src 8 0 hj hc
    · rw [nv_rid hj h8, (i4 j hj c hc).1]; exact src j c hj hc
  · have h := (i4 j hj c hc).2
    rw [ofe j hj] at h
    exact h.trans (src j c hj hc)
  · have hne : ∀ j, j < 20 → i ≠ rid j := by
      intro j hj e
      have : ∀ j, j < 20 → (997 ≤ rid j ∧ rid j ≤ 1014) ∨ rid j = 1033 ∨ rid j = 1034 := by decide
      have := this j hj
      omega
    rw [i1 i (by omega) h2 hne, ← hmz, mk_u2_ne (by omega), a1 i (by omega)]
  · rw [i2 k h2 h1, ← hmz, u2_a (by omega), a2 k h2 h3]
  · have i5 : ∀ c, c < 1700 * kk ∨ 1700 * kk + 1585 ≤ c → x20 1039 c = mz 1039 c := i5
    rw [i5 c (by omega), ← hmz, u2_a (by omega), a1 _ (by omega)]
set_option maxRecDepth 4000 in
theorem wb_k : ∀ k, k < 4 → 264 + 183 * k ∈ WB := by decide
set_option maxRecDepth 4000 in
theorem wb14 : 14 ∈ WB := by decide
set_option maxRecDepth 4000 in
theorem nar1 : mk_nar 103 (nI 1) = nI 1 := by decide
def setB (md : Nat → Bool) (k : Nat) : Nat → Bool := fun i => if i = k then true else md i
set_option maxRecDepth 4000 in
theorem setB_s {md : Nat → Bool} {k : Nat} : setB md k k = true := if_pos rfl
set_option maxRecDepth 4000 in
theorem setB_ne {md : Nat → Bool} {k i : Nat} (h : i ≠ k) : setB md k i = md i := if_neg h
set_option maxRecDepth 4000 in
theorem op_image (x1 : Int32) : OP (F_X11_image 0 x1) (F_X12_image 996 x1) := by
  intro m q hI
  obtain ⟨⟨⟨⟨len, by_⟩, ⟨nr, RS⟩, ⟨P, A, H, n, N, nn, fo, x⟩, IM, md⟩, hC, hM⟩, hE⟩ := id hI
  obtain ⟨⟨ct1, ct2, ct3⟩, ⟨cr1, cr2, cr3⟩, ⟨⟨cP, ⟨cA, cAh⟩, cH, ⟨cn1, cn2⟩, ⟨cf1, cf2⟩, ⟨cx1, cx2⟩⟩, cwf⟩, cm1, cm2⟩ := id hC
  obtain ⟨⟨mt1, mt2⟩, ⟨mr1, mr2⟩, ⟨mP, ⟨mA, mAh⟩, ⟨mh1, mh2, mh3⟩, ⟨mn1, mn2⟩, ⟨mf1, mf2⟩, ⟨mx1, mx2⟩⟩, mm1, mm2, mw, ms⟩ := id hM
  have cP5 : m 15 0 = nI (P 0 0) ∧ m 15 1 = nI (P 0 1) ∧ m 15 2 = nI (P 0 2) ∧ m 15 3 = nI (P 0 3) ∧ m 15 4 = nI (P 0 4) := cP.five
  have mP5 : m 997 0 = nI (P 0 0) ∧ m 997 1 = nI (P 0 1) ∧ m 997 2 = nI (P 0 2) ∧ m 997 3 = nI (P 0 3) ∧ m 997 4 = nI (P 0 4) := mP.five
  obtain ⟨B0, B1, B2, B3, B4, B5⟩ := cP.bd
  rcases within_CL x1 0 3 (by omega) (by omega) with ⟨k, -, hk, rfl⟩ | hno
  rotate_left
  · refine ⟨-nI 1, m, q, m, q, ?_, ?_, hI, fun _ _ => rfl⟩
    · unfold F_X11_image; simp (disch := omega) only [ob_some, reduceIte, lit, le_T, le_F, lt_T, lt_F, eq_T, eq_F, nI_add, gac_0_0, gac_0_1, gac_0_2, gac_0_3, gac_0_4, gac_0_5, gac_0_6, gac_1_0, gic_1_1, gic_1_2, gic_1_3, gic_1_4, gic_1_5, gic_1_6, gac_3_0, gic_3_1, gic_3_2, gic_3_3, gic_3_4, gic_3_5, gic_3_6, gic_3_7, gic_5_0, gic_5_1, gic_5_2, gic_5_3, gic_5_4, gac_5_5, gac_5_6, gac_5_7, gac_5_8, gac_5_9, gac_5_10, gac_5_11, gac_13_0, gac_13_1, gic_13_2, gac_13_3, gac_13_4, gac_13_5, gac_13_6, gac_13_7, gac_13_8, gac_13_9, gic_13_10, gic_13_11, gic_13_12, gic_13_13, gac_14_0, gac_14_1, gac_14_2, gac_14_3, gic_14_4, gic_14_5, gic_15_0, gic_15_1, gic_15_2, gic_15_3, gic_15_4, gac_15_5, gac_15_6, gac_15_7, gac_15_8, gac_15_9, gac_15_10, gac_15_11, gac_23_0, gac_23_1, gac_23_2, gac_23_3, gac_23_4, gac_23_5, gac_23_6, gic_23_7, gic_23_8, gac_31_0, gic_31_1, gic_31_2, gac_193_0, gac_193_1, gac_193_2, gic_193_3, gac_198_0, gac_200_0, gac_200_1, gac_200_2, gac_200_3, gac_200_4, gac_200_5, gac_200_6, gic_200_7, gic_200_8, pic_1_1, pic_1_2, pic_1_3, pic_1_4, pic_1_5, pic_1_6, pic_3_1, pic_3_2, pic_3_3, pic_3_4, pic_3_5, pic_3_6, pic_3_7, pic_5_0, pic_5_1, pic_5_2, pic_5_3, pic_5_4, pic_13_2, pic_13_10, pic_13_11, pic_13_12, pic_13_13, pic_14_4, pic_14_5, pic_15_0, pic_15_1, pic_15_2, pic_15_3, pic_15_4, pic_23_7, pic_23_8, pic_31_1, pic_31_2, pic_193_3, pic_200_7, pic_200_8, gdc_0, gdc_1, gdc_3, gdc_5, gdc_13, gdc_14, gdc_15, gdc_23, gdc_31, gdc_193, gdc_198, gdc_200, ldc_2, stc_2, ldc_4, stc_4, ldc_6, stc_6, ldc_7, stc_7, ldc_8, stc_8, ldc_9, stc_9, ldc_10, stc_10, ldc_11, stc_11, ldc_12, stc_12, ldc_16, stc_16, ldc_17, stc_17, ldc_18, stc_18, ldc_19, stc_19, ldc_20, stc_20, ldc_21, stc_21, ldc_22, stc_22, ldc_24, stc_24, ldc_25, stc_25, ldc_26, stc_26, ldc_27, stc_27, ldc_28, stc_28, ldc_29, stc_29, ldc_30, stc_30, ldc_194, stc_194, ldc_195, stc_195, ldc_196, stc_196, ldc_199, stc_199, ldc_201, stc_201, ldc_202, stc_202, ldc_203, stc_203, ldc_204, stc_204, ldc_205, stc_205, ldc_206, stc_206, ldc_207, stc_207, ldc_208, stc_208, ldc_209, stc_209, ldc_210, stc_210, ldc_211, stc_211, ldc_213, stc_213, ldc_214, stc_214, ldc_215, stc_215, ldc_216, stc_216, ldc_217, stc_217, ldc_218, stc_218, ldc_219, stc_219, ldc_263, stc_263, lda_197, lda_262, lda_212, lda_32, u2_s, u2_a, u2_b, hno]
    · unfold F_X12_image; simp (disch := omega) only [gdm, gam_1, gam_2, gam_3, gam_4, gam_5, gam_6, gam_7, gam_8, gam_9, gam_10, gam_11, gam_12, gam_13, gam_14, gam_15, gam_16, gam_17, gam_18, gam_19, gam_20, gam_21, gam_22, gam_23, gam_24, gam_25, gam_26, gam_37, gam_38, gam_39, gam_40, gam_41, gam_42, gam_43, gam_44, gam_45, gam_46, gam_48, gam_49, gam_56, gam_57, gam_58, gam_59, gam_60, gam_61, gim_27, gim_28, gim_29, gim_30, gim_31, gim_32, gim_33, gim_34, gim_35, gim_36, gim_47, gim_50, gim_51, gim_52, gim_53, gim_54, gim_55, gim_62, gim_63, ob_some, reduceIte, lit, le_T, le_F, lt_T, lt_F, eq_T, eq_F, nI_add, ldm_997, stm_997, ldm_998, stm_998, ldm_999, stm_999, ldm_1000, stm_1000, ldm_1001, stm_1001, ldm_1002, stm_1002, ldm_1003, stm_1003, ldm_1004, stm_1004, ldm_1005, stm_1005, ldm_1006, stm_1006, ldm_1007, stm_1007, ldm_1008, stm_1008, ldm_1009, stm_1009, ldm_1010, stm_1010, ldm_1011, stm_1011, ldm_1012, stm_1012, ldm_1013, stm_1013, ldm_1014, stm_1014, ldm_1015, stm_1015, ldm_1016, stm_1016, ldm_1017, stm_1017, ldm_1018, stm_1018, ldm_1019, stm_1019, ldm_1020, stm_1020, ldm_1021, stm_1021, ldm_1022, stm_1022, u2_s, u2_a, u2_b, not_true, not_false_iff, in_0_3, hno]
  have c8 : m 23 8 = nI (A 0 1) := cA.2.2.2.2.1.1
  obtain ⟨ma, w1, w2, w3⟩ := w_copyFrom (q := q) (wb_k k (by omega)) wb14 (by omega) hC.2.2.1.1
  generalize hmb : mk_u2 ma 263 k (nI 1) = mb
  have eb : ∀ i, i ≠ 263 → mb i = ma i := fun i hi => by rw [← hmb, mk_u2_ne hi]
  have e1 : ∀ i, i ≠ 263 → i < 264 + 183 * k ∨ 264 + 183 * k + 183 ≤ i → mb i = m i := fun i h1 h2 => (eb i h1).trans (w2 i h2)
  have c8b : mb 23 8 = nI (A 0 1) := by rw [e1 _ (by omega) (by omega)]; exact c8
  generalize hmc : mk_u2 mb 1040 k (nI 1) = mc
  have ec : ∀ i, i ≠ 1040 → mc i = mb i := fun i hi => by rw [← hmc, mk_u2_ne hi]
  obtain ⟨md4, g1, g2, g3, g4, g5⟩ := carriesF (q := q) (kk := k) (tb := 0) mc (by omega) (by omega)
  have hrow : ∀ j c, j < 20 → c < szv j → nv md4 j c = nv m j c := fun j c hj hc => by
    refine (g2 j c hj hc).1.trans ?_
    rw [if_neg (by omega)]
    exact nv_eq hj (fun _ => by rw [ec _ (by omega), e1 _ (by omega) (by omega)]) (fun _ => by rw [ec _ (by omega), e1 _ (by omega) (by omega)]) (fun _ _ => by rw [ec _ (by omega), e1 _ (by omega) (by omega)]) (fun _ => by rw [ec _ (by omega), e1 _ (by omega) (by omega)])
  have e2 : ∀ i, i ≠ 263 → i < 264 + 183 * k ∨ 264 + 183 * k + 183 ≤ i → i < 996 ∨ (1014 < i ∧ i < 1033) ∨ 1034 < i → i ≠ 1039 → i ≠ 1040 → md4 i = m i := fun i h1 h2 h3 h4 h5 => by rw [g3 i h3 h4, ec i h5, e1 i h1 h2]
  have e41 : ∀ i, 1041 ≤ i → md4 i = m i := fun i hi => e2 i (by omega) (by omega) (by omega) (by omega) (by omega)
  have e96 : ∀ c, c ≠ 50 → c ≠ 62 → c ≠ 63 → md4 996 c = m 996 c := fun c h1 h2 h3 => by rw [g4 c h1 h2 h3, ec _ (by omega), e1 _ (by omega) (by omega)]
  refine ⟨nI (A 0 1), mb, q, md4, q, ?_, ?_, ⟨⟨((len, by_), (nr, RS), (P, A, H, n, N, nn, fo, x), fun i => if i = k then (P, A, H, n, N, nn, fo, x) else IM i, setB md k), ?_, ?_⟩, hE.up e41⟩, e41⟩
  · unfold F_X11_image
    simp (disch := omega) only [ob_some, reduceIte, lit, le_T, le_F, lt_T, lt_F, eq_T, eq_F, nI_add, gac_0_0, gac_0_1, gac_0_2, gac_0_3, gac_0_4, gac_0_5, gac_0_6, gac_1_0, gic_1_1, gic_1_2, gic_1_3, gic_1_4, gic_1_5, gic_1_6, gac_3_0, gic_3_1, gic_3_2, gic_3_3, gic_3_4, gic_3_5, gic_3_6, gic_3_7, gic_5_0, gic_5_1, gic_5_2, gic_5_3, gic_5_4, gac_5_5, gac_5_6, gac_5_7, gac_5_8, gac_5_9, gac_5_10, gac_5_11, gac_13_0, gac_13_1, gic_13_2, gac_13_3, gac_13_4, gac_13_5, gac_13_6, gac_13_7, gac_13_8, gac_13_9, gic_13_10, gic_13_11, gic_13_12, gic_13_13, gac_14_0, gac_14_1, gac_14_2, gac_14_3, gic_14_4, gic_14_5, gic_15_0, gic_15_1, gic_15_2, gic_15_3, gic_15_4, gac_15_5, gac_15_6, gac_15_7, gac_15_8, gac_15_9, gac_15_10, gac_15_11, gac_23_0, gac_23_1, gac_23_2, gac_23_3, gac_23_4, gac_23_5, gac_23_6, gic_23_7, gic_23_8, gac_31_0, gic_31_1, gic_31_2, gac_193_0, gac_193_1, gac_193_2, gic_193_3, gac_198_0, gac_200_0, gac_200_1, gac_200_2, gac_200_3, gac_200_4, gac_200_5, gac_200_6, gic_200_7, gic_200_8, pic_1_1, pic_1_2, pic_1_3, pic_1_4, pic_1_5, pic_1_6, pic_3_1, pic_3_2, pic_3_3, pic_3_4, pic_3_5, pic_3_6, pic_3_7, pic_5_0, pic_5_1, pic_5_2, pic_5_3, pic_5_4, pic_13_2, pic_13_10, pic_13_11, pic_13_12, pic_13_13, pic_14_4, pic_14_5, pic_15_0, pic_15_1, pic_15_2, pic_15_3, pic_15_4, pic_23_7, pic_23_8, pic_31_1, pic_31_2, pic_193_3, pic_200_7, pic_200_8, gdc_0, gdc_1, gdc_3, gdc_5, gdc_13, gdc_14, gdc_15, gdc_23, gdc_31, gdc_193, gdc_198, gdc_200, ldc_2, stc_2, ldc_4, stc_4, ldc_6, stc_6, ldc_7, stc_7, ldc_8, stc_8, ldc_9, stc_9, ldc_10, stc_10, ldc_11, stc_11, ldc_12, stc_12, ldc_16, stc_16, ldc_17, stc_17, ldc_18, stc_18, ldc_19, stc_19, ldc_20, stc_20, ldc_21, stc_21, ldc_22, stc_22, ldc_24, stc_24, ldc_25, stc_25, ldc_26, stc_26, ldc_27, stc_27, ldc_28, stc_28, ldc_29, stc_29, ldc_30, stc_30, ldc_194, stc_194, ldc_195, stc_195, ldc_196, stc_196, ldc_199, stc_199, ldc_201, stc_201, ldc_202, stc_202, ldc_203, stc_203, ldc_204, stc_204, ldc_205, stc_205, ldc_206, stc_206, ldc_207, stc_207, ldc_208, stc_208, ldc_209, stc_209, ldc_210, stc_210, ldc_211, stc_211, ldc_213, stc_213, ldc_214, stc_214, ldc_215, stc_215, ldc_216, stc_216, ldc_217, stc_217, ldc_218, stc_218, ldc_219, stc_219, ldc_263, stc_263, lda_197, lda_262, lda_212, lda_32, u2_s, u2_a, u2_b, within_TL, w1, nar1, hmb, c8b]
  · unfold F_X12_image
    have d5 : md4 997 5 = nI (A 0 1) := (hrow 0 5 (by omega) (by decide)).trans mA.2.2.2.2.1
    simp (disch := omega) only [gdm, gam_1, gam_2, gam_3, gam_4, gam_5, gam_6, gam_7, gam_8, gam_9, gam_10, gam_11, gam_12, gam_13, gam_14, gam_15, gam_16, gam_17, gam_18, gam_19, gam_20, gam_21, gam_22, gam_23, gam_24, gam_25, gam_26, gam_37, gam_38, gam_39, gam_40, gam_41, gam_42, gam_43, gam_44, gam_45, gam_46, gam_48, gam_49, gam_56, gam_57, gam_58, gam_59, gam_60, gam_61, gim_27, gim_28, gim_29, gim_30, gim_31, gim_32, gim_33, gim_34, gim_35, gim_36, gim_47, gim_50, gim_51, gim_52, gim_53, gim_54, gim_55, gim_62, gim_63, ob_some, reduceIte, lit, le_T, le_F, lt_T, lt_F, eq_T, eq_F, nI_add, ldm_997, stm_997, ldm_998, stm_998, ldm_999, stm_999, ldm_1000, stm_1000, ldm_1001, stm_1001, ldm_1002, stm_1002, ldm_1003, stm_1003, ldm_1004, stm_1004, ldm_1005, stm_1005, ldm_1006, stm_1006, ldm_1007, stm_1007, ldm_1008, stm_1008, ldm_1009, stm_1009, ldm_1010, stm_1010, ldm_1011, stm_1011, ldm_1012, stm_1012, ldm_1013, stm_1013, ldm_1014, stm_1014, ldm_1015, stm_1015, ldm_1016, stm_1016, ldm_1017, stm_1017, ldm_1018, stm_1018, ldm_1019, stm_1019, ldm_1020, stm_1020, ldm_1021, stm_1021, ldm_1022, stm_1022, u2_s, u2_a, u2_b, not_true, not_false_iff, within_TL, in_0_3, gam_61, stm_1040, nar1, hmc, g1, d5]
  · refine ⟨⟨?_, ct2, ?_⟩, ⟨?_, cr2, fun r hr => (cr3 r hr).congr (fun i h1 h2 => e2 i (by omega) (by omega) (by omega) (by omega) (by omega))⟩, ⟨CW.congr (m := m) hC.2.2.1.1 (fun i h1 h2 => e2 i (by omega) (by omega) (by omega) (by omega) (by omega)), cwf⟩, fun i hi => ?_, fun i hi him => ?_⟩
    · rw [e2 _ (by omega) (by omega) (by omega) (by omega) (by omega)]; exact ct1
    · rw [e2 _ (by omega) (by omega) (by omega) (by omega) (by omega)]; exact ct3
    · rw [e2 _ (by omega) (by omega) (by omega) (by omega) (by omega)]; exact cr1
    · rw [g3 _ (by omega) (by omega), ec _ (by omega), ← hmb]
      by_cases h : i = k
      · subst h; rw [u2_s, setB_s]; rfl
      · rw [u2_b h, w2 _ (by omega), setB_ne h]; exact cm1 i hi
    · by_cases h : i = k
      · subst h
        dsimp only
        rw [if_pos rfl]
        refine ⟨w3.congr (fun j h1 h2 => ?_), cwf⟩
        rw [g3 _ (by omega) (by omega), ec _ (by omega), eb _ (by omega)]
      · dsimp only
        rw [if_neg h]
        have him : md i = true := by rw [setB_ne h] at him; exact him
        refine ⟨(cm2 i hi him).1.congr (fun j h1 h2 => e2 j (by omega) (by omega) (by omega) (by omega) (by omega)), (cm2 i hi him).2⟩
  · refine ⟨⟨?_, ?_⟩, ⟨?_, fun r hr => (mr2 r hr).congr (fun i h1 h2 => e2 i (by omega) (by omega) (by omega) (by omega) (by omega))⟩, MW.congr (a := nv m) hM.2.2.1 hrow, fun i hi => ?_, fun i hi him => ?_, ?_, ?_⟩
    · rw [e96 _ (by omega) (by omega) (by omega)]; exact mt1
    · rw [e2 _ (by omega) (by omega) (by omega) (by omega) (by omega)]; exact mt2
    · rw [e96 _ (by omega) (by omega) (by omega)]; exact mr1
    · rw [g3 _ (by omega) (by omega), ← hmc]
      by_cases h : i = k
      · subst h; rw [u2_s, setB_s]; rfl
      · rw [u2_b h, e1 _ (by omega) (by omega), setB_ne h]; exact mm1 i hi
    · by_cases h : i = k
      · subst h
        dsimp only
        rw [if_pos rfl]
        refine MW.congr (a := nv m) hM.2.2.1 (fun j c hj hc => ?_)
        rw [(g2 j c hj hc).2, if_neg (by omega), ← hrow j c hj hc, (g2 j c hj hc).1, if_neg (by omega)]
      · dsimp only
        rw [if_neg h]
        have him : md i = true := by rw [setB_ne h] at him; exact him
        refine (mm2 i hi him).congr (fun j c hj hc => ?_)
        have := ofv_sz j hj
        unfold iv
        rw [g5 _ (by omega), ec _ (by omega), e1 _ (by omega) (by omega)]
    · rw [e96 _ (by omega) (by omega) (by omega)]; exact mw
    · rw [e96 _ (by omega) (by omega) (by omega)]; exact ms
set_option maxRecDepth 4000 in
theorem op_back (x1 : Int32) : OP (F_X11_back 0 x1) (F_X12_back 996 x1) := by
  intro m q hI
  obtain ⟨⟨⟨⟨len, by_⟩, ⟨nr, RS⟩, ⟨P, A, H, n, N, nn, fo, x⟩, IM, md⟩, hC, hM⟩, hE⟩ := id hI
  obtain ⟨⟨ct1, ct2, ct3⟩, ⟨cr1, cr2, cr3⟩, ⟨⟨cP, ⟨cA, cAh⟩, cH, ⟨cn1, cn2⟩, ⟨cf1, cf2⟩, ⟨cx1, cx2⟩⟩, cwf⟩, cm1, cm2⟩ := id hC
  obtain ⟨⟨mt1, mt2⟩, ⟨mr1, mr2⟩, ⟨mP, ⟨mA, mAh⟩, ⟨mh1, mh2, mh3⟩, ⟨mn1, mn2⟩, ⟨mf1, mf2⟩, ⟨mx1, mx2⟩⟩, mm1, mm2, mw, ms⟩ := id hM
  have cP5 : m 15 0 = nI (P 0 0) ∧ m 15 1 = nI (P 0 1) ∧ m 15 2 = nI (P 0 2) ∧ m 15 3 = nI (P 0 3) ∧ m 15 4 = nI (P 0 4) := cP.five
  have mP5 : m 997 0 = nI (P 0 0) ∧ m 997 1 = nI (P 0 1) ∧ m 997 2 = nI (P 0 2) ∧ m 997 3 = nI (P 0 3) ∧ m 997 4 = nI (P 0 4) := mP.five
  obtain ⟨B0, B1, B2, B3, B4, B5⟩ := cP.bd
  rcases within_CL x1 0 3 (by omega) (by omega) with ⟨k, -, hk, rfl⟩ | hno
  rotate_left
  · refine ⟨-nI 1, m, q, m, q, ?_, ?_, hI, fun _ _ => rfl⟩
    · unfold F_X11_back; simp (disch := omega) only [ob_some, reduceIte, lit, le_T, le_F, lt_T, lt_F, eq_T, eq_F, nI_add, gac_0_0, gac_0_1, gac_0_2, gac_0_3, gac_0_4, gac_0_5, gac_0_6, gac_1_0, gic_1_1, gic_1_2, gic_1_3, gic_1_4, gic_1_5, gic_1_6, gac_3_0, gic_3_1, gic_3_2, gic_3_3, gic_3_4, gic_3_5, gic_3_6, gic_3_7, gic_5_0, gic_5_1, gic_5_2, gic_5_3, gic_5_4, gac_5_5, gac_5_6, gac_5_7, gac_5_8, gac_5_9, gac_5_10, gac_5_11, gac_13_0, gac_13_1, gic_13_2, gac_13_3, gac_13_4, gac_13_5, gac_13_6, gac_13_7, gac_13_8, gac_13_9, gic_13_10, gic_13_11, gic_13_12, gic_13_13, gac_14_0, gac_14_1, gac_14_2, gac_14_3, gic_14_4, gic_14_5, gic_15_0, gic_15_1, gic_15_2, gic_15_3, gic_15_4, gac_15_5, gac_15_6, gac_15_7, gac_15_8, gac_15_9, gac_15_10, gac_15_11, gac_23_0, gac_23_1, gac_23_2, gac_23_3, gac_23_4, gac_23_5, gac_23_6, gic_23_7, gic_23_8, gac_31_0, gic_31_1, gic_31_2, gac_193_0, gac_193_1, gac_193_2, gic_193_3, gac_198_0, gac_200_0, gac_200_1, gac_200_2, gac_200_3, gac_200_4, gac_200_5, gac_200_6, gic_200_7, gic_200_8, pic_1_1, pic_1_2, pic_1_3, pic_1_4, pic_1_5, pic_1_6, pic_3_1, pic_3_2, pic_3_3, pic_3_4, pic_3_5, pic_3_6, pic_3_7, pic_5_0, pic_5_1, pic_5_2, pic_5_3, pic_5_4, pic_13_2, pic_13_10, pic_13_11, pic_13_12, pic_13_13, pic_14_4, pic_14_5, pic_15_0, pic_15_1, pic_15_2, pic_15_3, pic_15_4, pic_23_7, pic_23_8, pic_31_1, pic_31_2, pic_193_3, pic_200_7, pic_200_8, gdc_0, gdc_1, gdc_3, gdc_5, gdc_13, gdc_14, gdc_15, gdc_23, gdc_31, gdc_193, gdc_198, gdc_200, ldc_2, stc_2, ldc_4, stc_4, ldc_6, stc_6, ldc_7, stc_7, ldc_8, stc_8, ldc_9, stc_9, ldc_10, stc_10, ldc_11, stc_11, ldc_12, stc_12, ldc_16, stc_16, ldc_17, stc_17, ldc_18, stc_18, ldc_19, stc_19, ldc_20, stc_20, ldc_21, stc_21, ldc_22, stc_22, ldc_24, stc_24, ldc_25, stc_25, ldc_26, stc_26, ldc_27, stc_27, ldc_28, stc_28, ldc_29, stc_29, ldc_30, stc_30, ldc_194, stc_194, ldc_195, stc_195, ldc_196, stc_196, ldc_199, stc_199, ldc_201, stc_201, ldc_202, stc_202, ldc_203, stc_203, ldc_204, stc_204, ldc_205, stc_205, ldc_206, stc_206, ldc_207, stc_207, ldc_208, stc_208, ldc_209, stc_209, ldc_210, stc_210, ldc_211, stc_211, ldc_213, stc_213, ldc_214, stc_214, ldc_215, stc_215, ldc_216, stc_216, ldc_217, stc_217, ldc_218, stc_218, ldc_219, stc_219, ldc_263, stc_263, lda_197, lda_262, lda_212, lda_32, u2_s, u2_a, u2_b, hno]
    · unfold F_X12_back; simp (disch := omega) only [gdm, gam_1, gam_2, gam_3, gam_4, gam_5, gam_6, gam_7, gam_8, gam_9, gam_10, gam_11, gam_12, gam_13, gam_14, gam_15, gam_16, gam_17, gam_18, gam_19, gam_20, gam_21, gam_22, gam_23, gam_24, gam_25, gam_26, gam_37, gam_38, gam_39, gam_40, gam_41, gam_42, gam_43, gam_44, gam_45, gam_46, gam_48, gam_49, gam_56, gam_57, gam_58, gam_59, gam_60, gam_61, gim_27, gim_28, gim_29, gim_30, gim_31, gim_32, gim_33, gim_34, gim_35, gim_36, gim_47, gim_50, gim_51, gim_52, gim_53, gim_54, gim_55, gim_62, gim_63, ob_some, reduceIte, lit, le_T, le_F, lt_T, lt_F, eq_T, eq_F, nI_add, ldm_997, stm_997, ldm_998, stm_998, ldm_999, stm_999, ldm_1000, stm_1000, ldm_1001, stm_1001, ldm_1002, stm_1002, ldm_1003, stm_1003, ldm_1004, stm_1004, ldm_1005, stm_1005, ldm_1006, stm_1006, ldm_1007, stm_1007, ldm_1008, stm_1008, ldm_1009, stm_1009, ldm_1010, stm_1010, ldm_1011, stm_1011, ldm_1012, stm_1012, ldm_1013, stm_1013, ldm_1014, stm_1014, ldm_1015, stm_1015, ldm_1016, stm_1016, ldm_1017, stm_1017, ldm_1018, stm_1018, ldm_1019, stm_1019, ldm_1020, stm_1020, ldm_1021, stm_1021, ldm_1022, stm_1022, u2_s, u2_a, u2_b, not_true, not_false_iff, in_0_3, hno]
  have u63 := cm1 k (by omega)
  have u40 := mm1 k (by omega)
  cases hmd : md k with
  | false =>
    rw [hmd] at u63 u40
    have u63 : m 263 k = nI 0 := u63
    have u40 : m 1040 k = nI 0 := u40
    refine ⟨-nI 1, m, q, m, q, ?_, ?_, hI, fun _ _ => rfl⟩
    · unfold F_X11_back; simp (disch := omega) only [ob_some, reduceIte, lit, le_T, le_F, lt_T, lt_F, eq_T, eq_F, nI_add, gac_0_0, gac_0_1, gac_0_2, gac_0_3, gac_0_4, gac_0_5, gac_0_6, gac_1_0, gic_1_1, gic_1_2, gic_1_3, gic_1_4, gic_1_5, gic_1_6, gac_3_0, gic_3_1, gic_3_2, gic_3_3, gic_3_4, gic_3_5, gic_3_6, gic_3_7, gic_5_0, gic_5_1, gic_5_2, gic_5_3, gic_5_4, gac_5_5, gac_5_6, gac_5_7, gac_5_8, gac_5_9, gac_5_10, gac_5_11, gac_13_0, gac_13_1, gic_13_2, gac_13_3, gac_13_4, gac_13_5, gac_13_6, gac_13_7, gac_13_8, gac_13_9, gic_13_10, gic_13_11, gic_13_12, gic_13_13, gac_14_0, gac_14_1, gac_14_2, gac_14_3, gic_14_4, gic_14_5, gic_15_0, gic_15_1, gic_15_2, gic_15_3, gic_15_4, gac_15_5, gac_15_6, gac_15_7, gac_15_8, gac_15_9, gac_15_10, gac_15_11, gac_23_0, gac_23_1, gac_23_2, gac_23_3, gac_23_4, gac_23_5, gac_23_6, gic_23_7, gic_23_8, gac_31_0, gic_31_1, gic_31_2, gac_193_0, gac_193_1, gac_193_2, gic_193_3, gac_198_0, gac_200_0, gac_200_1, gac_200_2, gac_200_3, gac_200_4, gac_200_5, gac_200_6, gic_200_7, gic_200_8, pic_1_1, pic_1_2, pic_1_3, pic_1_4, pic_1_5, pic_1_6, pic_3_1, pic_3_2, pic_3_3, pic_3_4, pic_3_5, pic_3_6, pic_3_7, pic_5_0, pic_5_1, pic_5_2, pic_5_3, pic_5_4, pic_13_2, pic_13_10, pic_13_11, pic_13_12, pic_13_13, pic_14_4, pic_14_5, pic_15_0, pic_15_1, pic_15_2, pic_15_3, pic_15_4, pic_23_7, pic_23_8, pic_31_1, pic_31_2, pic_193_3, pic_200_7, pic_200_8, gdc_0, gdc_1, gdc_3, gdc_5, gdc_13, gdc_14, gdc_15, gdc_23, gdc_31, gdc_193, gdc_198, gdc_200, ldc_2, stc_2, ldc_4, stc_4, ldc_6, stc_6, ldc_7, stc_7, ldc_8, stc_8, ldc_9, stc_9, ldc_10, stc_10, ldc_11, stc_11, ldc_12, stc_12, ldc_16, stc_16, ldc_17, stc_17, ldc_18, stc_18, ldc_19, stc_19, ldc_20, stc_20, ldc_21, stc_21, ldc_22, stc_22, ldc_24, stc_24, ldc_25, stc_25, ldc_26, stc_26, ldc_27, stc_27, ldc_28, stc_28, ldc_29, stc_29, ldc_30, stc_30, ldc_194, stc_194, ldc_195, stc_195, ldc_196, stc_196, ldc_199, stc_199, ldc_201, stc_201, ldc_202, stc_202, ldc_203, stc_203, ldc_204, stc_204, ldc_205, stc_205, ldc_206, stc_206, ldc_207, stc_207, ldc_208, stc_208, ldc_209, stc_209, ldc_210, stc_210, ldc_211, stc_211, ldc_213, stc_213, ldc_214, stc_214, ldc_215, stc_215, ldc_216, stc_216, ldc_217, stc_217, ldc_218, stc_218, ldc_219, stc_219, ldc_263, stc_263, lda_197, lda_262, lda_212, lda_32, u2_s, u2_a, u2_b, within_TL, u63]
    · unfold F_X12_back; simp (disch := omega) only [gdm, gam_1, gam_2, gam_3, gam_4, gam_5, gam_6, gam_7, gam_8, gam_9, gam_10, gam_11, gam_12, gam_13, gam_14, gam_15, gam_16, gam_17, gam_18, gam_19, gam_20, gam_21, gam_22, gam_23, gam_24, gam_25, gam_26, gam_37, gam_38, gam_39, gam_40, gam_41, gam_42, gam_43, gam_44, gam_45, gam_46, gam_48, gam_49, gam_56, gam_57, gam_58, gam_59, gam_60, gam_61, gim_27, gim_28, gim_29, gim_30, gim_31, gim_32, gim_33, gim_34, gim_35, gim_36, gim_47, gim_50, gim_51, gim_52, gim_53, gim_54, gim_55, gim_62, gim_63, ob_some, reduceIte, lit, le_T, le_F, lt_T, lt_F, eq_T, eq_F, nI_add, ldm_997, stm_997, ldm_998, stm_998, ldm_999, stm_999, ldm_1000, stm_1000, ldm_1001, stm_1001, ldm_1002, stm_1002, ldm_1003, stm_1003, ldm_1004, stm_1004, ldm_1005, stm_1005, ldm_1006, stm_1006, ldm_1007, stm_1007, ldm_1008, stm_1008, ldm_1009, stm_1009, ldm_1010, stm_1010, ldm_1011, stm_1011, ldm_1012, stm_1012, ldm_1013, stm_1013, ldm_1014, stm_1014, ldm_1015, stm_1015, ldm_1016, stm_1016, ldm_1017, stm_1017, ldm_1018, stm_1018, ldm_1019, stm_1019, ldm_1020, stm_1020, ldm_1021, stm_1021, ldm_1022, stm_1022, u2_s, u2_a, u2_b, not_true, not_false_iff, within_TL, in_0_3, gam_61, ldm_1040, u40]
  | true =>
    rw [hmd] at u63 u40
    have u63 : m 263 k = nI 1 := u63
    have u40 : m 1040 k = nI 1 := u40
    obtain ⟨iC, iF⟩ := cm2 k (by omega) hmd
    have iM := mm2 k (by omega) hmd
    obtain ⟨ma, w1, w2, w3⟩ := w_copyFrom (q := q) wb14 (wb_k k (by omega)) (by omega) iC
    have u40a : ma 1040 k = nI 1 := by rw [w2 _ (by omega)]; exact u40
    obtain ⟨mb, g1, g2, g3, g4, g5⟩ := carriesF (q := q) (kk := k) (tb := 1) ma (by omega) (by omega)
    have e2 : ∀ i, i < 14 ∨ 197 ≤ i → i < 996 ∨ (1014 < i ∧ i < 1033) ∨ 1034 < i → i ≠ 1039 → mb i = m i := fun i h1 h2 h3 => by rw [g3 i h2 h3, w2 i h1]
    have e41 : ∀ i, 1041 ≤ i → mb i = m i := fun i hi => e2 i (by omega) (by omega) (by omega)
    have e96 : ∀ c, c ≠ 50 → c ≠ 62 → c ≠ 63 → mb 996 c = m 996 c := fun c h1 h2 h3 => by rw [g4 c h1 h2 h3, w2 _ (by omega)]
    have hia : ∀ i j c, iv ma i j c = iv m i j c := fun i j c => by unfold iv; rw [w2 _ (by omega)]
    have hW : MW (nv mb) (IM k) := iM.congr (fun j c hj hc => by rw [(g2 j c hj hc).1, if_pos rfl, hia])
    have hWC : CW mb 14 (IM k) := w3.congr (fun i h1 h2 => g3 i (by omega) (by omega))
    obtain ⟨h, hh⟩ : ∃ h, ma 23 8 = nI h ∧ mb 997 5 = nI h := by
      generalize IM k = W at w3 hW
      obtain ⟨P1, A1, H1, n1, N1, nn1, fo1, x1⟩ := W
      exact ⟨A1 0 1, w3.2.1.1.2.2.2.2.1.1, hW.2.1.1.2.2.2.2.1⟩
    refine ⟨nI h, ma, q, mb, q, ?_, ?_, ⟨⟨((len, by_), (nr, RS), IM k, IM, md), ?_, ?_⟩, hE.up e41⟩, e41⟩
    · unfold F_X11_back
      simp (disch := omega) only [ob_some, reduceIte, lit, le_T, le_F, lt_T, lt_F, eq_T, eq_F, nI_add, gac_0_0, gac_0_1, gac_0_2, gac_0_3, gac_0_4, gac_0_5, gac_0_6, gac_1_0, gic_1_1, gic_1_2, gic_1_3, gic_1_4, gic_1_5, gic_1_6, gac_3_0, gic_3_1, gic_3_2, gic_3_3, gic_3_4, gic_3_5, gic_3_6, gic_3_7, gic_5_0, gic_5_1, gic_5_2, gic_5_3, gic_5_4, gac_5_5, gac_5_6, gac_5_7, gac_5_8, gac_5_9, gac_5_10, gac_5_11, gac_13_0, gac_13_1, gic_13_2, gac_13_3, gac_13_4, gac_13_5, gac_13_6, gac_13_7, gac_13_8, gac_13_9, gic_13_10, gic_13_11, gic_13_12, gic_13_13, gac_14_0, gac_14_1, gac_14_2, gac_14_3, gic_14_4, gic_14_5, gic_15_0, gic_15_1, gic_15_2, gic_15_3, gic_15_4, gac_15_5, gac_15_6, gac_15_7, gac_15_8, gac_15_9, gac_15_10, gac_15_11, gac_23_0, gac_23_1, gac_23_2, gac_23_3, gac_23_4, gac_23_5, gac_23_6, gic_23_7, gic_23_8, gac_31_0, gic_31_1, gic_31_2, gac_193_0, gac_193_1, gac_193_2, gic_193_3, gac_198_0, gac_200_0, gac_200_1, gac_200_2, gac_200_3, gac_200_4, gac_200_5, gac_200_6, gic_200_7, gic_200_8, pic_1_1, pic_1_2, pic_1_3, pic_1_4, pic_1_5, pic_1_6, pic_3_1, pic_3_2, pic_3_3, pic_3_4, pic_3_5, pic_3_6, pic_3_7, pic_5_0, pic_5_1, pic_5_2, pic_5_3, pic_5_4, pic_13_2, pic_13_10, pic_13_11, pic_13_12, pic_13_13, pic_14_4, pic_14_5, pic_15_0, pic_15_1, pic_15_2, pic_15_3, pic_15_4, pic_23_7, pic_23_8, pic_31_1, pic_31_2, pic_193_3, pic_200_7, pic_200_8, gdc_0, gdc_1, gdc_3, gdc_5, gdc_13, gdc_14, gdc_15, gdc_23, gdc_31, gdc_193, gdc_198, gdc_200, ldc_2, stc_2, ldc_4, stc_4, ldc_6, stc_6, ldc_7, stc_7, ldc_8, stc_8, ldc_9, stc_9, ldc_10, stc_10, ldc_11, stc_11, ldc_12, stc_12, ldc_16, stc_16, ldc_17, stc_17, ldc_18, stc_18, ldc_19, stc_19, ldc_20, stc_20, ldc_21, stc_21, ldc_22, stc_22, ldc_24, stc_24, ldc_25, stc_25, ldc_26, stc_26, ldc_27, stc_27, ldc_28, stc_28, ldc_29, stc_29, ldc_30, stc_30, ldc_194, stc_194, ldc_195, stc_195, ldc_196, stc_196, ldc_199, stc_199, ldc_201, stc_201, ldc_202, stc_202, ldc_203, stc_203, ldc_204, stc_204, ldc_205, stc_205, ldc_206, stc_206, ldc_207, stc_207, ldc_208, stc_208, ldc_209, stc_209, ldc_210, stc_210, ldc_211, stc_211, ldc_213, stc_213, ldc_214, stc_214, ldc_215, stc_215, ldc_216, stc_216, ldc_217, stc_217, ldc_218, stc_218, ldc_219, stc_219, ldc_263, stc_263, lda_197, lda_262, lda_212, lda_32, u2_s, u2_a, u2_b, within_TL, u63, w1, hh.1]
    · unfold F_X12_back
      simp (disch := omega) only [gdm, gam_1, gam_2, gam_3, gam_4, gam_5, gam_6, gam_7, gam_8, gam_9, gam_10, gam_11, gam_12, gam_13, gam_14, gam_15, gam_16, gam_17, gam_18, gam_19, gam_20, gam_21, gam_22, gam_23, gam_24, gam_25, gam_26, gam_37, gam_38, gam_39, gam_40, gam_41, gam_42, gam_43, gam_44, gam_45, gam_46, gam_48, gam_49, gam_56, gam_57, gam_58, gam_59, gam_60, gam_61, gim_27, gim_28, gim_29, gim_30, gim_31, gim_32, gim_33, gim_34, gim_35, gim_36, gim_47, gim_50, gim_51, gim_52, gim_53, gim_54, gim_55, gim_62, gim_63, ob_some, reduceIte, lit, le_T, le_F, lt_T, lt_F, eq_T, eq_F, nI_add, ldm_997, stm_997, ldm_998, stm_998, ldm_999, stm_999, ldm_1000, stm_1000, ldm_1001, stm_1001, ldm_1002, stm_1002, ldm_1003, stm_1003, ldm_1004, stm_1004, ldm_1005, stm_1005, ldm_1006, stm_1006, ldm_1007, stm_1007, ldm_1008, stm_1008, ldm_1009, stm_1009, ldm_1010, stm_1010, ldm_1011, stm_1011, ldm_1012, stm_1012, ldm_1013, stm_1013, ldm_1014, stm_1014, ldm_1015, stm_1015, ldm_1016, stm_1016, ldm_1017, stm_1017, ldm_1018, stm_1018, ldm_1019, stm_1019, ldm_1020, stm_1020, ldm_1021, stm_1021, ldm_1022, stm_1022, u2_s, u2_a, u2_b, not_true, not_false_iff, within_TL, in_0_3, gam_61, ldm_1040, u40a, g1, hh.2]
    · exact CI.now (m := m) hC hWC iF (by rw [e2 _ (by omega) (by omega) (by omega)]) (e2 _ (by omega) (by omega) (by omega)) (by rw [e2 _ (by omega) (by omega) (by omega)]) (fun i _ _ => e2 i (by omega) (by omega) (by omega)) (fun i _ _ => e2 i (by omega) (by omega) (by omega))
    · refine MI.now (m := m) hM hW (e96 _ (by omega) (by omega) (by omega)) (e96 _ (by omega) (by omega) (by omega)) (e96 _ (by omega) (by omega) (by omega)) (e96 _ (by omega) (by omega) (by omega)) (fun i _ _ => e2 i (by omega) (by omega) (by omega)) (fun c hc => ?_) (e2 _ (by omega) (by omega) (by omega))
      by_cases hin : 1700 * k ≤ c ∧ c < 1700 * k + 1585
      · -- a cell of that image: it is as it was
        have hex : ∀ d, d < 1585 → ∃ j, j < 20 ∧ ofv j ≤ d ∧ d < ofv j + szv j := by decide +kernel
        obtain ⟨j, hj, h1, h2⟩ := hex (c - 1700 * k) (by omega)
        have h3 := (g2 j (c - 1700 * k - ofv j) hj (by omega)).2
        rw [if_pos rfl, hia] at h3
        unfold iv at h3
        rw [show 1700 * k + ofv j + (c - 1700 * k - ofv j) = c by omega] at h3
        exact h3
      · rw [g5 c (by omega), w2 _ (by omega)]
