/-! texts come -/
def byt (x : Int32) (s : Nat) : Nat := x.toBitVec.toNat / 2 ^ s % 256
set_option maxRecDepth 4000 in
theorem byt_lt (x : Int32) (s : Nat) : byt x s < 256 := Nat.mod_lt _ (by omega)
set_option maxRecDepth 4000 in
theorem sh24 (x : Int32) : ((x.toUInt32 >>> ((nI 24).toUInt32 &&& Int32.toUInt32 (nI 31))).toInt32) &&& nI 255 = nI (byt x 24) := by
  rw [pk_and _ 8 (by decide)]
  have := pk_ushr x (nI 24) 24 (by decide)
  unfold byt
  rw [← this]
  rfl
set_option maxRecDepth 4000 in
theorem sh16 (x : Int32) : ((x.toUInt32 >>> ((nI 16).toUInt32 &&& Int32.toUInt32 (nI 31))).toInt32) &&& nI 255 = nI (byt x 16) := by
  rw [pk_and _ 8 (by decide)]
  have := pk_ushr x (nI 16) 16 (by decide)
  unfold byt
  rw [← this]
  rfl
set_option maxRecDepth 4000 in
theorem sh8 (x : Int32) : ((x.toUInt32 >>> ((nI 8).toUInt32 &&& Int32.toUInt32 (nI 31))).toInt32) &&& nI 255 = nI (byt x 8) := by
  rw [pk_and _ 8 (by decide)]
  have := pk_ushr x (nI 8) 8 (by decide)
  unfold byt
  rw [← this]
  rfl
set_option maxRecDepth 4000 in
theorem sh0 (x : Int32) : ((x.toUInt32 >>> ((nI 0).toUInt32 &&& Int32.toUInt32 (nI 31))).toInt32) &&& nI 255 = nI (byt x 0) := by
  rw [pk_and _ 8 (by decide)]
  have := pk_ushr x (nI 0) 0 (by decide)
  unfold byt
  rw [← this]
  rfl
set_option maxRecDepth 4000 in
theorem byt8 (b : BitVec 32) (s : Nat) (hs : s ≤ 24) : (b.sshiftRight s).setWidth 8 = (BitVec.ofNat 32 (b.toNat / 2 ^ s % 256)).setWidth 8 := by
  apply BitVec.eq_of_getLsbD_eq
  intro i hi
  have h256 : (256 : Nat) = 2 ^ 8 := rfl
  simp only [BitVec.getLsbD_setWidth, BitVec.getLsbD_sshiftRight, BitVec.getLsbD_ofNat, h256, Nat.testBit_mod_two_pow, Nat.testBit_div_two_pow, hi, decide_true, Bool.true_and]
  have h1 : ¬ 32 ≤ i := by omega
  have h2 : s + i < 32 := by omega
  have h3 : i < 32 := by omega
  simp only [h1, h2, h3, decide_false, decide_true, Bool.not_false, Bool.true_and, if_true, BitVec.getLsbD, Nat.add_comm]
set_option maxRecDepth 4000 in
theorem as_byte (x : Int32) (s : Nat) (hs : s = 0 ∨ s = 8 ∨ s = 16 ∨ s = 24) : (x >>> (nI s &&& nI 31)).toInt8.toInt32 = mk_nar 102 (nI (byt x s)) := by
  have e : mk_nar 102 (nI (byt x s)) = (nI (byt x s)).toInt8.toInt32 := rfl
  rw [e]
  congr 1
  apply Int8.toBitVec_inj.mp
  have h2 : (nI (byt x s)).toInt8.toBitVec = (BitVec.ofNat 32 (byt x s)).signExtend 8 := rfl
  have h3 : (x >>> (nI s &&& nI 31)).toInt8.toBitVec = (x.toBitVec.sshiftRight s).signExtend 8 := by
    rcases hs with h | h | h | h <;> subst h <;> rfl
  rw [h2, h3, BitVec.signExtend_eq_setWidth_of_le _ (by omega), BitVec.signExtend_eq_setWidth_of_le _ (by omega), byt8 x.toBitVec s (by omega)]
  rfl
set_option maxRecDepth 4000 in
theorem addC1 {m : Nat → Nat → Int32} {q : Nat → Nat → Int64} {x : Int32} {len s : Nat} (f : Nat) (h : m 1 1 = nI len) (hl : len < 400) (hs : s = 0 ∨ s = 8 ∨ s = 16 ∨ s = 24) : B_X8_add_3 (f + 1) 1 x (nI s) (KS, m, q) = B_X8_add_3 f 1 x (nI s + -nI 8) (KS, mk_u2 (mk_u2 m 2 len (nI (byt x s))) 1 1 (nI (len + 1)), q) := by
  rw [B_X8_add_3]
  rcases hs with h2 | h2 | h2 | h2 <;> subst h2 <;> simp (disch := omega) only [ob_some, reduceIte, lit, le_T, le_F, lt_T, lt_F, eq_T, eq_F, nI_add, gac_0_0, gac_0_1, gac_0_2, gac_0_3, gac_0_4, gac_0_5, gac_0_6, gac_1_0, gic_1_1, gic_1_2, gic_1_3, gic_1_4, gic_1_5, gic_1_6, gac_3_0, gic_3_1, gic_3_2, gic_3_3, gic_3_4, gic_3_5, gic_3_6, gic_3_7, gic_5_0, gic_5_1, gic_5_2, gic_5_3, gic_5_4, gac_5_5, gac_5_6, gac_5_7, gac_5_8, gac_5_9, gac_5_10, gac_5_11, gac_13_0, gac_13_1, gic_13_2, gac_13_3, gac_13_4, gac_13_5, gac_13_6, gac_13_7, gac_13_8, gac_13_9, gic_13_10, gic_13_11, gic_13_12, gic_13_13, gac_14_0, gac_14_1, gac_14_2, gac_14_3, gic_14_4, gic_14_5, gic_15_0, gic_15_1, gic_15_2, gic_15_3, gic_15_4, gac_15_5, gac_15_6, gac_15_7, gac_15_8, gac_15_9, gac_15_10, gac_15_11, gac_23_0, gac_23_1, gac_23_2, gac_23_3, gac_23_4, gac_23_5, gac_23_6, gic_23_7, gic_23_8, gac_31_0, gic_31_1, gic_31_2, gac_193_0, gac_193_1, gac_193_2, gic_193_3, gac_198_0, gac_200_0, gac_200_1, gac_200_2, gac_200_3, gac_200_4, gac_200_5, gac_200_6, gic_200_7, gic_200_8, pic_1_1, pic_1_2, pic_1_3, pic_1_4, pic_1_5, pic_1_6, pic_3_1, pic_3_2, pic_3_3, pic_3_4, pic_3_5, pic_3_6, pic_3_7, pic_5_0, pic_5_1, pic_5_2, pic_5_3, pic_5_4, pic_13_2, pic_13_10, pic_13_11, pic_13_12, pic_13_13, pic_14_4, pic_14_5, pic_15_0, pic_15_1, pic_15_2, pic_15_3, pic_15_4, pic_23_7, pic_23_8, pic_31_1, pic_31_2, pic_193_3, pic_200_7, pic_200_8, gdc_0, gdc_1, gdc_3, gdc_5, gdc_13, gdc_14, gdc_15, gdc_23, gdc_31, gdc_193, gdc_198, gdc_200, ldc_2, stc_2, ldc_4, stc_4, ldc_6, stc_6, ldc_7, stc_7, ldc_8, stc_8, ldc_9, stc_9, ldc_10, stc_10, ldc_11, stc_11, ldc_12, stc_12, ldc_16, stc_16, ldc_17, stc_17, ldc_18, stc_18, ldc_19, stc_19, ldc_20, stc_20, ldc_21, stc_21, ldc_22, stc_22, ldc_24, stc_24, ldc_25, stc_25, ldc_26, stc_26, ldc_27, stc_27, ldc_28, stc_28, ldc_29, stc_29, ldc_30, stc_30, ldc_194, stc_194, ldc_195, stc_195, ldc_196, stc_196, ldc_199, stc_199, ldc_201, stc_201, ldc_202, stc_202, ldc_203, stc_203, ldc_204, stc_204, ldc_205, stc_205, ldc_206, stc_206, ldc_207, stc_207, ldc_208, stc_208, ldc_209, stc_209, ldc_210, stc_210, ldc_211, stc_211, ldc_213, stc_213, ldc_214, stc_214, ldc_215, stc_215, ldc_216, stc_216, ldc_217, stc_217, ldc_218, stc_218, ldc_219, stc_219, ldc_263, stc_263, lda_197, lda_262, lda_212, lda_32, u2_s, u2_a, u2_b, h, B_X8_add_43, sh24, sh16, sh8, sh0]
set_option maxRecDepth 4000 in
theorem addC {m : Nat → Nat → Int32} {q : Nat → Nat → Int64} {len : Nat} (x : Int32) (h : m 1 1 = nI len) (hl : len + 4 ≤ 400) : ∃ m1, F_X8_add 1 x (KS, m, q) = some ((), (KS, m1, q)) ∧ (∀ i, i ≠ 1 → i ≠ 2 → m1 i = m i) ∧ m1 1 1 = nI (len + 4) ∧ (∀ k, k < len → m1 2 k = m 2 k) ∧ (∀ k, k < 4 → m1 2 (len + k) = nI (byt x (24 - 8 * k))) := by
  refine ⟨mk_u2 (mk_u2 (mk_u2 (mk_u2 (mk_u2 (mk_u2 (mk_u2 (mk_u2 m 2 len (nI (byt x 24))) 1 1 (nI (len + 1))) 2 (len + 1) (nI (byt x 16))) 1 1 (nI (len + 2))) 2 (len + 2) (nI (byt x 8))) 1 1 (nI (len + 3))) 2 (len + 3) (nI (byt x 0))) 1 1 (nI (len + 4)), ?_, ?_, u2_s, ?_, ?_⟩
  · unfold F_X8_add
    rw [gdc_1]
    have s1 : nI 24 + -nI 8 = nI 16 := by decide
    have s2 : nI 16 + -nI 8 = nI 8 := by decide
    have s3 : nI 8 + -nI 8 = nI 0 := by decide
    have s4 : (nI 0 + -nI 8 < 0) = True := eq_true (by decide)
    refine Eq.trans (addC1 (s := 24) 99999 h (by omega) (by omega)) ?_
    rw [s1]
    refine Eq.trans (addC1 (len := len + 1) 99998 u2_s (by omega) (by omega)) ?_
    rw [s2]
    refine Eq.trans (addC1 (len := len + 2) 99997 u2_s (by omega) (by omega)) ?_
    rw [s3]
    refine Eq.trans (addC1 (len := len + 3) 99996 u2_s (by omega) (by omega)) ?_
    rw [B_X8_add_3]
    simp only [s4, reduceIte]
  · intro i h1 h2
    simp only [mk_u2_ne h1, mk_u2_ne h2]
  · intro k hk
    simp (disch := omega) only [u2_s, u2_a, u2_b]
  · intro k hk
    rcases (show k = 0 ∨ k = 1 ∨ k = 2 ∨ k = 3 by omega) with e | e | e | e <;> subst e <;> simp (disch := omega) only [u2_s, u2_a, u2_b, Nat.add_zero]
set_option maxRecDepth 4000 in
theorem putM1 {m : Nat → Nat → Int32} {q : Nat → Nat → Int64} {x : Int32} {len s : Nat} (f : Nat) (h : m 996 27 = nI len) (hl : len < 400) (hs : s = 0 ∨ s = 8 ∨ s = 16 ∨ s = 24) : B_X12_put_3 (f + 1) 996 x (nI s) (KS, m, q) = B_X12_put_3 f 996 x (nI s + -nI 8) (KS, mk_u2 (mk_u2 m 1023 len (mk_nar 102 (nI (byt x s)))) 996 27 (nI (len + 1)), q) := by
  rw [B_X12_put_3]
  have hb := as_byte x s hs
  have hnn : mk_nar 102 (mk_nar 102 (nI (byt x s))) = mk_nar 102 (nI (byt x s)) := by
    have e : ∀ z : Int32, mk_nar 102 z = z.toInt8.toInt32 := fun _ => rfl
    simp only [e, Int8.toInt8_toInt32]
  simp (disch := omega) only [gdm, gam_1, gam_2, gam_3, gam_4, gam_5, gam_6, gam_7, gam_8, gam_9, gam_10, gam_11, gam_12, gam_13, gam_14, gam_15, gam_16, gam_17, gam_18, gam_19, gam_20, gam_21, gam_22, gam_23, gam_24, gam_25, gam_26, gam_37, gam_38, gam_39, gam_40, gam_41, gam_42, gam_43, gam_44, gam_45, gam_46, gam_48, gam_49, gam_56, gam_57, gam_58, gam_59, gam_60, gam_61, gim_27, gim_28, gim_29, gim_30, gim_31, gim_32, gim_33, gim_34, gim_35, gim_36, gim_47, gim_50, gim_51, gim_52, gim_53, gim_54, gim_55, gim_62, gim_63, ob_some, reduceIte, lit, le_T, le_F, lt_T, lt_F, eq_T, eq_F, nI_add, ldm_997, stm_997, ldm_998, stm_998, ldm_999, stm_999, ldm_1000, stm_1000, ldm_1001, stm_1001, ldm_1002, stm_1002, ldm_1003, stm_1003, ldm_1004, stm_1004, ldm_1005, stm_1005, ldm_1006, stm_1006, ldm_1007, stm_1007, ldm_1008, stm_1008, ldm_1009, stm_1009, ldm_1010, stm_1010, ldm_1011, stm_1011, ldm_1012, stm_1012, ldm_1013, stm_1013, ldm_1014, stm_1014, ldm_1015, stm_1015, ldm_1016, stm_1016, ldm_1017, stm_1017, ldm_1018, stm_1018, ldm_1019, stm_1019, ldm_1020, stm_1020, ldm_1021, stm_1021, ldm_1022, stm_1022, u2_s, u2_a, u2_b, not_true, not_false_iff, stm_1023, pim_27, h, hb, hnn]
set_option maxRecDepth 4000 in
theorem putM {m : Nat → Nat → Int32} {q : Nat → Nat → Int64} {len : Nat} (x : Int32) (h : m 996 27 = nI len) (hl : len + 4 ≤ 400) : ∃ m1, F_X12_put 996 x (KS, m, q) = some ((), (KS, m1, q)) ∧ (∀ i, i ≠ 996 → i ≠ 1023 → m1 i = m i) ∧ (∀ k, k ≠ 27 → m1 996 k = m 996 k) ∧ m1 996 27 = nI (len + 4) ∧ (∀ k, k < len → m1 1023 k = m 1023 k) ∧ (∀ k, k < 4 → m1 1023 (len + k) = mk_nar 102 (nI (byt x (24 - 8 * k)))) := by
  refine ⟨mk_u2 (mk_u2 (mk_u2 (mk_u2 (mk_u2 (mk_u2 (mk_u2 (mk_u2 m 1023 len (mk_nar 102 (nI (byt x 24)))) 996 27 (nI (len + 1))) 1023 (len + 1) (mk_nar 102 (nI (byt x 16)))) 996 27 (nI (len + 2))) 1023 (len + 2) (mk_nar 102 (nI (byt x 8)))) 996 27 (nI (len + 3))) 1023 (len + 3) (mk_nar 102 (nI (byt x 0)))) 996 27 (nI (len + 4)), ?_, ?_, ?_, u2_s, ?_, ?_⟩
  · unfold F_X12_put
    rw [gdm]
    have s1 : nI 24 + -nI 8 = nI 16 := by decide
    have s2 : nI 16 + -nI 8 = nI 8 := by decide
    have s3 : nI 8 + -nI 8 = nI 0 := by decide
    have s4 : (nI 0 + -nI 8 < 0) = True := eq_true (by decide)
    refine Eq.trans (putM1 (s := 24) 99999 h (by omega) (by omega)) ?_
    rw [s1]
    refine Eq.trans (putM1 (len := len + 1) 99998 u2_s (by omega) (by omega)) ?_
    rw [s2]
    refine Eq.trans (putM1 (len := len + 2) 99997 u2_s (by omega) (by omega)) ?_
    rw [s3]
    refine Eq.trans (putM1 (len := len + 3) 99996 u2_s (by omega) (by omega)) ?_
    rw [B_X12_put_3]
    simp only [s4, reduceIte]
  · intro i h1 h2
    simp only [mk_u2_ne h1, mk_u2_ne h2]
  · intro k hk
    simp (disch := omega) only [u2_s, u2_a, u2_b]
  · intro k hk
    simp (disch := omega) only [u2_s, u2_a, u2_b]
  · intro k hk
    rcases (show k = 0 ∨ k = 1 ∨ k = 2 ∨ k = 3 by omega) with e | e | e | e <;> subst e <;> simp (disch := omega) only [u2_s, u2_a, u2_b, Nat.add_zero]
set_option maxRecDepth 4000 in
theorem CI.tape {len len1 : Nat} {by_ by1 : Nat → Nat} {R : Nat × (Nat → RT)} {W : WT} {IM : Nat → WT} {md : Nat → Bool} {m m1 : Nat → Nat → Int32} (h : CI ((len, by_), R, W, IM, md) m) (e : ∀ i, i ≠ 1 → i ≠ 2 → i < 996 → m1 i = m i) (h1 : m1 1 1 = nI len1) (h2 : len1 ≤ 400) (h3 : ∀ i, i < len1 → m1 2 i = nI (by1 i) ∧ by1 i < 256) : CI ((len1, by1), R, W, IM, md) m1 := by
  obtain ⟨nr, RS⟩ := R
  obtain ⟨⟨ct1, ct2, ct3⟩, ⟨cr1, cr2, cr3⟩, ⟨cW, cwf⟩, cm1, cm2⟩ := h
  refine ⟨⟨h1, h2, h3⟩, ⟨by rw [e _ (by omega) (by omega) (by omega)]; exact cr1, cr2, fun r hr => (cr3 r hr).congr (fun i h1 h2 => e i (by omega) (by omega) (by omega))⟩, ⟨cW.congr (fun i h1 h2 => e i (by omega) (by omega) (by omega)), cwf⟩, by rw [e _ (by omega) (by omega) (by omega)]; exact cm1, fun k hk hm => ⟨(cm2 k hk hm).1.congr (fun i h1 h2 => e i (by omega) (by omega) (by omega)), (cm2 k hk hm).2⟩⟩
set_option maxRecDepth 4000 in
theorem MI.tape {len len1 : Nat} {by_ by1 : Nat → Nat} {R : Nat × (Nat → RT)} {W : WT} {IM : Nat → WT} {md : Nat → Bool} {m m1 : Nat → Nat → Int32} (h : MI ((len, by_), R, W, IM, md) m) (e : ∀ i, i ≠ 996 → i ≠ 1023 → 996 ≤ i → i < 1041 → m1 i = m i) (e96 : ∀ k, k ≠ 27 → m1 996 k = m 996 k) (h1 : m1 996 27 = nI len1) (h3 : ∀ i, i < len1 → m1 1023 i = mk_nar 102 (nI (by1 i))) : MI ((len1, by1), R, W, IM, md) m1 := by
  obtain ⟨nr, RS⟩ := R
  obtain ⟨⟨mt1, mt2⟩, ⟨mr1, mr2⟩, mW, mm1, mm2, mw, ms⟩ := h
  refine ⟨⟨h1, h3⟩, ⟨(e96 _ (by omega)).trans mr1, fun r hr => (mr2 r hr).congr (fun i h1 h2 => e i (by omega) (by omega) (by omega) (by omega))⟩, mW.congr (nv_congr (e96 _ (by omega)) (fun j k h1 _ => by rw [e _ (by omega) (by omega) (by omega) (by omega)]) (fun i h1 h2 => e i (by omega) (by omega) (by omega) (by omega)) (e _ (by omega) (by omega) (by omega) (by omega))), by rw [e _ (by omega) (by omega) (by omega) (by omega)]; exact mm1, fun k hk hm => (mm2 k hk hm).congr (iv_congr hk (fun k _ => by rw [e _ (by omega) (by omega) (by omega) (by omega)])), (e96 _ (by omega)).trans mw, (e96 _ (by omega)).trans ms⟩
set_option maxRecDepth 4000 in
theorem op_end (x1 : Int32) : OP (F_X11_end 0 x1) (F_X12_end 996 x1) := by
  intro m q hI
  obtain ⟨⟨⟨⟨len, by_⟩, ⟨nr, RS⟩, ⟨P, A, H, n, N, nn, fo, x⟩, IM, md⟩, hC, hM⟩, hE⟩ := id hI
  obtain ⟨⟨ct1, ct2, ct3⟩, ⟨cr1, cr2, cr3⟩, ⟨⟨cP, ⟨cA, cAh⟩, cH, ⟨cn1, cn2⟩, ⟨cf1, cf2⟩, ⟨cx1, cx2⟩⟩, cwf⟩, cm1, cm2⟩ := id hC
  obtain ⟨⟨mt1, mt2⟩, ⟨mr1, mr2⟩, ⟨mP, ⟨mA, mAh⟩, ⟨mh1, mh2, mh3⟩, ⟨mn1, mn2⟩, ⟨mf1, mf2⟩, ⟨mx1, mx2⟩⟩, mm1, mm2, mw, ms⟩ := id hM
  have cP5 : m 15 0 = nI (P 0 0) ∧ m 15 1 = nI (P 0 1) ∧ m 15 2 = nI (P 0 2) ∧ m 15 3 = nI (P 0 3) ∧ m 15 4 = nI (P 0 4) := cP.five
  have mP5 : m 997 0 = nI (P 0 0) ∧ m 997 1 = nI (P 0 1) ∧ m 997 2 = nI (P 0 2) ∧ m 997 3 = nI (P 0 3) ∧ m 997 4 = nI (P 0 4) := mP.five
  obtain ⟨B0, B1, B2, B3, B4, B5⟩ := cP.bd
  rcases within_CL x1 0 len (by omega) (by omega) with ⟨j, -, hj, rfl⟩ | hno
  · refine ⟨nI j, mk_u2 m 1 1 (nI j), q, mk_u2 (mk_u2 m 1 1 (nI j)) 996 27 (nI j), q, ?_, ?_, ⟨⟨((j, by_), (nr, RS), (P, A, H, n, N, nn, fo, x), IM, md), ?_, ?_⟩, hE.up ?_⟩, ?_⟩
    · unfold F_X11_end; simp (disch := omega) only [ob_some, reduceIte, lit, le_T, le_F, lt_T, lt_F, eq_T, eq_F, nI_add, gac_0_0, gac_0_1, gac_0_2, gac_0_3, gac_0_4, gac_0_5, gac_0_6, gac_1_0, gic_1_1, gic_1_2, gic_1_3, gic_1_4, gic_1_5, gic_1_6, gac_3_0, gic_3_1, gic_3_2, gic_3_3, gic_3_4, gic_3_5, gic_3_6, gic_3_7, gic_5_0, gic_5_1, gic_5_2, gic_5_3, gic_5_4, gac_5_5, gac_5_6, gac_5_7, gac_5_8, gac_5_9, gac_5_10, gac_5_11, gac_13_0, gac_13_1, gic_13_2, gac_13_3, gac_13_4, gac_13_5, gac_13_6, gac_13_7, gac_13_8, gac_13_9, gic_13_10, gic_13_11, gic_13_12, gic_13_13, gac_14_0, gac_14_1, gac_14_2, gac_14_3, gic_14_4, gic_14_5, gic_15_0, gic_15_1, gic_15_2, gic_15_3, gic_15_4, gac_15_5, gac_15_6, gac_15_7, gac_15_8, gac_15_9, gac_15_10, gac_15_11, gac_23_0, gac_23_1, gac_23_2, gac_23_3, gac_23_4, gac_23_5, gac_23_6, gic_23_7, gic_23_8, gac_31_0, gic_31_1, gic_31_2, gac_193_0, gac_193_1, gac_193_2, gic_193_3, gac_198_0, gac_200_0, gac_200_1, gac_200_2, gac_200_3, gac_200_4, gac_200_5, gac_200_6, gic_200_7, gic_200_8, pic_1_1, pic_1_2, pic_1_3, pic_1_4, pic_1_5, pic_1_6, pic_3_1, pic_3_2, pic_3_3, pic_3_4, pic_3_5, pic_3_6, pic_3_7, pic_5_0, pic_5_1, pic_5_2, pic_5_3, pic_5_4, pic_13_2, pic_13_10, pic_13_11, pic_13_12, pic_13_13, pic_14_4, pic_14_5, pic_15_0, pic_15_1, pic_15_2, pic_15_3, pic_15_4, pic_23_7, pic_23_8, pic_31_1, pic_31_2, pic_193_3, pic_200_7, pic_200_8, gdc_0, gdc_1, gdc_3, gdc_5, gdc_13, gdc_14, gdc_15, gdc_23, gdc_31, gdc_193, gdc_198, gdc_200, ldc_2, stc_2, ldc_4, stc_4, ldc_6, stc_6, ldc_7, stc_7, ldc_8, stc_8, ldc_9, stc_9, ldc_10, stc_10, ldc_11, stc_11, ldc_12, stc_12, ldc_16, stc_16, ldc_17, stc_17, ldc_18, stc_18, ldc_19, stc_19, ldc_20, stc_20, ldc_21, stc_21, ldc_22, stc_22, ldc_24, stc_24, ldc_25, stc_25, ldc_26, stc_26, ldc_27, stc_27, ldc_28, stc_28, ldc_29, stc_29, ldc_30, stc_30, ldc_194, stc_194, ldc_195, stc_195, ldc_196, stc_196, ldc_199, stc_199, ldc_201, stc_201, ldc_202, stc_202, ldc_203, stc_203, ldc_204, stc_204, ldc_205, stc_205, ldc_206, stc_206, ldc_207, stc_207, ldc_208, stc_208, ldc_209, stc_209, ldc_210, stc_210, ldc_211, stc_211, ldc_213, stc_213, ldc_214, stc_214, ldc_215, stc_215, ldc_216, stc_216, ldc_217, stc_217, ldc_218, stc_218, ldc_219, stc_219, ldc_263, stc_263, lda_197, lda_262, lda_212, lda_32, u2_s, u2_a, u2_b, ct1, within_TL]
    · unfold F_X12_end; simp (disch := omega) only [gdm, gam_1, gam_2, gam_3, gam_4, gam_5, gam_6, gam_7, gam_8, gam_9, gam_10, gam_11, gam_12, gam_13, gam_14, gam_15, gam_16, gam_17, gam_18, gam_19, gam_20, gam_21, gam_22, gam_23, gam_24, gam_25, gam_26, gam_37, gam_38, gam_39, gam_40, gam_41, gam_42, gam_43, gam_44, gam_45, gam_46, gam_48, gam_49, gam_56, gam_57, gam_58, gam_59, gam_60, gam_61, gim_27, gim_28, gim_29, gim_30, gim_31, gim_32, gim_33, gim_34, gim_35, gim_36, gim_47, gim_50, gim_51, gim_52, gim_53, gim_54, gim_55, gim_62, gim_63, ob_some, reduceIte, lit, le_T, le_F, lt_T, lt_F, eq_T, eq_F, nI_add, ldm_997, stm_997, ldm_998, stm_998, ldm_999, stm_999, ldm_1000, stm_1000, ldm_1001, stm_1001, ldm_1002, stm_1002, ldm_1003, stm_1003, ldm_1004, stm_1004, ldm_1005, stm_1005, ldm_1006, stm_1006, ldm_1007, stm_1007, ldm_1008, stm_1008, ldm_1009, stm_1009, ldm_1010, stm_1010, ldm_1011, stm_1011, ldm_1012, stm_1012, ldm_1013, stm_1013, ldm_1014, stm_1014, ldm_1015, stm_1015, ldm_1016, stm_1016, ldm_1017, stm_1017, ldm_1018, stm_1018, ldm_1019, stm_1019, ldm_1020, stm_1020, ldm_1021, stm_1021, ldm_1022, stm_1022, u2_s, u2_a, u2_b, not_true, not_false_iff, pim_27, mt1]
    · refine CI.tape (m := m) hC (fun i h1 h2 h3 => ?_) ?_ (by omega) (fun i hi => ?_)
      · rw [mk_u2_ne (by omega), mk_u2_ne (by omega)]
      · rw [u2_a (by omega), u2_s]
      · rw [u2_a (by omega), u2_a (by omega)]; exact ct3 i (by omega)
    · refine MI.tape (m := m) hM (fun i h1 h2 h3 _ => ?_) (fun k hk => ?_) u2_s (fun i hi => ?_)
      · rw [mk_u2_ne (by omega), mk_u2_ne (by omega)]
      · rw [u2_b hk, u2_a (by omega)]
      · rw [u2_a (by omega), u2_a (by omega)]; exact mt2 i (by omega)
    · intro i hi; rw [mk_u2_ne (by omega), mk_u2_ne (by omega)]
    · intro i hi; rw [mk_u2_ne (by omega), mk_u2_ne (by omega)]
  · have hno2 := hno (KS, m, q)
    refine ⟨-nI 1, m, q, m, q, ?_, ?_, hI, fun _ _ => rfl⟩
    · unfold F_X11_end; simp (disch := omega) only [ob_some, reduceIte, lit, le_T, le_F, lt_T, lt_F, eq_T, eq_F, nI_add, gac_0_0, gac_0_1, gac_0_2, gac_0_3, gac_0_4, gac_0_5, gac_0_6, gac_1_0, gic_1_1, gic_1_2, gic_1_3, gic_1_4, gic_1_5, gic_1_6, gac_3_0, gic_3_1, gic_3_2, gic_3_3, gic_3_4, gic_3_5, gic_3_6, gic_3_7, gic_5_0, gic_5_1, gic_5_2, gic_5_3, gic_5_4, gac_5_5, gac_5_6, gac_5_7, gac_5_8, gac_5_9, gac_5_10, gac_5_11, gac_13_0, gac_13_1, gic_13_2, gac_13_3, gac_13_4, gac_13_5, gac_13_6, gac_13_7, gac_13_8, gac_13_9, gic_13_10, gic_13_11, gic_13_12, gic_13_13, gac_14_0, gac_14_1, gac_14_2, gac_14_3, gic_14_4, gic_14_5, gic_15_0, gic_15_1, gic_15_2, gic_15_3, gic_15_4, gac_15_5, gac_15_6, gac_15_7, gac_15_8, gac_15_9, gac_15_10, gac_15_11, gac_23_0, gac_23_1, gac_23_2, gac_23_3, gac_23_4, gac_23_5, gac_23_6, gic_23_7, gic_23_8, gac_31_0, gic_31_1, gic_31_2, gac_193_0, gac_193_1, gac_193_2, gic_193_3, gac_198_0, gac_200_0, gac_200_1, gac_200_2, gac_200_3, gac_200_4, gac_200_5, gac_200_6, gic_200_7, gic_200_8, pic_1_1, pic_1_2, pic_1_3, pic_1_4, pic_1_5, pic_1_6, pic_3_1, pic_3_2, pic_3_3, pic_3_4, pic_3_5, pic_3_6, pic_3_7, pic_5_0, pic_5_1, pic_5_2, pic_5_3, pic_5_4, pic_13_2, pic_13_10, pic_13_11, pic_13_12, pic_13_13, pic_14_4, pic_14_5, pic_15_0, pic_15_1, pic_15_2, pic_15_3, pic_15_4, pic_23_7, pic_23_8, pic_31_1, pic_31_2, pic_193_3, pic_200_7, pic_200_8, gdc_0, gdc_1, gdc_3, gdc_5, gdc_13, gdc_14, gdc_15, gdc_23, gdc_31, gdc_193, gdc_198, gdc_200, ldc_2, stc_2, ldc_4, stc_4, ldc_6, stc_6, ldc_7, stc_7, ldc_8, stc_8, ldc_9, stc_9, ldc_10, stc_10, ldc_11, stc_11, ldc_12, stc_12, ldc_16, stc_16, ldc_17, stc_17, ldc_18, stc_18, ldc_19, stc_19, ldc_20, stc_20, ldc_21, stc_21, ldc_22, stc_22, ldc_24, stc_24, ldc_25, stc_25, ldc_26, stc_26, ldc_27, stc_27, ldc_28, stc_28, ldc_29, stc_29, ldc_30, stc_30, ldc_194, stc_194, ldc_195, stc_195, ldc_196, stc_196, ldc_199, stc_199, ldc_201, stc_201, ldc_202, stc_202, ldc_203, stc_203, ldc_204, stc_204, ldc_205, stc_205, ldc_206, stc_206, ldc_207, stc_207, ldc_208, stc_208, ldc_209, stc_209, ldc_210, stc_210, ldc_211, stc_211, ldc_213, stc_213, ldc_214, stc_214, ldc_215, stc_215, ldc_216, stc_216, ldc_217, stc_217, ldc_218, stc_218, ldc_219, stc_219, ldc_263, stc_263, lda_197, lda_262, lda_212, lda_32, u2_s, u2_a, u2_b, ct1, hno]
    · unfold F_X12_end
      by_cases h0 : x1 < 0
      · have h0' : x1 < nI 0 := h0
        simp (disch := omega) only [gdm, gam_1, gam_2, gam_3, gam_4, gam_5, gam_6, gam_7, gam_8, gam_9, gam_10, gam_11, gam_12, gam_13, gam_14, gam_15, gam_16, gam_17, gam_18, gam_19, gam_20, gam_21, gam_22, gam_23, gam_24, gam_25, gam_26, gam_37, gam_38, gam_39, gam_40, gam_41, gam_42, gam_43, gam_44, gam_45, gam_46, gam_48, gam_49, gam_56, gam_57, gam_58, gam_59, gam_60, gam_61, gim_27, gim_28, gim_29, gim_30, gim_31, gim_32, gim_33, gim_34, gim_35, gim_36, gim_47, gim_50, gim_51, gim_52, gim_53, gim_54, gim_55, gim_62, gim_63, ob_some, reduceIte, lit, le_T, le_F, lt_T, lt_F, eq_T, eq_F, nI_add, ldm_997, stm_997, ldm_998, stm_998, ldm_999, stm_999, ldm_1000, stm_1000, ldm_1001, stm_1001, ldm_1002, stm_1002, ldm_1003, stm_1003, ldm_1004, stm_1004, ldm_1005, stm_1005, ldm_1006, stm_1006, ldm_1007, stm_1007, ldm_1008, stm_1008, ldm_1009, stm_1009, ldm_1010, stm_1010, ldm_1011, stm_1011, ldm_1012, stm_1012, ldm_1013, stm_1013, ldm_1014, stm_1014, ldm_1015, stm_1015, ldm_1016, stm_1016, ldm_1017, stm_1017, ldm_1018, stm_1018, ldm_1019, stm_1019, ldm_1020, stm_1020, ldm_1021, stm_1021, ldm_1022, stm_1022, u2_s, u2_a, u2_b, not_true, not_false_iff, h0']
      · have h0' : ¬ x1 < nI 0 := h0
        have h1 : 0 ≤ x1.toInt := by have := mt Int32.lt_iff_toInt_lt.mpr h0; simpa using this
        obtain ⟨j, hj, rfl, -⟩ := nI_of0 h1
        have h2 : ¬ j ≤ len := fun h => within_ne hno (j := j) (by omega) h (by omega) rfl
        simp (disch := omega) only [gdm, gam_1, gam_2, gam_3, gam_4, gam_5, gam_6, gam_7, gam_8, gam_9, gam_10, gam_11, gam_12, gam_13, gam_14, gam_15, gam_16, gam_17, gam_18, gam_19, gam_20, gam_21, gam_22, gam_23, gam_24, gam_25, gam_26, gam_37, gam_38, gam_39, gam_40, gam_41, gam_42, gam_43, gam_44, gam_45, gam_46, gam_48, gam_49, gam_56, gam_57, gam_58, gam_59, gam_60, gam_61, gim_27, gim_28, gim_29, gim_30, gim_31, gim_32, gim_33, gim_34, gim_35, gim_36, gim_47, gim_50, gim_51, gim_52, gim_53, gim_54, gim_55, gim_62, gim_63, ob_some, reduceIte, lit, le_T, le_F, lt_T, lt_F, eq_T, eq_F, nI_add, ldm_997, stm_997, ldm_998, stm_998, ldm_999, stm_999, ldm_1000, stm_1000, ldm_1001, stm_1001, ldm_1002, stm_1002, ldm_1003, stm_1003, ldm_1004, stm_1004, ldm_1005, stm_1005, ldm_1006, stm_1006, ldm_1007, stm_1007, ldm_1008, stm_1008, ldm_1009, stm_1009, ldm_1010, stm_1010, ldm_1011, stm_1011, ldm_1012, stm_1012, ldm_1013, stm_1013, ldm_1014, stm_1014, ldm_1015, stm_1015, ldm_1016, stm_1016, ldm_1017, stm_1017, ldm_1018, stm_1018, ldm_1019, stm_1019, ldm_1020, stm_1020, ldm_1021, stm_1021, ldm_1022, stm_1022, u2_s, u2_a, u2_b, not_true, not_false_iff, h0', mt1]
set_option maxRecDepth 4000 in
theorem op_feed (a b c d e5 : Int32) : OP (F_X11_feed 0 a b c d e5) (F_X12_feed 996 a b c d e5) := by
  intro m q hI
  obtain ⟨⟨⟨⟨len, by_⟩, ⟨nr, RS⟩, ⟨P, A, H, n, N, nn, fo, x⟩, IM, md⟩, hC, hM⟩, hE⟩ := id hI
  obtain ⟨⟨ct1, ct2, ct3⟩, ⟨cr1, cr2, cr3⟩, ⟨⟨cP, ⟨cA, cAh⟩, cH, ⟨cn1, cn2⟩, ⟨cf1, cf2⟩, ⟨cx1, cx2⟩⟩, cwf⟩, cm1, cm2⟩ := id hC
  obtain ⟨⟨mt1, mt2⟩, ⟨mr1, mr2⟩, ⟨mP, ⟨mA, mAh⟩, ⟨mh1, mh2, mh3⟩, ⟨mn1, mn2⟩, ⟨mf1, mf2⟩, ⟨mx1, mx2⟩⟩, mm1, mm2, mw, ms⟩ := id hM
  have cP5 : m 15 0 = nI (P 0 0) ∧ m 15 1 = nI (P 0 1) ∧ m 15 2 = nI (P 0 2) ∧ m 15 3 = nI (P 0 3) ∧ m 15 4 = nI (P 0 4) := cP.five
  have mP5 : m 997 0 = nI (P 0 0) ∧ m 997 1 = nI (P 0 1) ∧ m 997 2 = nI (P 0 2) ∧ m 997 3 = nI (P 0 3) ∧ m 997 4 = nI (P 0 4) := mP.five
  obtain ⟨B0, B1, B2, B3, B4, B5⟩ := cP.bd
  by_cases hl : len + 20 ≤ 400
  · obtain ⟨m1, a1, a2, a3, a4, a5⟩ := addC (q := q) a ct1 (by omega)
    obtain ⟨m2, b1, b2, b3, b4, b5⟩ := addC (q := q) b a3 (by omega)
    obtain ⟨m3, c1, c2, c3, c4, c5⟩ := addC (q := q) c b3 (by omega)
    obtain ⟨m4, d1, d2, d3, d4, d5⟩ := addC (q := q) d c3 (by omega)
    obtain ⟨m5, f1, f2, f3, f4, f5⟩ := addC (q := q) e5 d3 (by omega)
    have e : ∀ i, i ≠ 1 → i ≠ 2 → m5 i = m i := fun i h1 h2 => by rw [f2 i h1 h2, d2 i h1 h2, c2 i h1 h2, b2 i h1 h2, a2 i h1 h2]
    obtain ⟨n1, A1, A2, A6, A3, A4, A5⟩ := putM (m := m5) (q := q) a (by rw [e _ (by omega) (by omega)]; exact mt1) (by omega)
    obtain ⟨n2, B1, B2, B6, B3, B4, B5⟩ := putM (q := q) b A3 (by omega)
    obtain ⟨n3, C1, C2, C6, C3, C4, C5⟩ := putM (q := q) c B3 (by omega)
    obtain ⟨n4, D1, D2, D6, D3, D4, D5⟩ := putM (q := q) d C3 (by omega)
    obtain ⟨n5, E1, E2, E6, E3, E4, E5⟩ := putM (q := q) e5 D3 (by omega)
    have e2 : ∀ i, i ≠ 996 → i ≠ 1023 → n5 i = m5 i := fun i h1 h2 => by rw [E2 i h1 h2, D2 i h1 h2, C2 i h1 h2, B2 i h1 h2, A2 i h1 h2]
    have e3 : ∀ k, k ≠ 27 → n5 996 k = m5 996 k := fun k h => by rw [E6 k h, D6 k h, C6 k h, B6 k h, A6 k h]
    let by1 : Nat → Nat := fun i => if i < len then by_ i else if i < len + 4 then byt a (24 - 8 * (i - len)) else if i < len + 8 then byt b (24 - 8 * (i - (len + 4))) else if i < len + 12 then byt c (24 - 8 * (i - (len + 8))) else if i < len + 16 then byt d (24 - 8 * (i - (len + 12))) else byt e5 (24 - 8 * (i - (len + 16)))
    refine ⟨nI (len + 20), m5, q, n5, q, ?_, ?_, ⟨⟨((len + 20, by1), (nr, RS), (P, A, H, n, N, nn, fo, x), IM, md), ?_, ?_⟩, hE.up ?_⟩, ?_⟩
    · unfold F_X11_feed; simp (disch := omega) only [ob_some, reduceIte, lit, le_T, le_F, lt_T, lt_F, eq_T, eq_F, nI_add, gac_0_0, gac_0_1, gac_0_2, gac_0_3, gac_0_4, gac_0_5, gac_0_6, gac_1_0, gic_1_1, gic_1_2, gic_1_3, gic_1_4, gic_1_5, gic_1_6, gac_3_0, gic_3_1, gic_3_2, gic_3_3, gic_3_4, gic_3_5, gic_3_6, gic_3_7, gic_5_0, gic_5_1, gic_5_2, gic_5_3, gic_5_4, gac_5_5, gac_5_6, gac_5_7, gac_5_8, gac_5_9, gac_5_10, gac_5_11, gac_13_0, gac_13_1, gic_13_2, gac_13_3, gac_13_4, gac_13_5, gac_13_6, gac_13_7, gac_13_8, gac_13_9, gic_13_10, gic_13_11, gic_13_12, gic_13_13, gac_14_0, gac_14_1, gac_14_2, gac_14_3, gic_14_4, gic_14_5, gic_15_0, gic_15_1, gic_15_2, gic_15_3, gic_15_4, gac_15_5, gac_15_6, gac_15_7, gac_15_8, gac_15_9, gac_15_10, gac_15_11, gac_23_0, gac_23_1, gac_23_2, gac_23_3, gac_23_4, gac_23_5, gac_23_6, gic_23_7, gic_23_8, gac_31_0, gic_31_1, gic_31_2, gac_193_0, gac_193_1, gac_193_2, gic_193_3, gac_198_0, gac_200_0, gac_200_1, gac_200_2, gac_200_3, gac_200_4, gac_200_5, gac_200_6, gic_200_7, gic_200_8, pic_1_1, pic_1_2, pic_1_3, pic_1_4, pic_1_5, pic_1_6, pic_3_1, pic_3_2, pic_3_3, pic_3_4, pic_3_5, pic_3_6, pic_3_7, pic_5_0, pic_5_1, pic_5_2, pic_5_3, pic_5_4, pic_13_2, pic_13_10, pic_13_11, pic_13_12, pic_13_13, pic_14_4, pic_14_5, pic_15_0, pic_15_1, pic_15_2, pic_15_3, pic_15_4, pic_23_7, pic_23_8, pic_31_1, pic_31_2, pic_193_3, pic_200_7, pic_200_8, gdc_0, gdc_1, gdc_3, gdc_5, gdc_13, gdc_14, gdc_15, gdc_23, gdc_31, gdc_193, gdc_198, gdc_200, ldc_2, stc_2, ldc_4, stc_4, ldc_6, stc_6, ldc_7, stc_7, ldc_8, stc_8, ldc_9, stc_9, ldc_10, stc_10, ldc_11, stc_11, ldc_12, stc_12, ldc_16, stc_16, ldc_17, stc_17, ldc_18, stc_18, ldc_19, stc_19, ldc_20, stc_20, ldc_21, stc_21, ldc_22, stc_22, ldc_24, stc_24, ldc_25, stc_25, ldc_26, stc_26, ldc_27, stc_27, ldc_28, stc_28, ldc_29, stc_29, ldc_30, stc_30, ldc_194, stc_194, ldc_195, stc_195, ldc_196, stc_196, ldc_199, stc_199, ldc_201, stc_201, ldc_202, stc_202, ldc_203, stc_203, ldc_204, stc_204, ldc_205, stc_205, ldc_206, stc_206, ldc_207, stc_207, ldc_208, stc_208, ldc_209, stc_209, ldc_210, stc_210, ldc_211, stc_211, ldc_213, stc_213, ldc_214, stc_214, ldc_215, stc_215, ldc_216, stc_216, ldc_217, stc_217, ldc_218, stc_218, ldc_219, stc_219, ldc_263, stc_263, lda_197, lda_262, lda_212, lda_32, u2_s, u2_a, u2_b, ct1, a1, b1, c1, d1, f1, f3]
    · have mt1' : m5 996 27 = nI len := by rw [e _ (by omega) (by omega)]; exact mt1
      unfold F_X12_feed; simp (disch := omega) only [gdm, gam_1, gam_2, gam_3, gam_4, gam_5, gam_6, gam_7, gam_8, gam_9, gam_10, gam_11, gam_12, gam_13, gam_14, gam_15, gam_16, gam_17, gam_18, gam_19, gam_20, gam_21, gam_22, gam_23, gam_24, gam_25, gam_26, gam_37, gam_38, gam_39, gam_40, gam_41, gam_42, gam_43, gam_44, gam_45, gam_46, gam_48, gam_49, gam_56, gam_57, gam_58, gam_59, gam_60, gam_61, gim_27, gim_28, gim_29, gim_30, gim_31, gim_32, gim_33, gim_34, gim_35, gim_36, gim_47, gim_50, gim_51, gim_52, gim_53, gim_54, gim_55, gim_62, gim_63, ob_some, reduceIte, lit, le_T, le_F, lt_T, lt_F, eq_T, eq_F, nI_add, ldm_997, stm_997, ldm_998, stm_998, ldm_999, stm_999, ldm_1000, stm_1000, ldm_1001, stm_1001, ldm_1002, stm_1002, ldm_1003, stm_1003, ldm_1004, stm_1004, ldm_1005, stm_1005, ldm_1006, stm_1006, ldm_1007, stm_1007, ldm_1008, stm_1008, ldm_1009, stm_1009, ldm_1010, stm_1010, ldm_1011, stm_1011, ldm_1012, stm_1012, ldm_1013, stm_1013, ldm_1014, stm_1014, ldm_1015, stm_1015, ldm_1016, stm_1016, ldm_1017, stm_1017, ldm_1018, stm_1018, ldm_1019, stm_1019, ldm_1020, stm_1020, ldm_1021, stm_1021, ldm_1022, stm_1022, u2_s, u2_a, u2_b, not_true, not_false_iff, mt1', A1, B1, C1, D1, E1, E3]
    · refine CI.same (m := m5) (CI.tape (m := m) hC (fun i h1 h2 _ => e i h1 h2) f3 (by omega) (fun i hi => ?_)) (fun i hi => e2 i (by omega) (by omega))
      show m5 2 i = nI (by1 i) ∧ by1 i < 256
      simp only [by1]
      by_cases g0 : i < len
      · rw [if_pos g0, f4 i (by omega), d4 i (by omega), c4 i (by omega), b4 i (by omega), a4 i g0]; exact ct3 i g0
      rw [if_neg g0]
      by_cases g1 : i < len + 4
      · obtain ⟨k, rfl⟩ : ∃ k, i = len + k := ⟨i - len, by omega⟩
        rw [if_pos g1, f4 _ (by omega), d4 _ (by omega), c4 _ (by omega), b4 _ (by omega), a5 k (by omega), Nat.add_sub_cancel_left]; exact ⟨rfl, byt_lt _ _⟩
      rw [if_neg g1]
      by_cases g2 : i < len + 8
      · obtain ⟨k, rfl⟩ : ∃ k, i = len + 4 + k := ⟨i - (len + 4), by omega⟩
        rw [if_pos g2, f4 _ (by omega), d4 _ (by omega), c4 _ (by omega), b5 k (by omega), Nat.add_sub_cancel_left]; exact ⟨rfl, byt_lt _ _⟩
      rw [if_neg g2]
      by_cases g3 : i < len + 12
      · obtain ⟨k, rfl⟩ : ∃ k, i = len + 8 + k := ⟨i - (len + 8), by omega⟩
        rw [if_pos g3, f4 _ (by omega), d4 _ (by omega), c5 k (by omega), Nat.add_sub_cancel_left]; exact ⟨rfl, byt_lt _ _⟩
      rw [if_neg g3]
      by_cases g4 : i < len + 16
      · obtain ⟨k, rfl⟩ : ∃ k, i = len + 12 + k := ⟨i - (len + 12), by omega⟩
        rw [if_pos g4, f4 _ (by omega), d5 k (by omega), Nat.add_sub_cancel_left]; exact ⟨rfl, byt_lt _ _⟩
      rw [if_neg g4]
      obtain ⟨k, rfl⟩ : ∃ k, i = len + 16 + k := ⟨i - (len + 16), by omega⟩
      rw [f5 k (by omega), Nat.add_sub_cancel_left]; exact ⟨rfl, byt_lt _ _⟩
    · have hM5 : MI ((len, by_), (nr, RS), (P, A, H, n, N, nn, fo, x), IM, md) m5 := MI.same hM (fun i h1 h2 => e i (by omega) (by omega))
      refine MI.tape (m := m5) hM5 (fun i h1 h2 _ _ => e2 i h1 h2) e3 E3 (fun i hi => ?_)
      have mt2' : ∀ i, i < len → m5 1023 i = mk_nar 102 (nI (by_ i)) := by rw [e _ (by omega) (by omega)]; exact mt2
      show n5 1023 i = mk_nar 102 (nI (by1 i))
      simp only [by1]
      by_cases g0 : i < len
      · rw [if_pos g0, E4 i (by omega), D4 i (by omega), C4 i (by omega), B4 i (by omega), A4 i g0]; exact mt2' i g0
      rw [if_neg g0]
      by_cases g1 : i < len + 4
      · obtain ⟨k, rfl⟩ : ∃ k, i = len + k := ⟨i - len, by omega⟩
        rw [if_pos g1, E4 _ (by omega), D4 _ (by omega), C4 _ (by omega), B4 _ (by omega), A5 k (by omega), Nat.add_sub_cancel_left]
      rw [if_neg g1]
      by_cases g2 : i < len + 8
      · obtain ⟨k, rfl⟩ : ∃ k, i = len + 4 + k := ⟨i - (len + 4), by omega⟩
        rw [if_pos g2, E4 _ (by omega), D4 _ (by omega), C4 _ (by omega), B5 k (by omega), Nat.add_sub_cancel_left]
      rw [if_neg g2]
      by_cases g3 : i < len + 12
      · obtain ⟨k, rfl⟩ : ∃ k, i = len + 8 + k := ⟨i - (len + 8), by omega⟩
        rw [if_pos g3, E4 _ (by omega), D4 _ (by omega), C5 k (by omega), Nat.add_sub_cancel_left]
      rw [if_neg g3]
      by_cases g4 : i < len + 16
      · obtain ⟨k, rfl⟩ : ∃ k, i = len + 12 + k := ⟨i - (len + 12), by omega⟩
        rw [if_pos g4, E4 _ (by omega), D5 k (by omega), Nat.add_sub_cancel_left]
      rw [if_neg g4]
      obtain ⟨k, rfl⟩ : ∃ k, i = len + 16 + k := ⟨i - (len + 16), by omega⟩
      rw [E5 k (by omega), Nat.add_sub_cancel_left]
    · intro i hi; rw [e2 i (by omega) (by omega), e i (by omega) (by omega)]
    · intro i hi; rw [e2 i (by omega) (by omega), e i (by omega) (by omega)]
  · refine ⟨-nI 1, m, q, m, q, ?_, ?_, hI, fun _ _ => rfl⟩
    · unfold F_X11_feed; simp (disch := omega) only [ob_some, reduceIte, lit, le_T, le_F, lt_T, lt_F, eq_T, eq_F, nI_add, gac_0_0, gac_0_1, gac_0_2, gac_0_3, gac_0_4, gac_0_5, gac_0_6, gac_1_0, gic_1_1, gic_1_2, gic_1_3, gic_1_4, gic_1_5, gic_1_6, gac_3_0, gic_3_1, gic_3_2, gic_3_3, gic_3_4, gic_3_5, gic_3_6, gic_3_7, gic_5_0, gic_5_1, gic_5_2, gic_5_3, gic_5_4, gac_5_5, gac_5_6, gac_5_7, gac_5_8, gac_5_9, gac_5_10, gac_5_11, gac_13_0, gac_13_1, gic_13_2, gac_13_3, gac_13_4, gac_13_5, gac_13_6, gac_13_7, gac_13_8, gac_13_9, gic_13_10, gic_13_11, gic_13_12, gic_13_13, gac_14_0, gac_14_1, gac_14_2, gac_14_3, gic_14_4, gic_14_5, gic_15_0, gic_15_1, gic_15_2, gic_15_3, gic_15_4, gac_15_5, gac_15_6, gac_15_7, gac_15_8, gac_15_9, gac_15_10, gac_15_11, gac_23_0, gac_23_1, gac_23_2, gac_23_3, gac_23_4, gac_23_5, gac_23_6, gic_23_7, gic_23_8, gac_31_0, gic_31_1, gic_31_2, gac_193_0, gac_193_1, gac_193_2, gic_193_3, gac_198_0, gac_200_0, gac_200_1, gac_200_2, gac_200_3, gac_200_4, gac_200_5, gac_200_6, gic_200_7, gic_200_8, pic_1_1, pic_1_2, pic_1_3, pic_1_4, pic_1_5, pic_1_6, pic_3_1, pic_3_2, pic_3_3, pic_3_4, pic_3_5, pic_3_6, pic_3_7, pic_5_0, pic_5_1, pic_5_2, pic_5_3, pic_5_4, pic_13_2, pic_13_10, pic_13_11, pic_13_12, pic_13_13, pic_14_4, pic_14_5, pic_15_0, pic_15_1, pic_15_2, pic_15_3, pic_15_4, pic_23_7, pic_23_8, pic_31_1, pic_31_2, pic_193_3, pic_200_7, pic_200_8, gdc_0, gdc_1, gdc_3, gdc_5, gdc_13, gdc_14, gdc_15, gdc_23, gdc_31, gdc_193, gdc_198, gdc_200, ldc_2, stc_2, ldc_4, stc_4, ldc_6, stc_6, ldc_7, stc_7, ldc_8, stc_8, ldc_9, stc_9, ldc_10, stc_10, ldc_11, stc_11, ldc_12, stc_12, ldc_16, stc_16, ldc_17, stc_17, ldc_18, stc_18, ldc_19, stc_19, ldc_20, stc_20, ldc_21, stc_21, ldc_22, stc_22, ldc_24, stc_24, ldc_25, stc_25, ldc_26, stc_26, ldc_27, stc_27, ldc_28, stc_28, ldc_29, stc_29, ldc_30, stc_30, ldc_194, stc_194, ldc_195, stc_195, ldc_196, stc_196, ldc_199, stc_199, ldc_201, stc_201, ldc_202, stc_202, ldc_203, stc_203, ldc_204, stc_204, ldc_205, stc_205, ldc_206, stc_206, ldc_207, stc_207, ldc_208, stc_208, ldc_209, stc_209, ldc_210, stc_210, ldc_211, stc_211, ldc_213, stc_213, ldc_214, stc_214, ldc_215, stc_215, ldc_216, stc_216, ldc_217, stc_217, ldc_218, stc_218, ldc_219, stc_219, ldc_263, stc_263, lda_197, lda_262, lda_212, lda_32, u2_s, u2_a, u2_b, ct1]
    · unfold F_X12_feed; simp (disch := omega) only [gdm, gam_1, gam_2, gam_3, gam_4, gam_5, gam_6, gam_7, gam_8, gam_9, gam_10, gam_11, gam_12, gam_13, gam_14, gam_15, gam_16, gam_17, gam_18, gam_19, gam_20, gam_21, gam_22, gam_23, gam_24, gam_25, gam_26, gam_37, gam_38, gam_39, gam_40, gam_41, gam_42, gam_43, gam_44, gam_45, gam_46, gam_48, gam_49, gam_56, gam_57, gam_58, gam_59, gam_60, gam_61, gim_27, gim_28, gim_29, gim_30, gim_31, gim_32, gim_33, gim_34, gim_35, gim_36, gim_47, gim_50, gim_51, gim_52, gim_53, gim_54, gim_55, gim_62, gim_63, ob_some, reduceIte, lit, le_T, le_F, lt_T, lt_F, eq_T, eq_F, nI_add, ldm_997, stm_997, ldm_998, stm_998, ldm_999, stm_999, ldm_1000, stm_1000, ldm_1001, stm_1001, ldm_1002, stm_1002, ldm_1003, stm_1003, ldm_1004, stm_1004, ldm_1005, stm_1005, ldm_1006, stm_1006, ldm_1007, stm_1007, ldm_1008, stm_1008, ldm_1009, stm_1009, ldm_1010, stm_1010, ldm_1011, stm_1011, ldm_1012, stm_1012, ldm_1013, stm_1013, ldm_1014, stm_1014, ldm_1015, stm_1015, ldm_1016, stm_1016, ldm_1017, stm_1017, ldm_1018, stm_1018, ldm_1019, stm_1019, ldm_1020, stm_1020, ldm_1021, stm_1021, ldm_1022, stm_1022, u2_s, u2_a, u2_b, not_true, not_false_iff, mt1]
