def consH (A : Nat → Nat → Nat) (H : Nat → Nat → Nat → Nat) : Nat → Nat → Nat → Nat := fun i => match i with | 0 => A | i + 1 => H i
set_option maxRecDepth 4000 in
theorem hb31 {k : Nat} (h : k < 20) : 33 + 8 * k ∈ SB := (wb_in 14 (by decide)).2.2.2.2 k h
set_option maxRecDepth 4000 in
theorem remN {a d : Nat} (ha : a < 2147483648) (h0 : 0 < d) (hd : d < 2147483648) : nI a - nI a / nI d * nI d = nI (a % d) := pk_rem ha h0 hd
set_option maxRecDepth 4000 in
theorem keep_ok {m : Nat → Nat → Int32} {q : Nat → Nat → Int64} {P A : Nat → Nat → Nat} {H : Nat → Nat → Nat → Nat} {n : Nat} (hN : P 0 2 ≤ 6) (hM : P 0 3 ≤ 4) (hS : P 0 0 * P 0 0 ≤ 36) (hA : SR P (blk m 23) A) (hh : A 0 1 ≤ 999) (hH : HistC P H n m 31) : ∃ m1, F_X0_keep 31 23 (KS, m, q) = some ((), (KS, m1, q)) ∧ HistC P (consH A H) (min 20 (n + 1)) m1 31 ∧ (∀ i, i < 31 ∨ 193 ≤ i → m1 i = m i) := by
  obtain ⟨nx, h1, h2, h3, h4, h5⟩ := hH
  obtain ⟨m1, z1, z2, z3⟩ := s_copyFrom (m := m) (q := q) (hb31 h1) sb23 (by omega)
  have e1 : m1 31 1 = nI nx := by rw [z2 _ (by omega)]; exact h2
  have e2 : m1 31 2 = nI n := by rw [z2 _ (by omega)]; exact h3
  have hmin : (if nI (n + 1) < nI 20 then nI (n + 1) else nI 20) = nI (min 20 (n + 1)) := nI_min (by omega) (by omega)
  refine ⟨mk_u2 (mk_u2 m1 31 1 (nI ((nx + 1) % 20))) 31 2 (nI (min 20 (n + 1))), ?_, ⟨(nx + 1) % 20, by omega, ?_, u2_s, by omega, fun i hi => ?_⟩, fun i hi => ?_⟩
  · unfold F_X0_keep
    simp (disch := omega) only [ob_some, reduceIte, lit, le_T, le_F, lt_T, lt_F, eq_T, eq_F, nI_add, gac_0_0, gac_0_1, gac_0_2, gac_0_3, gac_0_4, gac_0_5, gac_0_6, gac_1_0, gic_1_1, gic_1_2, gic_1_3, gic_1_4, gic_1_5, gic_1_6, gac_3_0, gic_3_1, gic_3_2, gic_3_3, gic_3_4, gic_3_5, gic_3_6, gic_3_7, gic_5_0, gic_5_1, gic_5_2, gic_5_3, gic_5_4, gac_5_5, gac_5_6, gac_5_7, gac_5_8, gac_5_9, gac_5_10, gac_5_11, gac_13_0, gac_13_1, gic_13_2, gac_13_3, gac_13_4, gac_13_5, gac_13_6, gac_13_7, gac_13_8, gac_13_9, gic_13_10, gic_13_11, gic_13_12, gic_13_13, gac_14_0, gac_14_1, gac_14_2, gac_14_3, gic_14_4, gic_14_5, gic_15_0, gic_15_1, gic_15_2, gic_15_3, gic_15_4, gac_15_5, gac_15_6, gac_15_7, gac_15_8, gac_15_9, gac_15_10, gac_15_11, gac_23_0, gac_23_1, gac_23_2, gac_23_3, gac_23_4, gac_23_5, gac_23_6, gic_23_7, gic_23_8, gac_31_0, gic_31_1, gic_31_2, gac_193_0, gac_193_1, gac_193_2, gic_193_3, gac_198_0, gac_200_0, gac_200_1, gac_200_2, gac_200_3, gac_200_4, gac_200_5, gac_200_6, gic_200_7, gic_200_8, pic_1_1, pic_1_2, pic_1_3, pic_1_4, pic_1_5, pic_1_6, pic_3_1, pic_3_2, pic_3_3, pic_3_4, pic_3_5, pic_3_6, pic_3_7, pic_5_0, pic_5_1, pic_5_2, pic_5_3, pic_5_4, pic_13_2, pic_13_10, pic_13_11, pic_13_12, pic_13_13, pic_14_4, pic_14_5, pic_15_0, pic_15_1, pic_15_2, pic_15_3, pic_15_4, pic_23_7, pic_23_8, pic_31_1, pic_31_2, pic_193_3, pic_200_7, pic_200_8, gdc_0, gdc_1, gdc_3, gdc_5, gdc_13, gdc_14, gdc_15, gdc_23, gdc_31, gdc_193, gdc_198, gdc_200, ldc_2, stc_2, ldc_4, stc_4, ldc_6, stc_6, ldc_7, stc_7, ldc_8, stc_8, ldc_9, stc_9, ldc_10, stc_10, ldc_11, stc_11, ldc_12, stc_12, ldc_16, stc_16, ldc_17, stc_17, ldc_18, stc_18, ldc_19, stc_19, ldc_20, stc_20, ldc_21, stc_21, ldc_22, stc_22, ldc_24, stc_24, ldc_25, stc_25, ldc_26, stc_26, ldc_27, stc_27, ldc_28, stc_28, ldc_29, stc_29, ldc_30, stc_30, ldc_194, stc_194, ldc_195, stc_195, ldc_196, stc_196, ldc_199, stc_199, ldc_201, stc_201, ldc_202, stc_202, ldc_203, stc_203, ldc_204, stc_204, ldc_205, stc_205, ldc_206, stc_206, ldc_207, stc_207, ldc_208, stc_208, ldc_209, stc_209, ldc_210, stc_210, ldc_211, stc_211, ldc_213, stc_213, ldc_214, stc_214, ldc_215, stc_215, ldc_216, stc_216, ldc_217, stc_217, ldc_218, stc_218, ldc_219, stc_219, ldc_263, stc_263, lda_197, lda_262, lda_212, lda_32, u2_s, u2_a, u2_b, h2, z1, e1, e2, remN]
    rw [hmin]
  · rw [u2_b (by omega), u2_s]
  · cases i with
    | zero =>
      have ei : ((nx + 1) % 20 + 19 - 0) % 20 = nx := by omega
      rw [ei]
      refine ⟨hA.set ?_ hN hM hS, hh⟩
      refine SEq.trans (SEq.of (fun j hj => ?_)) z3
      rw [mk_u2_ne (by omega), mk_u2_ne (by omega)]
    | succ i =>
      have ei : ((nx + 1) % 20 + 19 - (i + 1)) % 20 = (nx + 19 - i) % 20 := by omega
      rw [ei]
      refine ⟨(h5 i (by omega)).1.set (SEq.of (fun j hj => ?_)) hN hM hS, (h5 i (by omega)).2⟩
      rw [mk_u2_ne (by omega), mk_u2_ne (by omega)]
      exact z2 _ (by omega)
  · rw [mk_u2_ne (by omega), mk_u2_ne (by omega)]
    exact z2 _ (by omega)
set_option maxRecDepth 4000 in
theorem goBack_0 {m : Nat → Nat → Int32} {q : Nat → Nat → Int64} (h : m 31 2 = nI 0) : F_X0_goBack 31 23 (KS, m, q) = some (nI 0, (KS, m, q)) := by
  unfold F_X0_goBack
  simp (disch := omega) only [ob_some, reduceIte, lit, le_T, le_F, lt_T, lt_F, eq_T, eq_F, nI_add, gac_0_0, gac_0_1, gac_0_2, gac_0_3, gac_0_4, gac_0_5, gac_0_6, gac_1_0, gic_1_1, gic_1_2, gic_1_3, gic_1_4, gic_1_5, gic_1_6, gac_3_0, gic_3_1, gic_3_2, gic_3_3, gic_3_4, gic_3_5, gic_3_6, gic_3_7, gic_5_0, gic_5_1, gic_5_2, gic_5_3, gic_5_4, gac_5_5, gac_5_6, gac_5_7, gac_5_8, gac_5_9, gac_5_10, gac_5_11, gac_13_0, gac_13_1, gic_13_2, gac_13_3, gac_13_4, gac_13_5, gac_13_6, gac_13_7, gac_13_8, gac_13_9, gic_13_10, gic_13_11, gic_13_12, gic_13_13, gac_14_0, gac_14_1, gac_14_2, gac_14_3, gic_14_4, gic_14_5, gic_15_0, gic_15_1, gic_15_2, gic_15_3, gic_15_4, gac_15_5, gac_15_6, gac_15_7, gac_15_8, gac_15_9, gac_15_10, gac_15_11, gac_23_0, gac_23_1, gac_23_2, gac_23_3, gac_23_4, gac_23_5, gac_23_6, gic_23_7, gic_23_8, gac_31_0, gic_31_1, gic_31_2, gac_193_0, gac_193_1, gac_193_2, gic_193_3, gac_198_0, gac_200_0, gac_200_1, gac_200_2, gac_200_3, gac_200_4, gac_200_5, gac_200_6, gic_200_7, gic_200_8, pic_1_1, pic_1_2, pic_1_3, pic_1_4, pic_1_5, pic_1_6, pic_3_1, pic_3_2, pic_3_3, pic_3_4, pic_3_5, pic_3_6, pic_3_7, pic_5_0, pic_5_1, pic_5_2, pic_5_3, pic_5_4, pic_13_2, pic_13_10, pic_13_11, pic_13_12, pic_13_13, pic_14_4, pic_14_5, pic_15_0, pic_15_1, pic_15_2, pic_15_3, pic_15_4, pic_23_7, pic_23_8, pic_31_1, pic_31_2, pic_193_3, pic_200_7, pic_200_8, gdc_0, gdc_1, gdc_3, gdc_5, gdc_13, gdc_14, gdc_15, gdc_23, gdc_31, gdc_193, gdc_198, gdc_200, ldc_2, stc_2, ldc_4, stc_4, ldc_6, stc_6, ldc_7, stc_7, ldc_8, stc_8, ldc_9, stc_9, ldc_10, stc_10, ldc_11, stc_11, ldc_12, stc_12, ldc_16, stc_16, ldc_17, stc_17, ldc_18, stc_18, ldc_19, stc_19, ldc_20, stc_20, ldc_21, stc_21, ldc_22, stc_22, ldc_24, stc_24, ldc_25, stc_25, ldc_26, stc_26, ldc_27, stc_27, ldc_28, stc_28, ldc_29, stc_29, ldc_30, stc_30, ldc_194, stc_194, ldc_195, stc_195, ldc_196, stc_196, ldc_199, stc_199, ldc_201, stc_201, ldc_202, stc_202, ldc_203, stc_203, ldc_204, stc_204, ldc_205, stc_205, ldc_206, stc_206, ldc_207, stc_207, ldc_208, stc_208, ldc_209, stc_209, ldc_210, stc_210, ldc_211, stc_211, ldc_213, stc_213, ldc_214, stc_214, ldc_215, stc_215, ldc_216, stc_216, ldc_217, stc_217, ldc_218, stc_218, ldc_219, stc_219, ldc_263, stc_263, lda_197, lda_262, lda_212, lda_32, u2_s, u2_a, u2_b, h, rz0]
set_option maxRecDepth 4000 in
theorem goBack_ok {m : Nat → Nat → Int32} {q : Nat → Nat → Int64} {P : Nat → Nat → Nat} {H : Nat → Nat → Nat → Nat} {n : Nat} (hN : P 0 2 ≤ 6) (hM : P 0 3 ≤ 4) (hS : P 0 0 * P 0 0 ≤ 36) (hH : HistC P H (n + 1) m 31) : ∃ m1, F_X0_goBack 31 23 (KS, m, q) = some (nI 1, (KS, m1, q)) ∧ SR P (blk m1 23) (H 0) ∧ HistC P (fun i => H (i + 1)) n m1 31 ∧ (∀ i, i < 23 ∨ 193 ≤ i → m1 i = m i) := by
  obtain ⟨nx, h1, h2, h3, h4, h5⟩ := hH
  have e20 : nx + 20 - 1 = nx + 19 := by omega
  generalize hm0 : mk_u2 (mk_u2 m 31 1 (nI ((nx + 19) % 20))) 31 2 (nI n) = m0
  have e1 : m0 31 1 = nI ((nx + 19) % 20) := by rw [← hm0, u2_b (by omega), u2_s]
  have e2 : m0 31 2 = nI n := by rw [← hm0, u2_s]
  have e3 : ∀ i, i ≠ 31 → m0 i = m i := fun i hi => by rw [← hm0, mk_u2_ne hi, mk_u2_ne hi]
  have e1' : mk_u2 m 31 1 (nI ((nx + 19) % 20)) 31 2 = nI (n + 1) := by rw [u2_b (by omega)]; exact h3
  obtain ⟨m1, z1, z2, z3⟩ := s_copyFrom (m := m0) (q := q) sb23 (hb31 (show (nx + 19) % 20 < 20 by omega)) (by omega)
  refine ⟨m1, ?_, ?_, ⟨(nx + 19) % 20, by omega, ?_, ?_, by omega, fun i hi => ?_⟩, fun i hi => ?_⟩
  · unfold F_X0_goBack
    simp (disch := omega) only [ob_some, reduceIte, lit, le_T, le_F, lt_T, lt_F, eq_T, eq_F, nI_add, gac_0_0, gac_0_1, gac_0_2, gac_0_3, gac_0_4, gac_0_5, gac_0_6, gac_1_0, gic_1_1, gic_1_2, gic_1_3, gic_1_4, gic_1_5, gic_1_6, gac_3_0, gic_3_1, gic_3_2, gic_3_3, gic_3_4, gic_3_5, gic_3_6, gic_3_7, gic_5_0, gic_5_1, gic_5_2, gic_5_3, gic_5_4, gac_5_5, gac_5_6, gac_5_7, gac_5_8, gac_5_9, gac_5_10, gac_5_11, gac_13_0, gac_13_1, gic_13_2, gac_13_3, gac_13_4, gac_13_5, gac_13_6, gac_13_7, gac_13_8, gac_13_9, gic_13_10, gic_13_11, gic_13_12, gic_13_13, gac_14_0, gac_14_1, gac_14_2, gac_14_3, gic_14_4, gic_14_5, gic_15_0, gic_15_1, gic_15_2, gic_15_3, gic_15_4, gac_15_5, gac_15_6, gac_15_7, gac_15_8, gac_15_9, gac_15_10, gac_15_11, gac_23_0, gac_23_1, gac_23_2, gac_23_3, gac_23_4, gac_23_5, gac_23_6, gic_23_7, gic_23_8, gac_31_0, gic_31_1, gic_31_2, gac_193_0, gac_193_1, gac_193_2, gic_193_3, gac_198_0, gac_200_0, gac_200_1, gac_200_2, gac_200_3, gac_200_4, gac_200_5, gac_200_6, gic_200_7, gic_200_8, pic_1_1, pic_1_2, pic_1_3, pic_1_4, pic_1_5, pic_1_6, pic_3_1, pic_3_2, pic_3_3, pic_3_4, pic_3_5, pic_3_6, pic_3_7, pic_5_0, pic_5_1, pic_5_2, pic_5_3, pic_5_4, pic_13_2, pic_13_10, pic_13_11, pic_13_12, pic_13_13, pic_14_4, pic_14_5, pic_15_0, pic_15_1, pic_15_2, pic_15_3, pic_15_4, pic_23_7, pic_23_8, pic_31_1, pic_31_2, pic_193_3, pic_200_7, pic_200_8, gdc_0, gdc_1, gdc_3, gdc_5, gdc_13, gdc_14, gdc_15, gdc_23, gdc_31, gdc_193, gdc_198, gdc_200, ldc_2, stc_2, ldc_4, stc_4, ldc_6, stc_6, ldc_7, stc_7, ldc_8, stc_8, ldc_9, stc_9, ldc_10, stc_10, ldc_11, stc_11, ldc_12, stc_12, ldc_16, stc_16, ldc_17, stc_17, ldc_18, stc_18, ldc_19, stc_19, ldc_20, stc_20, ldc_21, stc_21, ldc_22, stc_22, ldc_24, stc_24, ldc_25, stc_25, ldc_26, stc_26, ldc_27, stc_27, ldc_28, stc_28, ldc_29, stc_29, ldc_30, stc_30, ldc_194, stc_194, ldc_195, stc_195, ldc_196, stc_196, ldc_199, stc_199, ldc_201, stc_201, ldc_202, stc_202, ldc_203, stc_203, ldc_204, stc_204, ldc_205, stc_205, ldc_206, stc_206, ldc_207, stc_207, ldc_208, stc_208, ldc_209, stc_209, ldc_210, stc_210, ldc_211, stc_211, ldc_213, stc_213, ldc_214, stc_214, ldc_215, stc_215, ldc_216, stc_216, ldc_217, stc_217, ldc_218, stc_218, ldc_219, stc_219, ldc_263, stc_263, lda_197, lda_262, lda_212, lda_32, u2_s, u2_a, u2_b, h2, h3, sub1, e20, remN, Nat.add_sub_cancel, hm0, e1, z1, rz1]
  · have := (h5 0 (by omega)).1
    have ei : (nx + 19 - 0) % 20 = (nx + 19) % 20 := rfl
    rw [ei] at this
    refine this.set (SEq.trans z3 (SEq.of (fun j hj => ?_))) hN hM hS
    exact e3 _ (by omega)
  · rw [z2 _ (by omega)]; exact e1
  · rw [z2 _ (by omega)]; exact e2
  · have ei : ((nx + 19) % 20 + 19 - i) % 20 = (nx + 19 - (i + 1)) % 20 := by omega
    rw [ei]
    refine ⟨(h5 (i + 1) (by omega)).1.set (SEq.of (fun j hj => ?_)) hN hM hS, (h5 (i + 1) (by omega)).2⟩
    rw [z2 _ (by omega)]
    exact e3 _ (by omega)
  · rw [z2 _ (by omega)]; exact e3 _ (by omega)
set_option maxRecDepth 4000 in
/-- the reference keeps an act -/
theorem row_now {v1 v : Nat → Nat → Int32} {P A : Nat → Nat → Nat} {r : Nat} (h : MS P v A) (hN : P 0 2 ≤ 6) (hM : P 0 3 ≤ 4) (hS : P 0 0 * P 0 0 ≤ 36) (e0 : v1 19 (72 * r) = v 0 5) (e1 : v1 19 (72 * r + 1) = v 0 6) (a1 : ∀ k, k < 6 → v1 19 (72 * r + 2 + k) = v 1 k) (a2 : ∀ k, k < 6 → v1 19 (72 * r + 8 + k) = v 2 k) (a3 : ∀ k, k < 6 → v1 19 (72 * r + 14 + k) = v 3 k) (a4 : ∀ k, k < 6 → v1 19 (72 * r + 20 + k) = v 4 k) (a5 : ∀ k, k < 6 → v1 19 (72 * r + 26 + k) = v 5 k) (a6 : ∀ k, k < 4 → v1 19 (72 * r + 32 + k) = v 6 k) (a7 : ∀ k, k < 36 → v1 19 (72 * r + 36 + k) = v 7 k) : MS P (pv v1 r) A := by
  refine h.congr hN hM hS e0 e1 ?_ ?_ ?_
  · intro j k h1 h2 hk
    rcases (show j = 1 ∨ j = 2 ∨ j = 3 ∨ j = 4 ∨ j = 5 by omega) with x | x | x | x | x <;> subst x <;> simp only [pv, ← Nat.add_assoc]
    · exact a1 k hk
    · exact a2 k hk
    · exact a3 k hk
    · exact a4 k hk
    · exact a5 k hk
  · intro k hk; simp only [pv, ← Nat.add_assoc]; exact a6 k hk
  · intro k hk; simp only [pv, ← Nat.add_assoc]; exact a7 k hk
set_option maxRecDepth 4000 in
theorem msrc_0 {m : Nat → Nat → Int32} {r j k : Nat} : msrc m r 0 j k = m (997 + j) k := rfl
set_option maxRecDepth 4000 in
theorem msrc_1 {m : Nat → Nat → Int32} {r j k : Nat} : msrc m r 1 j k = pv (nv m) r j k := rfl
set_option maxRecDepth 4000 in
theorem shift_ok {q : Nat → Nat → Int64} (m0 : Nat → Nat → Int32) : ∃ f1 m1, B_X12_keepsAct_12 mk_fu 996 (nI 72) (KS, m0, q) = B_X12_keepsAct_12 (f1 + 1) 996 (nI 1440) (KS, m1, q) ∧ (∀ j, j ≠ 1033 → m1 j = m0 j) ∧ ∀ k, k + 72 < 1440 → m1 1033 k = m0 1033 (k + 72) := by
  obtain ⟨f1, m1, e, i1, i2, i3⟩ := loop_up (fun f i m => B_X12_keepsAct_12 f 996 (nI i) (KS, m, q)) 1440 (fun i m => (∀ j, j ≠ 1033 → m j = m0 j) ∧ (∀ k, k + 72 < i → m 1033 k = m0 1033 (k + 72)) ∧ (∀ k, i ≤ k + 72 → m 1033 k = m0 1033 k) ∧ 72 ≤ i) (by
    intro f i m hi ⟨i1, i2, i3, i4⟩
    refine ⟨mk_u2 m 1033 (i - 72) (m0 1033 i), ?_, fun j hj => ?_, fun k hk => ?_, fun k hk => ?_, by omega⟩
    · have e3 : m 1033 i = m0 1033 i := i3 i (by omega)
      have es : nI i - nI 72 = nI (i - 72) := pk_sub i4
      simp only [B_X12_keepsAct_12]
      simp (disch := omega) only [gdm, gam_1, gam_2, gam_3, gam_4, gam_5, gam_6, gam_7, gam_8, gam_9, gam_10, gam_11, gam_12, gam_13, gam_14, gam_15, gam_16, gam_17, gam_18, gam_19, gam_20, gam_21, gam_22, gam_23, gam_24, gam_25, gam_26, gam_37, gam_38, gam_39, gam_40, gam_41, gam_42, gam_43, gam_44, gam_45, gam_46, gam_48, gam_49, gam_56, gam_57, gam_58, gam_59, gam_60, gam_61, gim_27, gim_28, gim_29, gim_30, gim_31, gim_32, gim_33, gim_34, gim_35, gim_36, gim_47, gim_50, gim_51, gim_52, gim_53, gim_54, gim_55, gim_62, gim_63, ob_some, reduceIte, lit, le_T, le_F, lt_T, lt_F, eq_T, eq_F, nI_add, ldm_997, stm_997, ldm_998, stm_998, ldm_999, stm_999, ldm_1000, stm_1000, ldm_1001, stm_1001, ldm_1002, stm_1002, ldm_1003, stm_1003, ldm_1004, stm_1004, ldm_1005, stm_1005, ldm_1006, stm_1006, ldm_1007, stm_1007, ldm_1008, stm_1008, ldm_1009, stm_1009, ldm_1010, stm_1010, ldm_1011, stm_1011, ldm_1012, stm_1012, ldm_1013, stm_1013, ldm_1014, stm_1014, ldm_1015, stm_1015, ldm_1016, stm_1016, ldm_1017, stm_1017, ldm_1018, stm_1018, ldm_1019, stm_1019, ldm_1020, stm_1020, ldm_1021, stm_1021, ldm_1022, stm_1022, u2_s, u2_a, u2_b, not_true, not_false_iff, ldm_1033, stm_1033, e3, es]
    · rw [mk_u2_ne hj]; exact i1 j hj
    · by_cases h : k = i - 72
      · subst h
        rw [u2_s]
        exact congrArg (m0 1033) (by omega)
      · rw [u2_b h]; exact i2 k (by omega)
    · rw [u2_b (by omega)]; exact i3 k (by omega)) 1368 72 mk_fu m0 (by omega) (by rw [mk_fu_eq]; omega) ⟨fun _ _ => rfl, fun _ h => absurd h (by omega), fun _ _ => rfl, by omega⟩
  exact ⟨f1, m1, e, i1, i2⟩
set_option maxRecDepth 4000 in
theorem keepsAct_ok {q : Nat → Nat → Int64} {P A : Nat → Nat → Nat} {H : Nat → Nat → Nat → Nat} {n : Nat} {N : Nat → Nat → Nat} {nn fo x : Nat} (m : Nat → Nat → Int32) (hW : MW (nv m) (P, A, H, n, N, nn, fo, x)) : ∃ m1, F_X12_keepsAct 996 (KS, m, q) = some ((), (KS, m1, q)) ∧ MW (nv m1) (P, A, consH A H, min 20 (n + 1), N, nn, fo, x) ∧ (∀ i, i < 996 ∨ 1004 < i → i ≠ 1033 → m1 i = m i) ∧ (∀ k, k ≠ 50 → k ≠ 51 → k ≠ 52 → m1 996 k = m 996 k) ∧ (∀ j k, j < 8 → k < szv j → m1 (997 + j) k = m (997 + j) k) := by
  obtain ⟨mP, ⟨mA, mAh⟩, ⟨mh1, mh2, mh3⟩, hrest⟩ := id hW
  obtain ⟨B0, B1, B2, B3, B4, B5⟩ := mP.bd
  have h50 : m 996 50 = nI n := mh1
  -- from a memory m0 with r rows that are the last r, r < 20
  have core : ∀ (m0 : Nat → Nat → Int32) (r : Nat), r < 20 → m0 996 50 = nI r → (∀ i, i ≠ 996 → i ≠ 1033 → m0 i = m i) → (∀ k, k ≠ 50 → m0 996 k = m 996 k) → r + 1 = min 20 (n + 1) → (∀ i, i < r → MS P (pv (nv m0) (r - 1 - i)) (H i) ∧ H i 0 1 ≤ 999) → ∃ m1, B_X12_keepsAct_50 996 (KS, m0, q) = some ((), (KS, m1, q)) ∧ MW (nv m1) (P, A, consH A H, min 20 (n + 1), N, nn, fo, x) ∧ (∀ i, i < 996 ∨ 1004 < i → i ≠ 1033 → m1 i = m i) ∧ (∀ k, k ≠ 50 → k ≠ 51 → k ≠ 52 → m1 996 k = m 996 k) ∧ (∀ j k, j < 8 → k < szv j → m1 (997 + j) k = m (997 + j) k) := by
    intro m0 r hr h0 hO h96 hrn hH
    obtain ⟨m1, z1, z2, z3, z4, z5, ⟨z6, z7⟩, z8, ⟨z9, z10⟩, y1, y2, y3, y4, y5, y6, y7⟩ := movesAll_ok (q := q) (tb := 0) m0 hr (by omega)
    have z50 : m1 996 50 = nI r := (z3 50 (by omega) (by omega)).trans h0
    have g2 : ∀ i, i < 996 ∨ 1004 < i → i ≠ 1033 → mk_u2 m1 996 50 (nI (r + 1)) i = m i := fun i h1 h2 => by rw [mk_u2_ne (by omega), z2 i h1 h2, hO i (by omega) h2]
    have g8 : ∀ j k, j < 8 → k < szv j → mk_u2 m1 996 50 (nI (r + 1)) (997 + j) k = m (997 + j) k := by
      intro j k hj hk
      rw [u2_a (by omega)]
      by_cases hj0 : j = 0
      · subst hj0
        by_cases h5 : k = 5
        · subst h5; exact z6.trans (by rw [msrc_0, hO _ (by omega) (by omega)])
        · by_cases h6 : k = 6
          · subst h6; exact z7.trans (by rw [msrc_0, hO _ (by omega) (by omega)])
          · exact (z4 k h5 h6).trans (by rw [hO _ (by omega) (by omega)])
      · rw [z8 j k (by omega) hj hk, msrc_0, hO _ (by omega) (by omega)]
    refine ⟨mk_u2 m1 996 50 (nI (r + 1)), ?_, ?_, g2, fun k h1 h2 h3 => ?_, g8⟩
    · unfold B_X12_keepsAct_50
      simp (disch := omega) only [gdm, gam_1, gam_2, gam_3, gam_4, gam_5, gam_6, gam_7, gam_8, gam_9, gam_10, gam_11, gam_12, gam_13, gam_14, gam_15, gam_16, gam_17, gam_18, gam_19, gam_20, gam_21, gam_22, gam_23, gam_24, gam_25, gam_26, gam_37, gam_38, gam_39, gam_40, gam_41, gam_42, gam_43, gam_44, gam_45, gam_46, gam_48, gam_49, gam_56, gam_57, gam_58, gam_59, gam_60, gam_61, gim_27, gim_28, gim_29, gim_30, gim_31, gim_32, gim_33, gim_34, gim_35, gim_36, gim_47, gim_50, gim_51, gim_52, gim_53, gim_54, gim_55, gim_62, gim_63, ob_some, reduceIte, lit, le_T, le_F, lt_T, lt_F, eq_T, eq_F, nI_add, ldm_997, stm_997, ldm_998, stm_998, ldm_999, stm_999, ldm_1000, stm_1000, ldm_1001, stm_1001, ldm_1002, stm_1002, ldm_1003, stm_1003, ldm_1004, stm_1004, ldm_1005, stm_1005, ldm_1006, stm_1006, ldm_1007, stm_1007, ldm_1008, stm_1008, ldm_1009, stm_1009, ldm_1010, stm_1010, ldm_1011, stm_1011, ldm_1012, stm_1012, ldm_1013, stm_1013, ldm_1014, stm_1014, ldm_1015, stm_1015, ldm_1016, stm_1016, ldm_1017, stm_1017, ldm_1018, stm_1018, ldm_1019, stm_1019, ldm_1020, stm_1020, ldm_1021, stm_1021, ldm_1022, stm_1022, u2_s, u2_a, u2_b, not_true, not_false_iff, pim_27, pim_28, pim_29, pim_30, pim_31, pim_32, pim_33, pim_34, pim_35, pim_36, pim_47, pim_50, pim_51, pim_52, pim_53, pim_54, pim_55, pim_62, pim_63, h0, z1, z50]
    · refine MW.hs (v := nv m) hW (fun k hk h5 h6 => ?_) (fun j k h1 h2 hk => ?_) ?_ mAh ?_ (by omega) ?_
      · exact g8 0 k (by omega) hk
      · rw [nv_mid (by omega) h2, nv_mid (by omega) h2, g2 _ (by omega) (by omega)]
      · refine MW.st0 mA B2 B3 B5 (g8 0 5 (by omega) (by decide)) (g8 0 6 (by omega) (by decide)) (fun j k h1 h2 hk => ?_)
        rw [nv_lt h2, nv_lt h2]
        exact g8 j k h2 hk
      · show mk_u2 m1 996 50 (nI (r + 1)) 996 50 = _
        rw [u2_s, hrn]
      · intro i hi
        cases i with
        | zero =>
          have er : min 20 (n + 1) - 1 - 0 = r := by omega
          rw [er]
          refine ⟨row_now mA B2 B3 B5 ?_ ?_ ?_ ?_ ?_ ?_ ?_ ?_ ?_, mAh⟩ <;> simp only [nv_19] <;> (try intro k hk) <;> rw [u2_a (by omega)]
          · rw [z9, msrc_0, hO _ (by omega) (by omega)]; rfl
          · rw [z10, msrc_0, hO _ (by omega) (by omega)]; rfl
          · rw [y1 k hk, msrc_0, hO _ (by omega) (by omega)]; rfl
          · rw [y2 k hk, msrc_0, hO _ (by omega) (by omega)]; rfl
          · rw [y3 k hk, msrc_0, hO _ (by omega) (by omega)]; rfl
          · rw [y4 k hk, msrc_0, hO _ (by omega) (by omega)]; rfl
          · rw [y5 k hk, msrc_0, hO _ (by omega) (by omega)]; rfl
          · rw [y6 k hk, msrc_0, hO _ (by omega) (by omega)]; rfl
          · rw [y7 k hk, msrc_0, hO _ (by omega) (by omega)]; rfl
        | succ i =>
          have er : min 20 (n + 1) - 1 - (i + 1) = r - 1 - i := by omega
          rw [er]
          refine ⟨pv_congr (hH i (by omega)).1 B2 B3 B5 (fun k hk => ?_), (hH i (by omega)).2⟩
          simp only [nv_19]
          rw [u2_a (by omega)]
          exact z5 _ (by omega)
    · rw [u2_b h1, z3 k h2 h3, h96 k h1]
  by_cases h20 : n = 20
  · obtain ⟨f1, m1, e, i1, i2⟩ := shift_ok (q := q) m
    have h50' : m1 996 50 = nI 20 := by rw [i1 _ (by omega), h50, h20]
    obtain ⟨m2, z1, z2⟩ := core (mk_u2 m1 996 50 (nI 19)) 19 (by omega) u2_s (fun i h1 h2 => by rw [mk_u2_ne h1]; exact i1 i h2) (fun k hk => by rw [u2_b hk, i1 _ (by omega)]) (by omega) (fun i hi => by
      have hp := mh3 i (by omega)
      refine ⟨pv_congr hp.1 B2 B3 B5 (fun k hk => ?_), hp.2⟩
      simp only [nv_19]
      rw [u2_a (by omega), i2 _ (by omega)]
      exact congrArg (m 1033) (by omega))
    refine ⟨m2, ?_, z2⟩
    unfold F_X12_keepsAct
    simp (disch := omega) only [gdm, gam_1, gam_2, gam_3, gam_4, gam_5, gam_6, gam_7, gam_8, gam_9, gam_10, gam_11, gam_12, gam_13, gam_14, gam_15, gam_16, gam_17, gam_18, gam_19, gam_20, gam_21, gam_22, gam_23, gam_24, gam_25, gam_26, gam_37, gam_38, gam_39, gam_40, gam_41, gam_42, gam_43, gam_44, gam_45, gam_46, gam_48, gam_49, gam_56, gam_57, gam_58, gam_59, gam_60, gam_61, gim_27, gim_28, gim_29, gim_30, gim_31, gim_32, gim_33, gim_34, gim_35, gim_36, gim_47, gim_50, gim_51, gim_52, gim_53, gim_54, gim_55, gim_62, gim_63, ob_some, reduceIte, lit, le_T, le_F, lt_T, lt_F, eq_T, eq_F, nI_add, ldm_997, stm_997, ldm_998, stm_998, ldm_999, stm_999, ldm_1000, stm_1000, ldm_1001, stm_1001, ldm_1002, stm_1002, ldm_1003, stm_1003, ldm_1004, stm_1004, ldm_1005, stm_1005, ldm_1006, stm_1006, ldm_1007, stm_1007, ldm_1008, stm_1008, ldm_1009, stm_1009, ldm_1010, stm_1010, ldm_1011, stm_1011, ldm_1012, stm_1012, ldm_1013, stm_1013, ldm_1014, stm_1014, ldm_1015, stm_1015, ldm_1016, stm_1016, ldm_1017, stm_1017, ldm_1018, stm_1018, ldm_1019, stm_1019, ldm_1020, stm_1020, ldm_1021, stm_1021, ldm_1022, stm_1022, u2_s, u2_a, u2_b, not_true, not_false_iff, h50, h20]
    refine Eq.trans e ?_
    rw [B_X12_keepsAct_12]
    simp (disch := omega) only [gdm, gam_1, gam_2, gam_3, gam_4, gam_5, gam_6, gam_7, gam_8, gam_9, gam_10, gam_11, gam_12, gam_13, gam_14, gam_15, gam_16, gam_17, gam_18, gam_19, gam_20, gam_21, gam_22, gam_23, gam_24, gam_25, gam_26, gam_37, gam_38, gam_39, gam_40, gam_41, gam_42, gam_43, gam_44, gam_45, gam_46, gam_48, gam_49, gam_56, gam_57, gam_58, gam_59, gam_60, gam_61, gim_27, gim_28, gim_29, gim_30, gim_31, gim_32, gim_33, gim_34, gim_35, gim_36, gim_47, gim_50, gim_51, gim_52, gim_53, gim_54, gim_55, gim_62, gim_63, ob_some, reduceIte, lit, le_T, le_F, lt_T, lt_F, eq_T, eq_F, nI_add, ldm_997, stm_997, ldm_998, stm_998, ldm_999, stm_999, ldm_1000, stm_1000, ldm_1001, stm_1001, ldm_1002, stm_1002, ldm_1003, stm_1003, ldm_1004, stm_1004, ldm_1005, stm_1005, ldm_1006, stm_1006, ldm_1007, stm_1007, ldm_1008, stm_1008, ldm_1009, stm_1009, ldm_1010, stm_1010, ldm_1011, stm_1011, ldm_1012, stm_1012, ldm_1013, stm_1013, ldm_1014, stm_1014, ldm_1015, stm_1015, ldm_1016, stm_1016, ldm_1017, stm_1017, ldm_1018, stm_1018, ldm_1019, stm_1019, ldm_1020, stm_1020, ldm_1021, stm_1021, ldm_1022, stm_1022, u2_s, u2_a, u2_b, not_true, not_false_iff, pim_27, pim_28, pim_29, pim_30, pim_31, pim_32, pim_33, pim_34, pim_35, pim_36, pim_47, pim_50, pim_51, pim_52, pim_53, pim_54, pim_55, pim_62, pim_63, h50', sub1]
    exact z1
  · obtain ⟨m2, z1, z2⟩ := core m n (by omega) h50 (fun _ _ _ => rfl) (fun _ _ => rfl) (by omega) mh3
    refine ⟨m2, ?_, z2⟩
    unfold F_X12_keepsAct
    simp (disch := omega) only [gdm, gam_1, gam_2, gam_3, gam_4, gam_5, gam_6, gam_7, gam_8, gam_9, gam_10, gam_11, gam_12, gam_13, gam_14, gam_15, gam_16, gam_17, gam_18, gam_19, gam_20, gam_21, gam_22, gam_23, gam_24, gam_25, gam_26, gam_37, gam_38, gam_39, gam_40, gam_41, gam_42, gam_43, gam_44, gam_45, gam_46, gam_48, gam_49, gam_56, gam_57, gam_58, gam_59, gam_60, gam_61, gim_27, gim_28, gim_29, gim_30, gim_31, gim_32, gim_33, gim_34, gim_35, gim_36, gim_47, gim_50, gim_51, gim_52, gim_53, gim_54, gim_55, gim_62, gim_63, ob_some, reduceIte, lit, le_T, le_F, lt_T, lt_F, eq_T, eq_F, nI_add, ldm_997, stm_997, ldm_998, stm_998, ldm_999, stm_999, ldm_1000, stm_1000, ldm_1001, stm_1001, ldm_1002, stm_1002, ldm_1003, stm_1003, ldm_1004, stm_1004, ldm_1005, stm_1005, ldm_1006, stm_1006, ldm_1007, stm_1007, ldm_1008, stm_1008, ldm_1009, stm_1009, ldm_1010, stm_1010, ldm_1011, stm_1011, ldm_1012, stm_1012, ldm_1013, stm_1013, ldm_1014, stm_1014, ldm_1015, stm_1015, ldm_1016, stm_1016, ldm_1017, stm_1017, ldm_1018, stm_1018, ldm_1019, stm_1019, ldm_1020, stm_1020, ldm_1021, stm_1021, ldm_1022, stm_1022, u2_s, u2_a, u2_b, not_true, not_false_iff, h50]
    exact z1
