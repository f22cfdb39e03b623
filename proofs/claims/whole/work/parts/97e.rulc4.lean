/-! RULES told: behind a value, the class -/
set_option maxRecDepth 4000 in
theorem ciC {T : TT} {b e nx pt it : Nat} {st : List Nat} {cl : RT} {c1 cd : List (Nat × Nat)} {m : Nat → Nat → Int32} (hb : 220 ≤ b) (h : CR T b m (0, e, nx, pt, st, it, cl, c1, cd)) : CR T b (mk_u2 m 3 3 (nI (it + 1))) (0, e, nx, pt, st, it + 1, cl, c1, cd) := by
  obtain ⟨hT, h3, hr⟩ := h
  obtain ⟨r2, r4, r5, ⟨r1, rS⟩, rd, ri, rn, rc, rP, rs1, rs2, r6, r7⟩ := hr rfl
  have fr : FrC b m (mk_u2 m 3 3 (nI (it + 1))) := FrC.rf.up (by omega)
  exact ⟨hT.fc hb fr, by simp (disch := omega) only [u2_s, u2_a, u2_b, h3], fun _ => ⟨by simp (disch := omega) only [u2_s, u2_a, u2_b, r2], by simp (disch := omega) only [u2_s, u2_a, u2_b, r4], fun z => by simp (disch := omega) only [u2_s, u2_a, u2_b, r5 z], ⟨by simp (disch := omega) only [u2_s, u2_a, u2_b, r1], rS.congr (fun k _ => by simp (disch := omega) only [u2_s, u2_a, u2_b])⟩, by simp (disch := omega) only [u2_s, u2_a, u2_b, rd], u2_s, by simp (disch := omega) only [u2_s, u2_a, u2_b, rn], by simp (disch := omega) only [u2_s, u2_a, u2_b, rc], rP.fr (fun k _ => by simp (disch := omega) only [u2_s, u2_a, u2_b, and_self]) (fun k _ => by simp (disch := omega) only [u2_s, u2_a, u2_b, and_self]), rs1.fr (fun k _ => by simp (disch := omega) only [u2_s, u2_a, u2_b, and_self]), rs2.fr (fun k _ => by simp (disch := omega) only [u2_s, u2_a, u2_b, and_self]), fun z => by simp (disch := omega) only [u2_s, u2_a, u2_b, r6 z], fun z => by simp (disch := omega) only [u2_s, u2_a, u2_b, r7 z]⟩⟩
set_option maxRecDepth 4000 in
/-- join where a fault has come -/
theorem jx {T : TT} {b e nx pt it g f : Nat} {st : List Nat} {cl : RT} {c1 cd : List (Nat × Nat)} {m : Nat → Nat → Int32} {q : Nat → Nat → Int64} (hb : b ∈ RB) (h : CR T b m (0, e, nx, pt, st, it, cl, c1, cd)) (hg : 1 ≤ bd g) (hg2 : g ≠ 315) (hlen : lenR cl + c1.length + cd.length + st.length < 400) (hm : ∀ s, s ∈ st → s = 91 ∨ 1 ≤ bd s) : ∃ m1, F_X6_join 3 (nI g) b (KS, mk_u2 m 1 3 (nI f), q) = some ((), (KS, m1, q)) ∧ FrC b m m1 ∧ m1 1 3 = nI f := by
  have hbl := rb_lt hb
  have hbd := bd_le g
  obtain ⟨-, -, -, g1, g2⟩ := sgn_en hg
  obtain ⟨hT, h3, hr⟩ := h
  obtain ⟨r2, r4, r5, ⟨r1, rS⟩, rd, ri, rn, rc, rP, rs1, rs2, r6, r7⟩ := hr rfl
  have hf : mk_u2 m 1 3 (nI f) 1 3 = nI f := u2_s
  generalize hmm : mk_u2 m 1 3 (nI f) = mm at *
  have ej : ∀ j, j ≠ 1 → mm j = m j := fun j hj => by rw [← hmm, mk_u2_ne hj]
  have e11 : mm 1 1 = m 1 1 := by rw [← hmm, u2_b (by omega)]
  obtain ⟨m1, a1, ⟨f1, f2, f3, f4⟩, a3, a4, a5, a6⟩ := relL (q := q) (o := lenR cl + c1.length) hb hg hbd st mk_fu mm cd (by rw [mk_fu_eq]; omega) (by rw [ej _ (by omega)]; exact r1) (by rw [ej _ (by omega)]; exact rS) (by rw [ej _ (by omega)]; exact rd) (by rw [ej _ (by omega)]; exact rn) (rs2.fr (fun k _ => by rw [ej _ (by omega), ej _ (by omega)]; exact ⟨rfl, rfl⟩)) (by omega) hm
  have hl := rl_len (lv := bd g) st cd
  have hbn := bindC (s := g) (by omega) (KS, mm, q)
  rw [sI_n (by omega)] at hbn
  have fr : FrC b m m1 := ⟨fun j b1 b2 b3 b4 => (f1 j (by omega) (by omega) (by omega) (by omega)).trans (ej j b1), by rw [f1 1 (by omega) (by omega) (by omega) (by omega)]; exact e11⟩
  refine ⟨mk_u2 (mk_u2 m1 4 (rl (bd g) st cd).1.length (nI g)) 3 1 (nI ((rl (bd g) st cd).1.length + 1)), ?_, (fr.up (by omega)).up (by omega), by rw [u2_a (by omega), u2_a (by omega), f1 1 (by omega) (by omega) (by omega) (by omega)]; exact hf⟩
  unfold F_X6_join F_X6_release F_X6_push
  simp (disch := omega) only [ob_some, reduceIte, lit, le_T, le_F, lt_T, lt_F, eq_T, eq_F, nI_add, gac_0_0, gac_0_1, gac_0_2, gac_0_3, gac_0_4, gac_0_5, gac_0_6, gac_1_0, gic_1_1, gic_1_2, gic_1_3, gic_1_4, gic_1_5, gic_1_6, gac_3_0, gic_3_1, gic_3_2, gic_3_3, gic_3_4, gic_3_5, gic_3_6, gic_3_7, gic_5_0, gic_5_1, gic_5_2, gic_5_3, gic_5_4, gac_5_5, gac_5_6, gac_5_7, gac_5_8, gac_5_9, gac_5_10, gac_5_11, gac_13_0, gac_13_1, gic_13_2, gac_13_3, gac_13_4, gac_13_5, gac_13_6, gac_13_7, gac_13_8, gac_13_9, gic_13_10, gic_13_11, gic_13_12, gic_13_13, gac_14_0, gac_14_1, gac_14_2, gac_14_3, gic_14_4, gic_14_5, gic_15_0, gic_15_1, gic_15_2, gic_15_3, gic_15_4, gac_15_5, gac_15_6, gac_15_7, gac_15_8, gac_15_9, gac_15_10, gac_15_11, gac_23_0, gac_23_1, gac_23_2, gac_23_3, gac_23_4, gac_23_5, gac_23_6, gic_23_7, gic_23_8, gac_31_0, gic_31_1, gic_31_2, gac_193_0, gac_193_1, gac_193_2, gic_193_3, gac_198_0, gac_200_0, gac_200_1, gac_200_2, gac_200_3, gac_200_4, gac_200_5, gac_200_6, gic_200_7, gic_200_8, pic_1_1, pic_1_2, pic_1_3, pic_1_4, pic_1_5, pic_1_6, pic_3_1, pic_3_2, pic_3_3, pic_3_4, pic_3_5, pic_3_6, pic_3_7, pic_5_0, pic_5_1, pic_5_2, pic_5_3, pic_5_4, pic_13_2, pic_13_10, pic_13_11, pic_13_12, pic_13_13, pic_14_4, pic_14_5, pic_15_0, pic_15_1, pic_15_2, pic_15_3, pic_15_4, pic_23_7, pic_23_8, pic_31_1, pic_31_2, pic_193_3, pic_200_7, pic_200_8, gdc_0, gdc_1, gdc_3, gdc_5, gdc_13, gdc_14, gdc_15, gdc_23, gdc_31, gdc_193, gdc_198, gdc_200, ldc_2, stc_2, ldc_4, stc_4, ldc_6, stc_6, ldc_7, stc_7, ldc_8, stc_8, ldc_9, stc_9, ldc_10, stc_10, ldc_11, stc_11, ldc_12, stc_12, ldc_16, stc_16, ldc_17, stc_17, ldc_18, stc_18, ldc_19, stc_19, ldc_20, stc_20, ldc_21, stc_21, ldc_22, stc_22, ldc_24, stc_24, ldc_25, stc_25, ldc_26, stc_26, ldc_27, stc_27, ldc_28, stc_28, ldc_29, stc_29, ldc_30, stc_30, ldc_194, stc_194, ldc_195, stc_195, ldc_196, stc_196, ldc_199, stc_199, ldc_201, stc_201, ldc_202, stc_202, ldc_203, stc_203, ldc_204, stc_204, ldc_205, stc_205, ldc_206, stc_206, ldc_207, stc_207, ldc_208, stc_208, ldc_209, stc_209, ldc_210, stc_210, ldc_211, stc_211, ldc_213, stc_213, ldc_214, stc_214, ldc_215, stc_215, ldc_216, stc_216, ldc_217, stc_217, ldc_218, stc_218, ldc_219, stc_219, ldc_263, stc_263, lda_197, lda_262, lda_212, lda_32, u2_s, u2_a, u2_b, hbn, a1, a3]
set_option maxRecDepth 4000 in
theorem beC {T : TT} {b e s pt it : Nat} {st : List Nat} {cl : RT} {c1 cd : List (Nat × Nat)} {m : Nat → Nat → Int32} {q : Nat → Nat → Int64} (hb : b ∈ RB) (h : CR T b m (0, e, 3, pt, st, it, cl, c1, cd)) (hk : TK T m s) (he : e = end1 T s) (hs : sgn1 T s ≤ 1000) (hsl : s ≤ 400) (hit : it ≤ 60) (hlen : sgn1 T s ≠ 1000 → lenR cl + c1.length + cd.length + st.length < 400) (hlen2 : lenR cl + c1.length + cd.length + st.length ≤ 400) (hm : ∀ s, s ∈ st → s = 91 ∨ 1 ≤ bd s) (hcl : cl.length < 12) (hp3 : pt ≤ 3) (hc1 : pt = 0 → c1 = []) : ∃ m1, F_X6_readBehind 3 1 b (KS, m, q) = some ((), (KS, m1, q)) ∧ FrC b m m1 ∧ CR T b m1 (sB T s pt st it cl c1 cd) := by
  have hbl := rb_lt hb
  have h0 := h
  obtain ⟨hT, h3, hr⟩ := h
  obtain ⟨r2, r4, r5, ⟨r1, rS⟩, rd, ri, rn, rc, rP, rs1, rs2, r6, r7⟩ := hr rfl
  have r5 := r5 lv3
  have hk0 := hk
  obtain ⟨k1, k2, k3⟩ := hk
  subst he
  have hbd := bd_le (sgn1 T s)
  have hbn := bindC (s := sgn1 T s) (by omega) (KS, m, q)
  have q0 : F_X6_readBehind 3 1 b (KS, m, q) = B_X6_readBehind_27 3 1 b (sI (sgn1 T s)) (nI (bd (sgn1 T s))) (if sgn1 T s = 59 ∨ sgn1 T s = 1000 then nI 1 else nI 0) (KS, m, q) := by
    unfold F_X6_readBehind B_X6_readBehind_22
    by_cases z1 : sgn1 T s = 59
    · rw [if_pos (.inl z1)]
      have z1' : (sgn1 T s = 59) = True := eq_true z1
      simp (disch := omega) only [gdc_3, gic_1_4, ob_some, k2, hbn, lit, sI_eqc, z1', reduceIte]
    · by_cases z2 : sgn1 T s = 1000
      · rw [if_pos (.inr z2)]
        have z1' : (sgn1 T s = 59) = False := eq_false z1
        have z2' : (sgn1 T s = 1000) = True := eq_true z2
        simp (disch := omega) only [gdc_3, gic_1_4, ob_some, k2, hbn, lit, sI_eqc, sI_end, z1', z2', reduceIte]
      · rw [if_neg (by omega)]
        simp (disch := omega) only [gdc_3, gic_1_4, ob_some, k2, hbn, lit, sI_eqc, sI_end, z1, z2, reduceIte]
  generalize hfl : (if sgn1 T s = 59 ∨ sgn1 T s = 1000 then nI 1 else nI 0) = fg at q0
  have q57 : ¬ (5 ≤ bd (sgn1 T s) ∧ pt ≠ 3) → B_X6_readBehind_27 3 1 b (sI (sgn1 T s)) (nI (bd (sgn1 T s))) fg (KS, m, q) = B_X6_readBehind_57 3 1 b (sI (sgn1 T s)) (nI (bd (sgn1 T s))) fg (KS, m, q) := fun z => by
    unfold B_X6_readBehind_27
    by_cases z1 : bd (sgn1 T s) < 5
    · simp (disch := omega) only [lit, lt_T, reduceIte]
    · have z2 : pt = 3 := by omega
      rw [z2] at r5
      simp (disch := omega) only [lit, lt_F, reduceIte, gic_3_5, ob_some, r5, eq_T]
  have q95 : ¬ (bd (sgn1 T s) = 4 ∧ pt = 1) → B_X6_readBehind_57 3 1 b (sI (sgn1 T s)) (nI (bd (sgn1 T s))) fg (KS, m, q) = B_X6_readBehind_95 3 1 b (sI (sgn1 T s)) fg (KS, m, q) := fun z => by
    unfold B_X6_readBehind_57
    by_cases z1 : bd (sgn1 T s) = 4
    · rw [z1]
      simp (disch := omega) only [lit, eq_T, reduceIte, gic_3_5, ob_some, r5, eq_F]
    · simp (disch := omega) only [lit, eq_F, reduceIte]
  have q131 : ¬ ((sgn1 T s = 313 ∨ sgn1 T s = 314) ∧ 2 ≤ pt) → B_X6_readBehind_95 3 1 b (sI (sgn1 T s)) fg (KS, m, q) = B_X6_readBehind_131 3 1 b (sI (sgn1 T s)) fg (KS, m, q) := fun z => by
    unfold B_X6_readBehind_95 B_X6_readBehind_109
    by_cases z1 : sgn1 T s = 313
    · simp (disch := omega) only [lit, sI_eqc, z1, reduceIte, gic_3_5, ob_some, r5, lt_T]
    · by_cases z2 : sgn1 T s = 314
      · simp (disch := omega) only [lit, sI_eqc, z1, z2, reduceIte, gic_3_5, ob_some, r5, lt_T, Nat.reduceEqDiff]
      · simp (disch := omega) only [lit, sI_eqc, z1, z2, reduceIte]
  have q154 : ¬ (sgn1 T s = 93 ∧ 2 ≤ pt) → B_X6_readBehind_131 3 1 b (sI (sgn1 T s)) fg (KS, m, q) = B_X6_readBehind_154 3 1 b (sI (sgn1 T s)) fg (KS, m, q) := fun z => by
    unfold B_X6_readBehind_131
    by_cases z1 : sgn1 T s = 93
    · simp (disch := omega) only [lit, sI_eqc, z1, reduceIte, gic_3_5, ob_some, r5, lt_T]
    · simp (disch := omega) only [lit, sI_eqc, z1, reduceIte]
  have q190 : ¬ (sgn1 T s = 312 ∧ pt = 0) → B_X6_readBehind_154 3 1 b (sI (sgn1 T s)) fg (KS, m, q) = B_X6_readBehind_190 3 1 b fg (KS, m, q) := fun z => by
    unfold B_X6_readBehind_154
    by_cases z1 : sgn1 T s = 312
    · simp (disch := omega) only [lit, sI_eqc, z1, reduceIte, gic_3_5, ob_some, r5, eq_F]
    · simp (disch := omega) only [lit, sI_eqc, z1, reduceIte]
  have jo : 1 ≤ bd (sgn1 T s) → sgn1 T s ≠ 315 → sI (sgn1 T s) = nI (sgn1 T s) ∧ ∀ m it' pt', CR T b m (0, end1 T s, 3, pt', st, it', cl, c1, cd) → ∃ m1, F_X6_join 3 (nI (sgn1 T s)) b (KS, m, q) = some ((), (KS, m1, q)) ∧ FrC b m m1 ∧ CR T b m1 (0, end1 T s, 3, pt', sgn1 T s :: (rl (bd (sgn1 T s)) st cd).1, it', cl, c1, (rl (bd (sgn1 T s)) st cd).2) := fun hg hg2 => by
    have hne := (sgn_en hg).2.2.2.1
    exact ⟨sI_n (by omega), fun m it' pt' hh => joC hb hh hg hg2 (hlen (by omega)) hm⟩
  unfold sB
  by_cases z1 : 5 ≤ bd (sgn1 T s) ∧ pt ≠ 3
  · rw [if_pos z1]
    obtain ⟨j1, j2⟩ := jo (by omega) (fun h => by rw [h] at z1; exact absurd z1.1 (by decide))
    obtain ⟨m1, a1, a2, a3⟩ := j2 m it pt h0
    refine ⟨mk_u2 m1 3 4 (nI 1), ?_, a2.up (by omega), a3.nx (by omega) (fun _ => lv3) (fun z => .inr ⟨lv3, by
      rcases z with z | z
      · omega
      · exact z.2⟩)⟩
    rw [q0, j1]
    unfold B_X6_readBehind_27
    simp (disch := omega) only [ob_some, reduceIte, lit, le_T, le_F, lt_T, lt_F, eq_T, eq_F, nI_add, gac_0_0, gac_0_1, gac_0_2, gac_0_3, gac_0_4, gac_0_5, gac_0_6, gac_1_0, gic_1_1, gic_1_2, gic_1_3, gic_1_4, gic_1_5, gic_1_6, gac_3_0, gic_3_1, gic_3_2, gic_3_3, gic_3_4, gic_3_5, gic_3_6, gic_3_7, gic_5_0, gic_5_1, gic_5_2, gic_5_3, gic_5_4, gac_5_5, gac_5_6, gac_5_7, gac_5_8, gac_5_9, gac_5_10, gac_5_11, gac_13_0, gac_13_1, gic_13_2, gac_13_3, gac_13_4, gac_13_5, gac_13_6, gac_13_7, gac_13_8, gac_13_9, gic_13_10, gic_13_11, gic_13_12, gic_13_13, gac_14_0, gac_14_1, gac_14_2, gac_14_3, gic_14_4, gic_14_5, gic_15_0, gic_15_1, gic_15_2, gic_15_3, gic_15_4, gac_15_5, gac_15_6, gac_15_7, gac_15_8, gac_15_9, gac_15_10, gac_15_11, gac_23_0, gac_23_1, gac_23_2, gac_23_3, gac_23_4, gac_23_5, gac_23_6, gic_23_7, gic_23_8, gac_31_0, gic_31_1, gic_31_2, gac_193_0, gac_193_1, gac_193_2, gic_193_3, gac_198_0, gac_200_0, gac_200_1, gac_200_2, gac_200_3, gac_200_4, gac_200_5, gac_200_6, gic_200_7, gic_200_8, pic_1_1, pic_1_2, pic_1_3, pic_1_4, pic_1_5, pic_1_6, pic_3_1, pic_3_2, pic_3_3, pic_3_4, pic_3_5, pic_3_6, pic_3_7, pic_5_0, pic_5_1, pic_5_2, pic_5_3, pic_5_4, pic_13_2, pic_13_10, pic_13_11, pic_13_12, pic_13_13, pic_14_4, pic_14_5, pic_15_0, pic_15_1, pic_15_2, pic_15_3, pic_15_4, pic_23_7, pic_23_8, pic_31_1, pic_31_2, pic_193_3, pic_200_7, pic_200_8, gdc_0, gdc_1, gdc_3, gdc_5, gdc_13, gdc_14, gdc_15, gdc_23, gdc_31, gdc_193, gdc_198, gdc_200, ldc_2, stc_2, ldc_4, stc_4, ldc_6, stc_6, ldc_7, stc_7, ldc_8, stc_8, ldc_9, stc_9, ldc_10, stc_10, ldc_11, stc_11, ldc_12, stc_12, ldc_16, stc_16, ldc_17, stc_17, ldc_18, stc_18, ldc_19, stc_19, ldc_20, stc_20, ldc_21, stc_21, ldc_22, stc_22, ldc_24, stc_24, ldc_25, stc_25, ldc_26, stc_26, ldc_27, stc_27, ldc_28, stc_28, ldc_29, stc_29, ldc_30, stc_30, ldc_194, stc_194, ldc_195, stc_195, ldc_196, stc_196, ldc_199, stc_199, ldc_201, stc_201, ldc_202, stc_202, ldc_203, stc_203, ldc_204, stc_204, ldc_205, stc_205, ldc_206, stc_206, ldc_207, stc_207, ldc_208, stc_208, ldc_209, stc_209, ldc_210, stc_210, ldc_211, stc_211, ldc_213, stc_213, ldc_214, stc_214, ldc_215, stc_215, ldc_216, stc_216, ldc_217, stc_217, ldc_218, stc_218, ldc_219, stc_219, ldc_263, stc_263, lda_197, lda_262, lda_212, lda_32, u2_s, u2_a, u2_b, r5, a1]
  rw [if_neg z1]
  by_cases z2 : bd (sgn1 T s) = 4 ∧ pt = 1
  · rw [if_pos z2]
    obtain ⟨j1, j2⟩ := jo (by omega) (fun h => by rw [h] at z2; exact absurd z2.1 (by decide))
    by_cases c : it < 60
    · rw [if_pos c]
      have hci := ciC (by omega) h0
      obtain ⟨m1, a1, a2, a3⟩ := j2 _ (it + 1) pt hci
      rw [z2.1] at a3
      have a4 := a3.pt (pt' := 2) (by omega) (fun _ => .inr ⟨lv3, by omega⟩)
      refine ⟨mk_u2 (mk_u2 m1 3 5 (nI 2)) 3 4 (nI 1), ?_, (((FrC.rf.up (by omega)).trans a2).up (by omega)).up (by omega), a4.nx (by omega) (fun _ => lv3) (fun _ => .inr ⟨lv3, by omega⟩)⟩
      rw [q0, q57 z1, j1]
      rw [z2.2] at r5
      unfold B_X6_readBehind_57 F_X6_countItem
      simp (disch := omega) only [ob_some, reduceIte, lit, le_T, le_F, lt_T, lt_F, eq_T, eq_F, nI_add, gac_0_0, gac_0_1, gac_0_2, gac_0_3, gac_0_4, gac_0_5, gac_0_6, gac_1_0, gic_1_1, gic_1_2, gic_1_3, gic_1_4, gic_1_5, gic_1_6, gac_3_0, gic_3_1, gic_3_2, gic_3_3, gic_3_4, gic_3_5, gic_3_6, gic_3_7, gic_5_0, gic_5_1, gic_5_2, gic_5_3, gic_5_4, gac_5_5, gac_5_6, gac_5_7, gac_5_8, gac_5_9, gac_5_10, gac_5_11, gac_13_0, gac_13_1, gic_13_2, gac_13_3, gac_13_4, gac_13_5, gac_13_6, gac_13_7, gac_13_8, gac_13_9, gic_13_10, gic_13_11, gic_13_12, gic_13_13, gac_14_0, gac_14_1, gac_14_2, gac_14_3, gic_14_4, gic_14_5, gic_15_0, gic_15_1, gic_15_2, gic_15_3, gic_15_4, gac_15_5, gac_15_6, gac_15_7, gac_15_8, gac_15_9, gac_15_10, gac_15_11, gac_23_0, gac_23_1, gac_23_2, gac_23_3, gac_23_4, gac_23_5, gac_23_6, gic_23_7, gic_23_8, gac_31_0, gic_31_1, gic_31_2, gac_193_0, gac_193_1, gac_193_2, gic_193_3, gac_198_0, gac_200_0, gac_200_1, gac_200_2, gac_200_3, gac_200_4, gac_200_5, gac_200_6, gic_200_7, gic_200_8, pic_1_1, pic_1_2, pic_1_3, pic_1_4, pic_1_5, pic_1_6, pic_3_1, pic_3_2, pic_3_3, pic_3_4, pic_3_5, pic_3_6, pic_3_7, pic_5_0, pic_5_1, pic_5_2, pic_5_3, pic_5_4, pic_13_2, pic_13_10, pic_13_11, pic_13_12, pic_13_13, pic_14_4, pic_14_5, pic_15_0, pic_15_1, pic_15_2, pic_15_3, pic_15_4, pic_23_7, pic_23_8, pic_31_1, pic_31_2, pic_193_3, pic_200_7, pic_200_8, gdc_0, gdc_1, gdc_3, gdc_5, gdc_13, gdc_14, gdc_15, gdc_23, gdc_31, gdc_193, gdc_198, gdc_200, ldc_2, stc_2, ldc_4, stc_4, ldc_6, stc_6, ldc_7, stc_7, ldc_8, stc_8, ldc_9, stc_9, ldc_10, stc_10, ldc_11, stc_11, ldc_12, stc_12, ldc_16, stc_16, ldc_17, stc_17, ldc_18, stc_18, ldc_19, stc_19, ldc_20, stc_20, ldc_21, stc_21, ldc_22, stc_22, ldc_24, stc_24, ldc_25, stc_25, ldc_26, stc_26, ldc_27, stc_27, ldc_28, stc_28, ldc_29, stc_29, ldc_30, stc_30, ldc_194, stc_194, ldc_195, stc_195, ldc_196, stc_196, ldc_199, stc_199, ldc_201, stc_201, ldc_202, stc_202, ldc_203, stc_203, ldc_204, stc_204, ldc_205, stc_205, ldc_206, stc_206, ldc_207, stc_207, ldc_208, stc_208, ldc_209, stc_209, ldc_210, stc_210, ldc_211, stc_211, ldc_213, stc_213, ldc_214, stc_214, ldc_215, stc_215, ldc_216, stc_216, ldc_217, stc_217, ldc_218, stc_218, ldc_219, stc_219, ldc_263, stc_263, lda_197, lda_262, lda_212, lda_32, u2_s, u2_a, u2_b, r5, z2.1, ri, a1]
    · rw [if_neg c]
      have hit60 : it = 60 := by omega
      subst hit60
      have fl := flC (m := mk_u2 m 3 3 (nI (60 + 1))) (q := q) (c := 3) ((u2_a (by omega)).trans h3) ((u2_a (by omega)).trans k1) (by omega)
      rw [if_pos rfl] at fl
      have hjx := jx (T := T) (q := q) (f := 1 + 8 * s + 3) hb (ciC (by omega) h0) (g := sgn1 T s) (by omega) (fun h => by rw [h] at z2; exact absurd z2.1 (by decide)) (by have := (sgn_en (s := sgn1 T s) (by omega)).2.2.2.1; exact hlen (by omega)) hm
      obtain ⟨m1, a1, a2, a3⟩ := hjx
      have fr : FrC b m (mk_u2 (mk_u2 m1 3 5 (nI 2)) 3 4 (nI 1)) := ((((FrC.rf (b := b) (m := m)).up (a := 3) (k := 3) (v := nI (60 + 1)) (by omega)).trans a2).up (by omega)).up (by omega)
      refine ⟨_, ?_, fr, CR.flt (hT.fc (by omega) fr) ((u2_a (by omega)).trans ((u2_a (by omega)).trans a3)) (by omega)⟩
      rw [q0, q57 z1, j1]
      rw [z2.2] at r5
      unfold B_X6_readBehind_57 F_X6_countItem
      simp (disch := omega) only [ob_some, reduceIte, lit, le_T, le_F, lt_T, lt_F, eq_T, eq_F, nI_add, gac_0_0, gac_0_1, gac_0_2, gac_0_3, gac_0_4, gac_0_5, gac_0_6, gac_1_0, gic_1_1, gic_1_2, gic_1_3, gic_1_4, gic_1_5, gic_1_6, gac_3_0, gic_3_1, gic_3_2, gic_3_3, gic_3_4, gic_3_5, gic_3_6, gic_3_7, gic_5_0, gic_5_1, gic_5_2, gic_5_3, gic_5_4, gac_5_5, gac_5_6, gac_5_7, gac_5_8, gac_5_9, gac_5_10, gac_5_11, gac_13_0, gac_13_1, gic_13_2, gac_13_3, gac_13_4, gac_13_5, gac_13_6, gac_13_7, gac_13_8, gac_13_9, gic_13_10, gic_13_11, gic_13_12, gic_13_13, gac_14_0, gac_14_1, gac_14_2, gac_14_3, gic_14_4, gic_14_5, gic_15_0, gic_15_1, gic_15_2, gic_15_3, gic_15_4, gac_15_5, gac_15_6, gac_15_7, gac_15_8, gac_15_9, gac_15_10, gac_15_11, gac_23_0, gac_23_1, gac_23_2, gac_23_3, gac_23_4, gac_23_5, gac_23_6, gic_23_7, gic_23_8, gac_31_0, gic_31_1, gic_31_2, gac_193_0, gac_193_1, gac_193_2, gic_193_3, gac_198_0, gac_200_0, gac_200_1, gac_200_2, gac_200_3, gac_200_4, gac_200_5, gac_200_6, gic_200_7, gic_200_8, pic_1_1, pic_1_2, pic_1_3, pic_1_4, pic_1_5, pic_1_6, pic_3_1, pic_3_2, pic_3_3, pic_3_4, pic_3_5, pic_3_6, pic_3_7, pic_5_0, pic_5_1, pic_5_2, pic_5_3, pic_5_4, pic_13_2, pic_13_10, pic_13_11, pic_13_12, pic_13_13, pic_14_4, pic_14_5, pic_15_0, pic_15_1, pic_15_2, pic_15_3, pic_15_4, pic_23_7, pic_23_8, pic_31_1, pic_31_2, pic_193_3, pic_200_7, pic_200_8, gdc_0, gdc_1, gdc_3, gdc_5, gdc_13, gdc_14, gdc_15, gdc_23, gdc_31, gdc_193, gdc_198, gdc_200, ldc_2, stc_2, ldc_4, stc_4, ldc_6, stc_6, ldc_7, stc_7, ldc_8, stc_8, ldc_9, stc_9, ldc_10, stc_10, ldc_11, stc_11, ldc_12, stc_12, ldc_16, stc_16, ldc_17, stc_17, ldc_18, stc_18, ldc_19, stc_19, ldc_20, stc_20, ldc_21, stc_21, ldc_22, stc_22, ldc_24, stc_24, ldc_25, stc_25, ldc_26, stc_26, ldc_27, stc_27, ldc_28, stc_28, ldc_29, stc_29, ldc_30, stc_30, ldc_194, stc_194, ldc_195, stc_195, ldc_196, stc_196, ldc_199, stc_199, ldc_201, stc_201, ldc_202, stc_202, ldc_203, stc_203, ldc_204, stc_204, ldc_205, stc_205, ldc_206, stc_206, ldc_207, stc_207, ldc_208, stc_208, ldc_209, stc_209, ldc_210, stc_210, ldc_211, stc_211, ldc_213, stc_213, ldc_214, stc_214, ldc_215, stc_215, ldc_216, stc_216, ldc_217, stc_217, ldc_218, stc_218, ldc_219, stc_219, ldc_263, stc_263, lda_197, lda_262, lda_212, lda_32, u2_s, u2_a, u2_b, r5, z2.1, ri, fl, a1]
  rw [if_neg z2]
  by_cases z3 : (sgn1 T s = 313 ∨ sgn1 T s = 314) ∧ 2 ≤ pt
  · rw [if_pos z3]
    obtain ⟨j1, j2⟩ := jo (by rcases z3.1 with h | h <;> rw [h] <;> decide) (by omega)
    obtain ⟨m1, a1, a2, a3⟩ := j2 m it pt h0
    refine ⟨mk_u2 m1 3 4 (nI 2), ?_, a2.up (by omega), a3.nx (by omega) (fun _ => lv3) (fun _ => .inr ⟨lv3, by omega⟩)⟩
    rw [q0, q57 z1, q95 z2, j1]
    unfold B_X6_readBehind_95 B_X6_readBehind_109
    rcases z3.1 with h | h
    · rw [h] at a1 ⊢
      simp (disch := omega) only [ob_some, reduceIte, lit, le_T, le_F, lt_T, lt_F, eq_T, eq_F, nI_add, gac_0_0, gac_0_1, gac_0_2, gac_0_3, gac_0_4, gac_0_5, gac_0_6, gac_1_0, gic_1_1, gic_1_2, gic_1_3, gic_1_4, gic_1_5, gic_1_6, gac_3_0, gic_3_1, gic_3_2, gic_3_3, gic_3_4, gic_3_5, gic_3_6, gic_3_7, gic_5_0, gic_5_1, gic_5_2, gic_5_3, gic_5_4, gac_5_5, gac_5_6, gac_5_7, gac_5_8, gac_5_9, gac_5_10, gac_5_11, gac_13_0, gac_13_1, gic_13_2, gac_13_3, gac_13_4, gac_13_5, gac_13_6, gac_13_7, gac_13_8, gac_13_9, gic_13_10, gic_13_11, gic_13_12, gic_13_13, gac_14_0, gac_14_1, gac_14_2, gac_14_3, gic_14_4, gic_14_5, gic_15_0, gic_15_1, gic_15_2, gic_15_3, gic_15_4, gac_15_5, gac_15_6, gac_15_7, gac_15_8, gac_15_9, gac_15_10, gac_15_11, gac_23_0, gac_23_1, gac_23_2, gac_23_3, gac_23_4, gac_23_5, gac_23_6, gic_23_7, gic_23_8, gac_31_0, gic_31_1, gic_31_2, gac_193_0, gac_193_1, gac_193_2, gic_193_3, gac_198_0, gac_200_0, gac_200_1, gac_200_2, gac_200_3, gac_200_4, gac_200_5, gac_200_6, gic_200_7, gic_200_8, pic_1_1, pic_1_2, pic_1_3, pic_1_4, pic_1_5, pic_1_6, pic_3_1, pic_3_2, pic_3_3, pic_3_4, pic_3_5, pic_3_6, pic_3_7, pic_5_0, pic_5_1, pic_5_2, pic_5_3, pic_5_4, pic_13_2, pic_13_10, pic_13_11, pic_13_12, pic_13_13, pic_14_4, pic_14_5, pic_15_0, pic_15_1, pic_15_2, pic_15_3, pic_15_4, pic_23_7, pic_23_8, pic_31_1, pic_31_2, pic_193_3, pic_200_7, pic_200_8, gdc_0, gdc_1, gdc_3, gdc_5, gdc_13, gdc_14, gdc_15, gdc_23, gdc_31, gdc_193, gdc_198, gdc_200, ldc_2, stc_2, ldc_4, stc_4, ldc_6, stc_6, ldc_7, stc_7, ldc_8, stc_8, ldc_9, stc_9, ldc_10, stc_10, ldc_11, stc_11, ldc_12, stc_12, ldc_16, stc_16, ldc_17, stc_17, ldc_18, stc_18, ldc_19, stc_19, ldc_20, stc_20, ldc_21, stc_21, ldc_22, stc_22, ldc_24, stc_24, ldc_25, stc_25, ldc_26, stc_26, ldc_27, stc_27, ldc_28, stc_28, ldc_29, stc_29, ldc_30, stc_30, ldc_194, stc_194, ldc_195, stc_195, ldc_196, stc_196, ldc_199, stc_199, ldc_201, stc_201, ldc_202, stc_202, ldc_203, stc_203, ldc_204, stc_204, ldc_205, stc_205, ldc_206, stc_206, ldc_207, stc_207, ldc_208, stc_208, ldc_209, stc_209, ldc_210, stc_210, ldc_211, stc_211, ldc_213, stc_213, ldc_214, stc_214, ldc_215, stc_215, ldc_216, stc_216, ldc_217, stc_217, ldc_218, stc_218, ldc_219, stc_219, ldc_263, stc_263, lda_197, lda_262, lda_212, lda_32, u2_s, u2_a, u2_b, r5, a1]
    · rw [h] at a1 ⊢
      simp (disch := omega) only [ob_some, reduceIte, lit, le_T, le_F, lt_T, lt_F, eq_T, eq_F, nI_add, gac_0_0, gac_0_1, gac_0_2, gac_0_3, gac_0_4, gac_0_5, gac_0_6, gac_1_0, gic_1_1, gic_1_2, gic_1_3, gic_1_4, gic_1_5, gic_1_6, gac_3_0, gic_3_1, gic_3_2, gic_3_3, gic_3_4, gic_3_5, gic_3_6, gic_3_7, gic_5_0, gic_5_1, gic_5_2, gic_5_3, gic_5_4, gac_5_5, gac_5_6, gac_5_7, gac_5_8, gac_5_9, gac_5_10, gac_5_11, gac_13_0, gac_13_1, gic_13_2, gac_13_3, gac_13_4, gac_13_5, gac_13_6, gac_13_7, gac_13_8, gac_13_9, gic_13_10, gic_13_11, gic_13_12, gic_13_13, gac_14_0, gac_14_1, gac_14_2, gac_14_3, gic_14_4, gic_14_5, gic_15_0, gic_15_1, gic_15_2, gic_15_3, gic_15_4, gac_15_5, gac_15_6, gac_15_7, gac_15_8, gac_15_9, gac_15_10, gac_15_11, gac_23_0, gac_23_1, gac_23_2, gac_23_3, gac_23_4, gac_23_5, gac_23_6, gic_23_7, gic_23_8, gac_31_0, gic_31_1, gic_31_2, gac_193_0, gac_193_1, gac_193_2, gic_193_3, gac_198_0, gac_200_0, gac_200_1, gac_200_2, gac_200_3, gac_200_4, gac_200_5, gac_200_6, gic_200_7, gic_200_8, pic_1_1, pic_1_2, pic_1_3, pic_1_4, pic_1_5, pic_1_6, pic_3_1, pic_3_2, pic_3_3, pic_3_4, pic_3_5, pic_3_6, pic_3_7, pic_5_0, pic_5_1, pic_5_2, pic_5_3, pic_5_4, pic_13_2, pic_13_10, pic_13_11, pic_13_12, pic_13_13, pic_14_4, pic_14_5, pic_15_0, pic_15_1, pic_15_2, pic_15_3, pic_15_4, pic_23_7, pic_23_8, pic_31_1, pic_31_2, pic_193_3, pic_200_7, pic_200_8, gdc_0, gdc_1, gdc_3, gdc_5, gdc_13, gdc_14, gdc_15, gdc_23, gdc_31, gdc_193, gdc_198, gdc_200, ldc_2, stc_2, ldc_4, stc_4, ldc_6, stc_6, ldc_7, stc_7, ldc_8, stc_8, ldc_9, stc_9, ldc_10, stc_10, ldc_11, stc_11, ldc_12, stc_12, ldc_16, stc_16, ldc_17, stc_17, ldc_18, stc_18, ldc_19, stc_19, ldc_20, stc_20, ldc_21, stc_21, ldc_22, stc_22, ldc_24, stc_24, ldc_25, stc_25, ldc_26, stc_26, ldc_27, stc_27, ldc_28, stc_28, ldc_29, stc_29, ldc_30, stc_30, ldc_194, stc_194, ldc_195, stc_195, ldc_196, stc_196, ldc_199, stc_199, ldc_201, stc_201, ldc_202, stc_202, ldc_203, stc_203, ldc_204, stc_204, ldc_205, stc_205, ldc_206, stc_206, ldc_207, stc_207, ldc_208, stc_208, ldc_209, stc_209, ldc_210, stc_210, ldc_211, stc_211, ldc_213, stc_213, ldc_214, stc_214, ldc_215, stc_215, ldc_216, stc_216, ldc_217, stc_217, ldc_218, stc_218, ldc_219, stc_219, ldc_263, stc_263, lda_197, lda_262, lda_212, lda_32, u2_s, u2_a, u2_b, r5, a1]
  rw [if_neg z3]
  by_cases z4 : sgn1 T s = 93 ∧ 2 ≤ pt
  · rw [if_pos z4]
    obtain ⟨m1, a1, a2, a3, a4⟩ := reC (q := q) hb h0 (Nat.le_refl 1) (by omega) hlen2 hm
    obtain ⟨hTm, hm3, hmr⟩ := id a4
    obtain ⟨y2, y4, y5, ⟨y1, yS⟩, yd, yi, yn, yc, yP, ys1, ys2, y6, y7⟩ := hmr rfl
    have st0 : F_X6_readBehind 3 1 b (KS, m, q) = (F_X6_closeBracket 3 1 b (KS, m, q)).bind fun z => some ((), z.2) := by
      rw [q0, q57 z1, q95 z2, q131 z3]
      unfold B_X6_readBehind_131
      simp (disch := omega) only [lit, sI_eqc, z4.1, reduceIte, gic_3_5, ob_some, r5, lt_F]
    cases hr1 : (rl 1 st cd).1 with
    | nil =>
      rw [if_pos rfl]
      rw [hr1] at y1
      have y1 : m1 3 1 = nI 0 := y1
      have fl := flC (q := q) (c := 0) hm3 (by rw [a3]; exact k1) (by omega)
      rw [if_pos rfl] at fl
      have fr : FrC b m (mk_u2 m1 1 3 (nI (1 + 8 * s + 0))) := a2.up (by omega)
      refine ⟨_, ?_, fr, CR.flt (hT.fc (by omega) fr) u2_s (by omega)⟩
      rw [st0]
      unfold F_X6_closeBracket
      simp (disch := omega) only [ob_some, reduceIte, lit, le_T, le_F, lt_T, lt_F, eq_T, eq_F, nI_add, gac_0_0, gac_0_1, gac_0_2, gac_0_3, gac_0_4, gac_0_5, gac_0_6, gac_1_0, gic_1_1, gic_1_2, gic_1_3, gic_1_4, gic_1_5, gic_1_6, gac_3_0, gic_3_1, gic_3_2, gic_3_3, gic_3_4, gic_3_5, gic_3_6, gic_3_7, gic_5_0, gic_5_1, gic_5_2, gic_5_3, gic_5_4, gac_5_5, gac_5_6, gac_5_7, gac_5_8, gac_5_9, gac_5_10, gac_5_11, gac_13_0, gac_13_1, gic_13_2, gac_13_3, gac_13_4, gac_13_5, gac_13_6, gac_13_7, gac_13_8, gac_13_9, gic_13_10, gic_13_11, gic_13_12, gic_13_13, gac_14_0, gac_14_1, gac_14_2, gac_14_3, gic_14_4, gic_14_5, gic_15_0, gic_15_1, gic_15_2, gic_15_3, gic_15_4, gac_15_5, gac_15_6, gac_15_7, gac_15_8, gac_15_9, gac_15_10, gac_15_11, gac_23_0, gac_23_1, gac_23_2, gac_23_3, gac_23_4, gac_23_5, gac_23_6, gic_23_7, gic_23_8, gac_31_0, gic_31_1, gic_31_2, gac_193_0, gac_193_1, gac_193_2, gic_193_3, gac_198_0, gac_200_0, gac_200_1, gac_200_2, gac_200_3, gac_200_4, gac_200_5, gac_200_6, gic_200_7, gic_200_8, pic_1_1, pic_1_2, pic_1_3, pic_1_4, pic_1_5, pic_1_6, pic_3_1, pic_3_2, pic_3_3, pic_3_4, pic_3_5, pic_3_6, pic_3_7, pic_5_0, pic_5_1, pic_5_2, pic_5_3, pic_5_4, pic_13_2, pic_13_10, pic_13_11, pic_13_12, pic_13_13, pic_14_4, pic_14_5, pic_15_0, pic_15_1, pic_15_2, pic_15_3, pic_15_4, pic_23_7, pic_23_8, pic_31_1, pic_31_2, pic_193_3, pic_200_7, pic_200_8, gdc_0, gdc_1, gdc_3, gdc_5, gdc_13, gdc_14, gdc_15, gdc_23, gdc_31, gdc_193, gdc_198, gdc_200, ldc_2, stc_2, ldc_4, stc_4, ldc_6, stc_6, ldc_7, stc_7, ldc_8, stc_8, ldc_9, stc_9, ldc_10, stc_10, ldc_11, stc_11, ldc_12, stc_12, ldc_16, stc_16, ldc_17, stc_17, ldc_18, stc_18, ldc_19, stc_19, ldc_20, stc_20, ldc_21, stc_21, ldc_22, stc_22, ldc_24, stc_24, ldc_25, stc_25, ldc_26, stc_26, ldc_27, stc_27, ldc_28, stc_28, ldc_29, stc_29, ldc_30, stc_30, ldc_194, stc_194, ldc_195, stc_195, ldc_196, stc_196, ldc_199, stc_199, ldc_201, stc_201, ldc_202, stc_202, ldc_203, stc_203, ldc_204, stc_204, ldc_205, stc_205, ldc_206, stc_206, ldc_207, stc_207, ldc_208, stc_208, ldc_209, stc_209, ldc_210, stc_210, ldc_211, stc_211, ldc_213, stc_213, ldc_214, stc_214, ldc_215, stc_215, ldc_216, stc_216, ldc_217, stc_217, ldc_218, stc_218, ldc_219, stc_219, ldc_263, stc_263, lda_197, lda_262, lda_212, lda_32, u2_s, u2_a, u2_b, a1, y1, fl]
    | cons y r =>
      rw [if_neg (by simp)]
      have hyb := rl_hd st cd y r hr1
      have hy91 : y = 91 := by
        rcases hm y (rl_mem (lv := 1) st cd (by rw [hr1]; exact List.mem_cons_self ..)) with h | h
        · exact h
        · omega
      have hl := rl_len (lv := 1) st cd
      rw [hr1] at y1 yS yd hl
      simp only [List.length_cons] at y1 hl
      have hdp : dp (y :: r) = dp r + 1 := by simp only [dp]; rw [if_pos (.inl hy91)]
      rw [hdp] at yd
      have hdl := dp_le r
      have s1 : nI (r.length + 1) - nI 1 = nI r.length := pk_sub (by omega)
      have s2 : nI (dp r + 1) - nI 1 = nI (dp r) := pk_sub (by omega)
      have fr : FrC b m1 (mk_u2 (mk_u2 (mk_u2 m1 3 1 (nI r.length)) 3 2 (nI (dp r))) 3 5 (nI 3)) := ((FrC.rf.up (by omega)).up (by omega)).up (by omega)
      refine ⟨mk_u2 (mk_u2 (mk_u2 m1 3 1 (nI r.length)) 3 2 (nI (dp r))) 3 5 (nI 3), ?_, a2.trans fr, hTm.fc (by omega) fr, by simp (disch := omega) only [u2_s, u2_a, u2_b, hm3], fun _ => ⟨by simp (disch := omega) only [u2_s, u2_a, u2_b, y2], by simp (disch := omega) only [u2_s, u2_a, u2_b, y4], fun _ => u2_s, ⟨by simp (disch := omega) only [u2_s, u2_a, u2_b, List.tail_cons], yS.2.congr (fun k _ => by simp (disch := omega) only [u2_s, u2_a, u2_b])⟩, by simp (disch := omega) only [u2_s, u2_a, u2_b, List.tail_cons], by simp (disch := omega) only [u2_s, u2_a, u2_b, yi], by simp (disch := omega) only [u2_s, u2_a, u2_b, yn], by simp (disch := omega) only [u2_s, u2_a, u2_b, yc], yP.fr (fun k _ => by simp (disch := omega) only [u2_s, u2_a, u2_b, and_self]) (fun k _ => by simp (disch := omega) only [u2_s, u2_a, u2_b, and_self]), ys1.fr (fun k _ => by simp (disch := omega) only [u2_s, u2_a, u2_b, and_self]), ys2.fr (fun k _ => by simp (disch := omega) only [u2_s, u2_a, u2_b, and_self]), fun z => by simp (disch := omega) only [u2_s, u2_a, u2_b, y6 z], fun z => by simp (disch := omega) only [u2_s, u2_a, u2_b, y7 (.inr ⟨lv3, by omega⟩)]⟩⟩
      rw [st0]
      unfold F_X6_closeBracket
      simp (disch := omega) only [ob_some, reduceIte, lit, le_T, le_F, lt_T, lt_F, eq_T, eq_F, nI_add, gac_0_0, gac_0_1, gac_0_2, gac_0_3, gac_0_4, gac_0_5, gac_0_6, gac_1_0, gic_1_1, gic_1_2, gic_1_3, gic_1_4, gic_1_5, gic_1_6, gac_3_0, gic_3_1, gic_3_2, gic_3_3, gic_3_4, gic_3_5, gic_3_6, gic_3_7, gic_5_0, gic_5_1, gic_5_2, gic_5_3, gic_5_4, gac_5_5, gac_5_6, gac_5_7, gac_5_8, gac_5_9, gac_5_10, gac_5_11, gac_13_0, gac_13_1, gic_13_2, gac_13_3, gac_13_4, gac_13_5, gac_13_6, gac_13_7, gac_13_8, gac_13_9, gic_13_10, gic_13_11, gic_13_12, gic_13_13, gac_14_0, gac_14_1, gac_14_2, gac_14_3, gic_14_4, gic_14_5, gic_15_0, gic_15_1, gic_15_2, gic_15_3, gic_15_4, gac_15_5, gac_15_6, gac_15_7, gac_15_8, gac_15_9, gac_15_10, gac_15_11, gac_23_0, gac_23_1, gac_23_2, gac_23_3, gac_23_4, gac_23_5, gac_23_6, gic_23_7, gic_23_8, gac_31_0, gic_31_1, gic_31_2, gac_193_0, gac_193_1, gac_193_2, gic_193_3, gac_198_0, gac_200_0, gac_200_1, gac_200_2, gac_200_3, gac_200_4, gac_200_5, gac_200_6, gic_200_7, gic_200_8, pic_1_1, pic_1_2, pic_1_3, pic_1_4, pic_1_5, pic_1_6, pic_3_1, pic_3_2, pic_3_3, pic_3_4, pic_3_5, pic_3_6, pic_3_7, pic_5_0, pic_5_1, pic_5_2, pic_5_3, pic_5_4, pic_13_2, pic_13_10, pic_13_11, pic_13_12, pic_13_13, pic_14_4, pic_14_5, pic_15_0, pic_15_1, pic_15_2, pic_15_3, pic_15_4, pic_23_7, pic_23_8, pic_31_1, pic_31_2, pic_193_3, pic_200_7, pic_200_8, gdc_0, gdc_1, gdc_3, gdc_5, gdc_13, gdc_14, gdc_15, gdc_23, gdc_31, gdc_193, gdc_198, gdc_200, ldc_2, stc_2, ldc_4, stc_4, ldc_6, stc_6, ldc_7, stc_7, ldc_8, stc_8, ldc_9, stc_9, ldc_10, stc_10, ldc_11, stc_11, ldc_12, stc_12, ldc_16, stc_16, ldc_17, stc_17, ldc_18, stc_18, ldc_19, stc_19, ldc_20, stc_20, ldc_21, stc_21, ldc_22, stc_22, ldc_24, stc_24, ldc_25, stc_25, ldc_26, stc_26, ldc_27, stc_27, ldc_28, stc_28, ldc_29, stc_29, ldc_30, stc_30, ldc_194, stc_194, ldc_195, stc_195, ldc_196, stc_196, ldc_199, stc_199, ldc_201, stc_201, ldc_202, stc_202, ldc_203, stc_203, ldc_204, stc_204, ldc_205, stc_205, ldc_206, stc_206, ldc_207, stc_207, ldc_208, stc_208, ldc_209, stc_209, ldc_210, stc_210, ldc_211, stc_211, ldc_213, stc_213, ldc_214, stc_214, ldc_215, stc_215, ldc_216, stc_216, ldc_217, stc_217, ldc_218, stc_218, ldc_219, stc_219, ldc_263, stc_263, lda_197, lda_262, lda_212, lda_32, u2_s, u2_a, u2_b, a1, y1, yd, s1, s2]
  rw [if_neg z4]
  by_cases z5 : sgn1 T s = 312 ∧ pt = 0
  · rw [if_pos z5]
    have hc1 := hc1 z5.2
    subst hc1
    obtain ⟨m1, a1, a2, a3, a4⟩ := reC (q := q) hb h0 (Nat.le_refl 1) (by omega) hlen2 hm
    obtain ⟨hTm, hm3, hmr⟩ := id a4
    obtain ⟨y2, y4, y5, ⟨y1, yS⟩, yd, yi, yn, yc, yP, ys1, ys2, y6, y7⟩ := hmr rfl
    have yn' : m1 b 2 = nI (lenR cl + (rl 1 st cd).2.length) := by rw [yn]; rfl
    have y5 := y5 lv3
    rw [z5.2] at y5 r5
    have fr : FrC b m1 (mk_u2 (mk_u2 m1 3 7 (nI (lenR cl + (rl 1 st cd).2.length))) 3 4 (nI 2)) := (FrC.rf.up (by omega)).up (by omega)
    refine ⟨mk_u2 (mk_u2 m1 3 7 (nI (lenR cl + (rl 1 st cd).2.length))) 3 4 (nI 2), ?_, a2.trans fr, hTm.fc (by omega) fr, by simp (disch := omega) only [u2_s, u2_a, u2_b, hm3], fun _ => ⟨by simp (disch := omega) only [u2_s, u2_a, u2_b, y2], u2_s, fun _ => by simp (disch := omega) only [u2_s, u2_a, u2_b, y5], ⟨by simp (disch := omega) only [u2_s, u2_a, u2_b, y1], yS.congr (fun k _ => by simp (disch := omega) only [u2_s, u2_a, u2_b])⟩, by simp (disch := omega) only [u2_s, u2_a, u2_b, yd], by simp (disch := omega) only [u2_s, u2_a, u2_b, yi], by simp (disch := omega) only [u2_s, u2_a, u2_b, yn']; rfl, by simp (disch := omega) only [u2_s, u2_a, u2_b, yc], yP.fr (fun k _ => by simp (disch := omega) only [u2_s, u2_a, u2_b, and_self]) (fun k _ => by simp (disch := omega) only [u2_s, u2_a, u2_b, and_self]), SegC.fr (m := m1) ys2 (fun k _ => by simp (disch := omega) only [u2_s, u2_a, u2_b, and_self]), trivial, fun z => by simp (disch := omega) only [u2_s, u2_a, u2_b, y6 lv3], fun z => by simp (disch := omega) only [u2_s, u2_a, u2_b]⟩⟩
    rw [q0, q57 z1, q95 z2, q131 z3, q154 z4]
    unfold B_X6_readBehind_154
    simp (disch := omega) only [ob_some, reduceIte, lit, le_T, le_F, lt_T, lt_F, eq_T, eq_F, nI_add, gac_0_0, gac_0_1, gac_0_2, gac_0_3, gac_0_4, gac_0_5, gac_0_6, gac_1_0, gic_1_1, gic_1_2, gic_1_3, gic_1_4, gic_1_5, gic_1_6, gac_3_0, gic_3_1, gic_3_2, gic_3_3, gic_3_4, gic_3_5, gic_3_6, gic_3_7, gic_5_0, gic_5_1, gic_5_2, gic_5_3, gic_5_4, gac_5_5, gac_5_6, gac_5_7, gac_5_8, gac_5_9, gac_5_10, gac_5_11, gac_13_0, gac_13_1, gic_13_2, gac_13_3, gac_13_4, gac_13_5, gac_13_6, gac_13_7, gac_13_8, gac_13_9, gic_13_10, gic_13_11, gic_13_12, gic_13_13, gac_14_0, gac_14_1, gac_14_2, gac_14_3, gic_14_4, gic_14_5, gic_15_0, gic_15_1, gic_15_2, gic_15_3, gic_15_4, gac_15_5, gac_15_6, gac_15_7, gac_15_8, gac_15_9, gac_15_10, gac_15_11, gac_23_0, gac_23_1, gac_23_2, gac_23_3, gac_23_4, gac_23_5, gac_23_6, gic_23_7, gic_23_8, gac_31_0, gic_31_1, gic_31_2, gac_193_0, gac_193_1, gac_193_2, gic_193_3, gac_198_0, gac_200_0, gac_200_1, gac_200_2, gac_200_3, gac_200_4, gac_200_5, gac_200_6, gic_200_7, gic_200_8, pic_1_1, pic_1_2, pic_1_3, pic_1_4, pic_1_5, pic_1_6, pic_3_1, pic_3_2, pic_3_3, pic_3_4, pic_3_5, pic_3_6, pic_3_7, pic_5_0, pic_5_1, pic_5_2, pic_5_3, pic_5_4, pic_13_2, pic_13_10, pic_13_11, pic_13_12, pic_13_13, pic_14_4, pic_14_5, pic_15_0, pic_15_1, pic_15_2, pic_15_3, pic_15_4, pic_23_7, pic_23_8, pic_31_1, pic_31_2, pic_193_3, pic_200_7, pic_200_8, gdc_0, gdc_1, gdc_3, gdc_5, gdc_13, gdc_14, gdc_15, gdc_23, gdc_31, gdc_193, gdc_198, gdc_200, ldc_2, stc_2, ldc_4, stc_4, ldc_6, stc_6, ldc_7, stc_7, ldc_8, stc_8, ldc_9, stc_9, ldc_10, stc_10, ldc_11, stc_11, ldc_12, stc_12, ldc_16, stc_16, ldc_17, stc_17, ldc_18, stc_18, ldc_19, stc_19, ldc_20, stc_20, ldc_21, stc_21, ldc_22, stc_22, ldc_24, stc_24, ldc_25, stc_25, ldc_26, stc_26, ldc_27, stc_27, ldc_28, stc_28, ldc_29, stc_29, ldc_30, stc_30, ldc_194, stc_194, ldc_195, stc_195, ldc_196, stc_196, ldc_199, stc_199, ldc_201, stc_201, ldc_202, stc_202, ldc_203, stc_203, ldc_204, stc_204, ldc_205, stc_205, ldc_206, stc_206, ldc_207, stc_207, ldc_208, stc_208, ldc_209, stc_209, ldc_210, stc_210, ldc_211, stc_211, ldc_213, stc_213, ldc_214, stc_214, ldc_215, stc_215, ldc_216, stc_216, ldc_217, stc_217, ldc_218, stc_218, ldc_219, stc_219, ldc_263, stc_263, lda_197, lda_262, lda_212, lda_32, u2_s, u2_a, u2_b, sI_eqc, z5.1, r5, a1, rb_g hb, yn']
  rw [if_neg z5]
  have st0 : F_X6_readBehind 3 1 b (KS, m, q) = B_X6_readBehind_190 3 1 b fg (KS, m, q) := by
    rw [q0, q57 z1, q95 z2, q131 z3, q154 z4, q190 z5]
  by_cases z6 : (sgn1 T s = 59 ∨ sgn1 T s = 1000) ∧ pt ≠ 1
  · obtain ⟨m1, a1, a2, a3⟩ := ccC (q := q) hb h0 hk0 rfl hsl hlen2 hm hcl z6.1 z6.2 hp3 hc1
    refine ⟨m1, ?_, a2, a3⟩
    rw [if_pos z6.1] at hfl
    rw [st0, ← hfl]
    unfold B_X6_readBehind_190
    simp (disch := omega) only [lit, eq_F, reduceIte, gic_3_5, ob_some, r5, a1]
  · unfold sE
    rw [if_neg z6]
    have fl := flC (q := q) (c := 0) h3 k1 (by omega)
    rw [if_pos rfl] at fl
    have fr : FrC b m (mk_u2 m 1 3 (nI (1 + 8 * s + 0))) := FrC.rf.up (by omega)
    refine ⟨_, ?_, fr, CR.flt (hT.fc (by omega) fr) u2_s (by omega)⟩
    rw [st0]
    unfold B_X6_readBehind_190 B_X6_readBehind_212
    by_cases z7 : sgn1 T s = 59 ∨ sgn1 T s = 1000
    · rw [if_pos z7] at hfl
      have hp : pt = 1 := by
        apply Classical.byContradiction
        intro h
        exact z6 ⟨z7, h⟩
      rw [hp] at r5
      rw [← hfl]
      simp (disch := omega) only [lit, eq_F, eq_T, reduceIte, gic_3_5, ob_some, r5, fl]
    · rw [if_neg z7] at hfl
      rw [← hfl]
      simp (disch := omega) only [lit, eq_T, reduceIte, ob_some, fl]
