/-! RULES told: signs that join, the class -/
set_option maxRecDepth 4000 in
theorem CR.eq1 {T : TT} {b e nx pt it e' : Nat} {st : List Nat} {cl : RT} {c1 cd : List (Nat × Nat)} {m m1 : Nat → Nat → Int32} (h : CR T b m (0, e, nx, pt, st, it, cl, c1, cd)) (e1 : m1 1 1 = m 1 1) (e3 : m1 1 3 = m 1 3) (e2 : m1 1 2 = nI e') (ej : ∀ j, j ≠ 1 → m1 j = m j) (hb : 220 ≤ b) : CR T b m1 (0, e', nx, pt, st, it, cl, c1, cd) := by
  obtain ⟨hT, h3, hr⟩ := h
  obtain ⟨r2, r4, r5, ⟨r1, rS⟩, rd, ri, rn, rc, rP, rs1, rs2, r6, r7⟩ := hr rfl
  have q : ∀ j k, j ≠ 1 → m1 j k = m j k := fun j k hj => by rw [ej j hj]
  refine ⟨⟨e1.trans hT.1, hT.2.1, fun i hi => by rw [ej 2 (by omega)]; exact hT.2.2 i hi⟩, e3.trans h3, fun _ => ⟨e2, (q _ _ (by omega)).trans r4, fun z => (q _ _ (by omega)).trans (r5 z), ⟨(q _ _ (by omega)).trans r1, by rw [ej 4 (by omega)]; exact rS⟩, (q _ _ (by omega)).trans rd, (q _ _ (by omega)).trans ri, (q _ _ (by omega)).trans rn, (q _ _ (by omega)).trans rc, rP.fr (fun k _ => ⟨q _ _ (by omega), q _ _ (by omega)⟩) (fun k _ => ⟨q _ _ (by omega), q _ _ (by omega), q _ _ (by omega)⟩), rs1.fr (fun k _ => ⟨q _ _ (by omega), q _ _ (by omega)⟩), rs2.fr (fun k _ => ⟨q _ _ (by omega), q _ _ (by omega)⟩), fun z => (q _ _ (by omega)).trans (r6 z), fun z => (q _ _ (by omega)).trans (r7 z)⟩⟩
set_option maxRecDepth 4000 in
theorem reC {T : TT} {b e nx pt it lv : Nat} {st : List Nat} {cl : RT} {c1 cd : List (Nat × Nat)} {m : Nat → Nat → Int32} {q : Nat → Nat → Int64} (hb : b ∈ RB) (h : CR T b m (0, e, nx, pt, st, it, cl, c1, cd)) (h1 : 1 ≤ lv) (h6 : lv ≤ 6) (hlen : lenR cl + c1.length + cd.length + st.length ≤ 400) (hm : ∀ s, s ∈ st → s = 91 ∨ 1 ≤ bd s) : ∃ m1, F_X6_release 3 (nI lv) b (KS, m, q) = some ((), (KS, m1, q)) ∧ FrC b m m1 ∧ m1 1 = m 1 ∧ CR T b m1 (0, e, nx, pt, (rl lv st cd).1, it, cl, c1, (rl lv st cd).2) := by
  have hbl := rb_lt hb
  obtain ⟨hT, h3, hr⟩ := h
  obtain ⟨r2, r4, r5, ⟨r1, rS⟩, rd, ri, rn, rc, rP, rs1, rs2, r6, r7⟩ := hr rfl
  obtain ⟨m1, a1, ⟨f1, f2, f3, f4⟩, a3, a4, a5, a6⟩ := relL (q := q) (o := lenR cl + c1.length) hb h1 h6 st mk_fu m cd (by rw [mk_fu_eq]; omega) r1 rS rd rn rs2 hlen hm
  have fr : FrC b m m1 := ⟨fun j b1 b2 b3 b4 => f1 j (by omega) (by omega) (by omega) (by omega), by rw [f1 1 (by omega) (by omega) (by omega) (by omega)]⟩
  have e1 : m1 1 = m 1 := f1 1 (by omega) (by omega) (by omega) (by omega)
  refine ⟨m1, ?_, fr, e1, hT.fc (by omega) fr, by rw [e1]; exact h3, fun _ => ⟨by rw [e1]; exact r2, (f2 _ (by omega) (by omega)).trans r4, fun z => (f2 _ (by omega) (by omega)).trans (r5 z), ⟨a3, by rw [f1 4 (by omega) (by omega) (by omega) (by omega)]; exact StC.rl st cd rS⟩, a4, (f2 _ (by omega) (by omega)).trans ri, a5, (f3 _ (by omega)).trans rc, ?_, rs1.fr (fun k hk => f4 k (by omega)), a6, fun z => (f2 _ (by omega) (by omega)).trans (r6 z), fun z => (f2 _ (by omega) (by omega)).trans (r7 z)⟩⟩
  · unfold F_X6_release
    rw [gdc_3]
    exact a1
  · refine rP.fr (fun k hk => f4 k (by omega)) (fun j _ => ?_)
    rw [f1 (b + 3) (by omega) (by omega) (by omega) (by omega), f1 (b + 4) (by omega) (by omega) (by omega) (by omega), f1 (b + 5) (by omega) (by omega) (by omega) (by omega)]
    exact ⟨rfl, rfl, rfl⟩
set_option maxRecDepth 4000 in
theorem puC {T : TT} {b e nx pt it g d : Nat} {st : List Nat} {cl : RT} {c1 cd : List (Nat × Nat)} {m : Nat → Nat → Int32} {q : Nat → Nat → Int64} (hb : b ∈ RB) (h : CR T b m (0, e, nx, pt, st, it, cl, c1, cd)) (hd : d = dp (g :: st)) (hl : st.length < 400) : F_X6_push 3 (nI g) (KS, mk_u2 m 3 2 (nI d), q) = some ((), (KS, mk_u2 (mk_u2 (mk_u2 m 3 2 (nI d)) 4 st.length (nI g)) 3 1 (nI (st.length + 1)), q)) ∧ FrC b m (mk_u2 (mk_u2 (mk_u2 m 3 2 (nI d)) 4 st.length (nI g)) 3 1 (nI (st.length + 1))) ∧ CR T b (mk_u2 (mk_u2 (mk_u2 m 3 2 (nI d)) 4 st.length (nI g)) 3 1 (nI (st.length + 1))) (0, e, nx, pt, g :: st, it, cl, c1, cd) := by
  have hbl := rb_lt hb
  obtain ⟨hT, h3, hr⟩ := h
  obtain ⟨r2, r4, r5, ⟨r1, rS⟩, rd, ri, rn, rc, rP, rs1, rs2, r6, r7⟩ := hr rfl
  have fr : FrC b m (mk_u2 (mk_u2 (mk_u2 m 3 2 (nI d)) 4 st.length (nI g)) 3 1 (nI (st.length + 1))) := ((FrC.rf.up (by omega)).up (by omega)).up (by omega)
  refine ⟨?_, fr, hT.fc (by omega) fr, by simp (disch := omega) only [u2_s, u2_a, u2_b, h3], fun _ => ⟨by simp (disch := omega) only [u2_s, u2_a, u2_b, r2], by simp (disch := omega) only [u2_s, u2_a, u2_b, r4], fun z => by simp (disch := omega) only [u2_s, u2_a, u2_b, r5 z], ⟨by rw [u2_s]; rfl, by rw [u2_a (by omega), u2_s], ?_⟩, by rw [← hd]; simp (disch := omega) only [u2_s, u2_a, u2_b], by simp (disch := omega) only [u2_s, u2_a, u2_b, ri], by simp (disch := omega) only [u2_s, u2_a, u2_b, rn], by simp (disch := omega) only [u2_s, u2_a, u2_b, rc], rP.fr (fun k _ => by simp (disch := omega) only [u2_s, u2_a, u2_b, and_self]) (fun k _ => by simp (disch := omega) only [u2_s, u2_a, u2_b, and_self]), rs1.fr (fun k _ => by simp (disch := omega) only [u2_s, u2_a, u2_b, and_self]), rs2.fr (fun k _ => by simp (disch := omega) only [u2_s, u2_a, u2_b, and_self]), fun z => by simp (disch := omega) only [u2_s, u2_a, u2_b, r6 z], fun z => by simp (disch := omega) only [u2_s, u2_a, u2_b, r7 z]⟩⟩
  · unfold F_X6_push
    simp (disch := omega) only [ob_some, reduceIte, lit, le_T, le_F, lt_T, lt_F, eq_T, eq_F, nI_add, gac_0_0, gac_0_1, gac_0_2, gac_0_3, gac_0_4, gac_0_5, gac_0_6, gac_1_0, gic_1_1, gic_1_2, gic_1_3, gic_1_4, gic_1_5, gic_1_6, gac_3_0, gic_3_1, gic_3_2, gic_3_3, gic_3_4, gic_3_5, gic_3_6, gic_3_7, gic_5_0, gic_5_1, gic_5_2, gic_5_3, gic_5_4, gac_5_5, gac_5_6, gac_5_7, gac_5_8, gac_5_9, gac_5_10, gac_5_11, gac_13_0, gac_13_1, gic_13_2, gac_13_3, gac_13_4, gac_13_5, gac_13_6, gac_13_7, gac_13_8, gac_13_9, gic_13_10, gic_13_11, gic_13_12, gic_13_13, gac_14_0, gac_14_1, gac_14_2, gac_14_3, gic_14_4, gic_14_5, gic_15_0, gic_15_1, gic_15_2, gic_15_3, gic_15_4, gac_15_5, gac_15_6, gac_15_7, gac_15_8, gac_15_9, gac_15_10, gac_15_11, gac_23_0, gac_23_1, gac_23_2, gac_23_3, gac_23_4, gac_23_5, gac_23_6, gic_23_7, gic_23_8, gac_31_0, gic_31_1, gic_31_2, gac_193_0, gac_193_1, gac_193_2, gic_193_3, gac_198_0, gac_200_0, gac_200_1, gac_200_2, gac_200_3, gac_200_4, gac_200_5, gac_200_6, gic_200_7, gic_200_8, pic_1_1, pic_1_2, pic_1_3, pic_1_4, pic_1_5, pic_1_6, pic_3_1, pic_3_2, pic_3_3, pic_3_4, pic_3_5, pic_3_6, pic_3_7, pic_5_0, pic_5_1, pic_5_2, pic_5_3, pic_5_4, pic_13_2, pic_13_10, pic_13_11, pic_13_12, pic_13_13, pic_14_4, pic_14_5, pic_15_0, pic_15_1, pic_15_2, pic_15_3, pic_15_4, pic_23_7, pic_23_8, pic_31_1, pic_31_2, pic_193_3, pic_200_7, pic_200_8, gdc_0, gdc_1, gdc_3, gdc_5, gdc_13, gdc_14, gdc_15, gdc_23, gdc_31, gdc_193, gdc_198, gdc_200, ldc_2, stc_2, ldc_4, stc_4, ldc_6, stc_6, ldc_7, stc_7, ldc_8, stc_8, ldc_9, stc_9, ldc_10, stc_10, ldc_11, stc_11, ldc_12, stc_12, ldc_16, stc_16, ldc_17, stc_17, ldc_18, stc_18, ldc_19, stc_19, ldc_20, stc_20, ldc_21, stc_21, ldc_22, stc_22, ldc_24, stc_24, ldc_25, stc_25, ldc_26, stc_26, ldc_27, stc_27, ldc_28, stc_28, ldc_29, stc_29, ldc_30, stc_30, ldc_194, stc_194, ldc_195, stc_195, ldc_196, stc_196, ldc_199, stc_199, ldc_201, stc_201, ldc_202, stc_202, ldc_203, stc_203, ldc_204, stc_204, ldc_205, stc_205, ldc_206, stc_206, ldc_207, stc_207, ldc_208, stc_208, ldc_209, stc_209, ldc_210, stc_210, ldc_211, stc_211, ldc_213, stc_213, ldc_214, stc_214, ldc_215, stc_215, ldc_216, stc_216, ldc_217, stc_217, ldc_218, stc_218, ldc_219, stc_219, ldc_263, stc_263, lda_197, lda_262, lda_212, lda_32, u2_s, u2_a, u2_b, r1]
  · refine rS.congr (fun k hk => ?_)
    rw [u2_a (by omega), u2_b (by omega), u2_a (by omega)]
set_option maxRecDepth 4000 in
theorem joC {T : TT} {b e nx pt it g : Nat} {st : List Nat} {cl : RT} {c1 cd : List (Nat × Nat)} {m : Nat → Nat → Int32} {q : Nat → Nat → Int64} (hb : b ∈ RB) (h : CR T b m (0, e, nx, pt, st, it, cl, c1, cd)) (hg : 1 ≤ bd g) (hg2 : g ≠ 315) (hlen : lenR cl + c1.length + cd.length + st.length < 400) (hm : ∀ s, s ∈ st → s = 91 ∨ 1 ≤ bd s) : ∃ m1, F_X6_join 3 (nI g) b (KS, m, q) = some ((), (KS, m1, q)) ∧ FrC b m m1 ∧ CR T b m1 (0, e, nx, pt, g :: (rl (bd g) st cd).1, it, cl, c1, (rl (bd g) st cd).2) := by
  have hbd := bd_le g
  obtain ⟨-, -, -, g1, g2⟩ := sgn_en hg
  obtain ⟨m1, a1, a2, a3, a4⟩ := reC (q := q) hb h hg hbd (by omega) hm
  have hl := rl_len (lv := bd g) st cd
  have hd : dp (rl (bd g) st cd).1 = dp (g :: (rl (bd g) st cd).1) := by
    simp only [dp]
    rw [if_neg (by omega)]
    rfl
  obtain ⟨b1, b2, b3⟩ := puC (q := q) (g := g) hb a4 hd (by omega)
  have e2 : mk_u2 m1 3 2 (nI (dp (rl (bd g) st cd).1)) = m1 := u2_id (a4.2.2 rfl).2.2.2.2.1
  rw [e2] at b1 b2 b3
  refine ⟨_, ?_, a2.trans b2, b3⟩
  have hbn := bindC (s := g) (by omega) (KS, m, q)
  rw [sI_n (by omega)] at hbn
  unfold F_X6_join
  simp (disch := omega) only [gdc_3, hbn, ob_some, a1, b1]
set_option maxRecDepth 4000 in
theorem faC {T : TT} {b e s pt it : Nat} {st : List Nat} {cl : RT} {c1 cd : List (Nat × Nat)} {m : Nat → Nat → Int32} {q : Nat → Nat → Int64} (hb : b ∈ RB) (h : CR T b m (0, e, 2, pt, st, it, cl, c1, cd)) (hk : TK T m s) (he : e = end1 T s) (hs : sgn1 T s ≤ 1000) (hsl : s ≤ 400) (hit : it ≤ 60) (hlen : sgn1 T s ≠ 1000 → lenR cl + c1.length + cd.length + st.length < 400) (hlen2 : lenR cl + c1.length + cd.length ≤ 400) (hnum : sgn1 T s = 256 → end1 T s - s ≤ 5 → nval T s (end1 T s - s) < 100000) : ∃ m1, F_X6_readFact 3 1 b (KS, m, q) = some ((), (KS, m1, q)) ∧ FrC b m m1 ∧ CR T b m1 (sF T s pt st it cl c1 cd) := by
  have hbl := rb_lt hb
  unfold sF
  have h0 := h
  obtain ⟨hT, h3, hr⟩ := h
  obtain ⟨r2, r4, r5, ⟨r1, rS⟩, rd, ri, rn, rc, rP, rs1, rs2, r6, r7⟩ := hr rfl
  obtain ⟨k1, k2, k3⟩ := hk
  by_cases c : sgn1 T s = 91 ∨ sgn1 T s = 315
  · rw [if_pos c]
    have hl := hlen (by omega)
    have k2' : m 1 4 = nI (sgn1 T s) := by rw [k2, sI_n (by omega)]
    have st33 : F_X6_readFact 3 1 b (KS, m, q) = B_X6_readFact_33 3 1 (KS, m, q) := by
      unfold F_X6_readFact
      rcases c with c | c
      · rw [c] at k2'
        simp (disch := omega) only [gdc_3, gic_1_4, ob_some, k2', lit, eq_T, reduceIte]
      · rw [c] at k2'
        simp (disch := omega) only [gdc_3, gic_1_4, ob_some, k2', lit, eq_T, eq_F, reduceIte]
    have hdl := dp_le st
    by_cases d : dp st < 10
    · rw [if_pos d]
      have hd : dp st + 1 = dp (sgn1 T s :: st) := by
        simp only [dp]
        rw [if_pos c]
      obtain ⟨b1, b2, b3⟩ := puC (q := q) (g := sgn1 T s) hb h0 hd (by omega)
      rw [he] at b3
      refine ⟨_, ?_, b2, b3⟩
      rw [st33]
      unfold B_X6_readFact_33
      simp (disch := omega) only [ob_some, reduceIte, lit, le_T, le_F, lt_T, lt_F, eq_T, eq_F, nI_add, gac_0_0, gac_0_1, gac_0_2, gac_0_3, gac_0_4, gac_0_5, gac_0_6, gac_1_0, gic_1_1, gic_1_2, gic_1_3, gic_1_4, gic_1_5, gic_1_6, gac_3_0, gic_3_1, gic_3_2, gic_3_3, gic_3_4, gic_3_5, gic_3_6, gic_3_7, gic_5_0, gic_5_1, gic_5_2, gic_5_3, gic_5_4, gac_5_5, gac_5_6, gac_5_7, gac_5_8, gac_5_9, gac_5_10, gac_5_11, gac_13_0, gac_13_1, gic_13_2, gac_13_3, gac_13_4, gac_13_5, gac_13_6, gac_13_7, gac_13_8, gac_13_9, gic_13_10, gic_13_11, gic_13_12, gic_13_13, gac_14_0, gac_14_1, gac_14_2, gac_14_3, gic_14_4, gic_14_5, gic_15_0, gic_15_1, gic_15_2, gic_15_3, gic_15_4, gac_15_5, gac_15_6, gac_15_7, gac_15_8, gac_15_9, gac_15_10, gac_15_11, gac_23_0, gac_23_1, gac_23_2, gac_23_3, gac_23_4, gac_23_5, gac_23_6, gic_23_7, gic_23_8, gac_31_0, gic_31_1, gic_31_2, gac_193_0, gac_193_1, gac_193_2, gic_193_3, gac_198_0, gac_200_0, gac_200_1, gac_200_2, gac_200_3, gac_200_4, gac_200_5, gac_200_6, gic_200_7, gic_200_8, pic_1_1, pic_1_2, pic_1_3, pic_1_4, pic_1_5, pic_1_6, pic_3_1, pic_3_2, pic_3_3, pic_3_4, pic_3_5, pic_3_6, pic_3_7, pic_5_0, pic_5_1, pic_5_2, pic_5_3, pic_5_4, pic_13_2, pic_13_10, pic_13_11, pic_13_12, pic_13_13, pic_14_4, pic_14_5, pic_15_0, pic_15_1, pic_15_2, pic_15_3, pic_15_4, pic_23_7, pic_23_8, pic_31_1, pic_31_2, pic_193_3, pic_200_7, pic_200_8, gdc_0, gdc_1, gdc_3, gdc_5, gdc_13, gdc_14, gdc_15, gdc_23, gdc_31, gdc_193, gdc_198, gdc_200, ldc_2, stc_2, ldc_4, stc_4, ldc_6, stc_6, ldc_7, stc_7, ldc_8, stc_8, ldc_9, stc_9, ldc_10, stc_10, ldc_11, stc_11, ldc_12, stc_12, ldc_16, stc_16, ldc_17, stc_17, ldc_18, stc_18, ldc_19, stc_19, ldc_20, stc_20, ldc_21, stc_21, ldc_22, stc_22, ldc_24, stc_24, ldc_25, stc_25, ldc_26, stc_26, ldc_27, stc_27, ldc_28, stc_28, ldc_29, stc_29, ldc_30, stc_30, ldc_194, stc_194, ldc_195, stc_195, ldc_196, stc_196, ldc_199, stc_199, ldc_201, stc_201, ldc_202, stc_202, ldc_203, stc_203, ldc_204, stc_204, ldc_205, stc_205, ldc_206, stc_206, ldc_207, stc_207, ldc_208, stc_208, ldc_209, stc_209, ldc_210, stc_210, ldc_211, stc_211, ldc_213, stc_213, ldc_214, stc_214, ldc_215, stc_215, ldc_216, stc_216, ldc_217, stc_217, ldc_218, stc_218, ldc_219, stc_219, ldc_263, stc_263, lda_197, lda_262, lda_212, lda_32, u2_s, u2_a, u2_b, rd, k2', b1]
    · rw [if_neg d]
      have fl := flC (q := q) (c := 2) h3 k1 (by omega)
      rw [if_pos rfl] at fl
      have fr : FrC b m (mk_u2 m 1 3 (nI (1 + 8 * s + 2))) := FrC.rf.up (by omega)
      refine ⟨_, ?_, fr, CR.flt (hT.fc (by omega) fr) u2_s (by omega)⟩
      rw [st33]
      unfold B_X6_readFact_33
      simp (disch := omega) only [ob_some, reduceIte, lit, le_T, le_F, lt_T, lt_F, eq_T, eq_F, nI_add, gac_0_0, gac_0_1, gac_0_2, gac_0_3, gac_0_4, gac_0_5, gac_0_6, gac_1_0, gic_1_1, gic_1_2, gic_1_3, gic_1_4, gic_1_5, gic_1_6, gac_3_0, gic_3_1, gic_3_2, gic_3_3, gic_3_4, gic_3_5, gic_3_6, gic_3_7, gic_5_0, gic_5_1, gic_5_2, gic_5_3, gic_5_4, gac_5_5, gac_5_6, gac_5_7, gac_5_8, gac_5_9, gac_5_10, gac_5_11, gac_13_0, gac_13_1, gic_13_2, gac_13_3, gac_13_4, gac_13_5, gac_13_6, gac_13_7, gac_13_8, gac_13_9, gic_13_10, gic_13_11, gic_13_12, gic_13_13, gac_14_0, gac_14_1, gac_14_2, gac_14_3, gic_14_4, gic_14_5, gic_15_0, gic_15_1, gic_15_2, gic_15_3, gic_15_4, gac_15_5, gac_15_6, gac_15_7, gac_15_8, gac_15_9, gac_15_10, gac_15_11, gac_23_0, gac_23_1, gac_23_2, gac_23_3, gac_23_4, gac_23_5, gac_23_6, gic_23_7, gic_23_8, gac_31_0, gic_31_1, gic_31_2, gac_193_0, gac_193_1, gac_193_2, gic_193_3, gac_198_0, gac_200_0, gac_200_1, gac_200_2, gac_200_3, gac_200_4, gac_200_5, gac_200_6, gic_200_7, gic_200_8, pic_1_1, pic_1_2, pic_1_3, pic_1_4, pic_1_5, pic_1_6, pic_3_1, pic_3_2, pic_3_3, pic_3_4, pic_3_5, pic_3_6, pic_3_7, pic_5_0, pic_5_1, pic_5_2, pic_5_3, pic_5_4, pic_13_2, pic_13_10, pic_13_11, pic_13_12, pic_13_13, pic_14_4, pic_14_5, pic_15_0, pic_15_1, pic_15_2, pic_15_3, pic_15_4, pic_23_7, pic_23_8, pic_31_1, pic_31_2, pic_193_3, pic_200_7, pic_200_8, gdc_0, gdc_1, gdc_3, gdc_5, gdc_13, gdc_14, gdc_15, gdc_23, gdc_31, gdc_193, gdc_198, gdc_200, ldc_2, stc_2, ldc_4, stc_4, ldc_6, stc_6, ldc_7, stc_7, ldc_8, stc_8, ldc_9, stc_9, ldc_10, stc_10, ldc_11, stc_11, ldc_12, stc_12, ldc_16, stc_16, ldc_17, stc_17, ldc_18, stc_18, ldc_19, stc_19, ldc_20, stc_20, ldc_21, stc_21, ldc_22, stc_22, ldc_24, stc_24, ldc_25, stc_25, ldc_26, stc_26, ldc_27, stc_27, ldc_28, stc_28, ldc_29, stc_29, ldc_30, stc_30, ldc_194, stc_194, ldc_195, stc_195, ldc_196, stc_196, ldc_199, stc_199, ldc_201, stc_201, ldc_202, stc_202, ldc_203, stc_203, ldc_204, stc_204, ldc_205, stc_205, ldc_206, stc_206, ldc_207, stc_207, ldc_208, stc_208, ldc_209, stc_209, ldc_210, stc_210, ldc_211, stc_211, ldc_213, stc_213, ldc_214, stc_214, ldc_215, stc_215, ldc_216, stc_216, ldc_217, stc_217, ldc_218, stc_218, ldc_219, stc_219, ldc_263, stc_263, lda_197, lda_262, lda_212, lda_32, u2_s, u2_a, u2_b, rd, fl]
  · rw [if_neg c]
    have hp := CR.pt (pt' := 1) (by omega) h0 (fun _ => .inl rfl)
    obtain ⟨m1, a1, a2, a3⟩ := rvC (q := q) hb hp ⟨(u2_a (by omega)).trans k1, (u2_a (by omega)).trans k2, fun z => (u2_a (by omega)).trans (k3 z)⟩ he hs hsl lv2 hit (fun z => by have := hlen z; omega) hlen2 hnum
    refine ⟨m1, ?_, (FrC.rf.up (by omega)).trans a2, a3⟩
    have n1 : sgn1 T s ≠ 91 := by omega
    have n2 : sgn1 T s ≠ 315 := by omega
    unfold F_X6_readFact
    simp (disch := omega) only [ob_some, reduceIte, lit, le_T, le_F, lt_T, lt_F, eq_T, eq_F, nI_add, gac_0_0, gac_0_1, gac_0_2, gac_0_3, gac_0_4, gac_0_5, gac_0_6, gac_1_0, gic_1_1, gic_1_2, gic_1_3, gic_1_4, gic_1_5, gic_1_6, gac_3_0, gic_3_1, gic_3_2, gic_3_3, gic_3_4, gic_3_5, gic_3_6, gic_3_7, gic_5_0, gic_5_1, gic_5_2, gic_5_3, gic_5_4, gac_5_5, gac_5_6, gac_5_7, gac_5_8, gac_5_9, gac_5_10, gac_5_11, gac_13_0, gac_13_1, gic_13_2, gac_13_3, gac_13_4, gac_13_5, gac_13_6, gac_13_7, gac_13_8, gac_13_9, gic_13_10, gic_13_11, gic_13_12, gic_13_13, gac_14_0, gac_14_1, gac_14_2, gac_14_3, gic_14_4, gic_14_5, gic_15_0, gic_15_1, gic_15_2, gic_15_3, gic_15_4, gac_15_5, gac_15_6, gac_15_7, gac_15_8, gac_15_9, gac_15_10, gac_15_11, gac_23_0, gac_23_1, gac_23_2, gac_23_3, gac_23_4, gac_23_5, gac_23_6, gic_23_7, gic_23_8, gac_31_0, gic_31_1, gic_31_2, gac_193_0, gac_193_1, gac_193_2, gic_193_3, gac_198_0, gac_200_0, gac_200_1, gac_200_2, gac_200_3, gac_200_4, gac_200_5, gac_200_6, gic_200_7, gic_200_8, pic_1_1, pic_1_2, pic_1_3, pic_1_4, pic_1_5, pic_1_6, pic_3_1, pic_3_2, pic_3_3, pic_3_4, pic_3_5, pic_3_6, pic_3_7, pic_5_0, pic_5_1, pic_5_2, pic_5_3, pic_5_4, pic_13_2, pic_13_10, pic_13_11, pic_13_12, pic_13_13, pic_14_4, pic_14_5, pic_15_0, pic_15_1, pic_15_2, pic_15_3, pic_15_4, pic_23_7, pic_23_8, pic_31_1, pic_31_2, pic_193_3, pic_200_7, pic_200_8, gdc_0, gdc_1, gdc_3, gdc_5, gdc_13, gdc_14, gdc_15, gdc_23, gdc_31, gdc_193, gdc_198, gdc_200, ldc_2, stc_2, ldc_4, stc_4, ldc_6, stc_6, ldc_7, stc_7, ldc_8, stc_8, ldc_9, stc_9, ldc_10, stc_10, ldc_11, stc_11, ldc_12, stc_12, ldc_16, stc_16, ldc_17, stc_17, ldc_18, stc_18, ldc_19, stc_19, ldc_20, stc_20, ldc_21, stc_21, ldc_22, stc_22, ldc_24, stc_24, ldc_25, stc_25, ldc_26, stc_26, ldc_27, stc_27, ldc_28, stc_28, ldc_29, stc_29, ldc_30, stc_30, ldc_194, stc_194, ldc_195, stc_195, ldc_196, stc_196, ldc_199, stc_199, ldc_201, stc_201, ldc_202, stc_202, ldc_203, stc_203, ldc_204, stc_204, ldc_205, stc_205, ldc_206, stc_206, ldc_207, stc_207, ldc_208, stc_208, ldc_209, stc_209, ldc_210, stc_210, ldc_211, stc_211, ldc_213, stc_213, ldc_214, stc_214, ldc_215, stc_215, ldc_216, stc_216, ldc_217, stc_217, ldc_218, stc_218, ldc_219, stc_219, ldc_263, stc_263, lda_197, lda_262, lda_212, lda_32, u2_s, u2_a, u2_b, k2, sI_eqc, n1, n2, a1]
set_option maxRecDepth 4000 in
/-- closing a clause -/
theorem acC {T : TT} {b e nx pt it : Nat} {cl : RT} {c1 cd : List (Nat × Nat)} {c : List (Nat × Nat) × List (Nat × Nat)} {m : Nat → Nat → Int32} {q : Nat → Nat → Int64} (hb : b ∈ RB) (h : CR T b m (0, e, nx, pt, [], it, cl, c1, cd)) (hcl : cl.length < 12) (hc1 : c.1.length + c.2.length = c1.length + cd.length) (hs1 : SegC m b (lenR cl) c.1) (hs2 : SegC m b (lenR cl + c.1.length) c.2) : ∃ m1, F_X5_addClause b (nI (lenR cl)) (nI (lenR cl + c.1.length)) (KS, m, q) = some ((), (KS, m1, q)) ∧ FrC b m m1 ∧ m1 1 = m 1 ∧ ∀ nx', nx' = 0 ∨ nx' = 4 → CR T b (mk_u2 m1 3 4 (nI nx')) (0, e, nx', pt, [], it, cl ++ [c], [], []) := by
  have hbl := rb_lt hb
  obtain ⟨hT, h3, hr⟩ := h
  obtain ⟨r2, r4, r5, ⟨r1, rS⟩, rd, ri, rn, rc, rP, rs1, rs2, r6, r7⟩ := hr rfl
  have hN : lenR cl + c1.length + cd.length = lenR cl + c.1.length + c.2.length := by omega
  rw [hN] at rn
  refine ⟨mk_u2 (mk_u2 (mk_u2 (mk_u2 m (b + 3) cl.length (nI (lenR cl))) (b + 4) cl.length (nI (lenR cl + c.1.length))) (b + 5) cl.length (nI (lenR cl + c.1.length + c.2.length))) b 3 (nI (cl.length + 1)), ?_, (((FrC.rf.up (by omega)).up (by omega)).up (by omega)).up (by omega), by rw [mk_u2_ne (by omega), mk_u2_ne (by omega), mk_u2_ne (by omega), mk_u2_ne (by omega)], fun nx' hx => ?_⟩
  · unfold F_X5_addClause
    simp (disch := omega) only [rb_gd hb, rb_g hb, rb_st hb, rb_pi hb, ob_some, lit, le_F, reduceIte, rn, rc, nI_add, u2_s, u2_a, u2_b]
  · have fr : FrC b m (mk_u2 (mk_u2 (mk_u2 (mk_u2 (mk_u2 m (b + 3) cl.length (nI (lenR cl))) (b + 4) cl.length (nI (lenR cl + c.1.length))) (b + 5) cl.length (nI (lenR cl + c.1.length + c.2.length))) b 3 (nI (cl.length + 1))) 3 4 (nI nx')) := ((((FrC.rf.up (by omega)).up (by omega)).up (by omega)).up (by omega)).up (by omega)
    refine ⟨hT.fc (by omega) fr, by simp (disch := omega) only [u2_s, u2_a, u2_b, h3], fun _ => ⟨by simp (disch := omega) only [u2_s, u2_a, u2_b, r2], u2_s, fun z => by
      rcases hx with h | h <;> subst h
      · exact lv0 z
      · exact lv4 z, ⟨by simp (disch := omega) only [u2_s, u2_a, u2_b, r1], trivial⟩, by simp (disch := omega) only [u2_s, u2_a, u2_b, rd], by simp (disch := omega) only [u2_s, u2_a, u2_b, ri], ?_, ?_, ?_, trivial, trivial, fun z => by
      rcases hx with h | h <;> subst h
      · exact lv0 z
      · exact lv4 z, fun z => by
      rcases hx with h | h <;> subst h
      · rcases z with z | z
        · omega
        · exact lv0 z.1
      · rcases z with z | z
        · omega
        · exact lv4 z.1⟩⟩
    · simp (disch := omega) only [u2_s, u2_a, u2_b, rn]
      congr 1
      rw [lenR_app]
      simp only [List.length_nil]; omega
    · simp (disch := omega) only [u2_s, u2_a, u2_b]
      congr 1
      simp only [List.length_append, List.length_cons, List.length_nil]
    · refine ClP.app (rP.fr (fun k _ => by simp (disch := omega) only [u2_s, u2_a, u2_b, and_self]) (fun k hk => ?_)) ?_ ?_ ?_ (SegC.fr (m := m) (by rw [Nat.zero_add]; exact hs1) (fun k _ => by simp (disch := omega) only [u2_s, u2_a, u2_b, and_self])) (SegC.fr (m := m) (by rw [Nat.zero_add]; exact hs2) (fun k _ => by simp (disch := omega) only [u2_s, u2_a, u2_b, and_self]))
      · have : k ≠ cl.length := by omega
        simp (disch := omega) only [u2_s, u2_a, u2_b, and_self]
      · simp (disch := omega) only [u2_s, u2_a, u2_b, Nat.zero_add]
      · simp (disch := omega) only [u2_s, u2_a, u2_b, Nat.zero_add]
      · simp (disch := omega) only [u2_s, u2_a, u2_b, Nat.zero_add]
set_option maxRecDepth 4000 in
/-- addClause where a fault has come -/
theorem acX {b n : Nat} (m : Nat → Nat → Int32) {q : Nat → Nat → Int64} {x y : Int32} (hb : b ∈ RB) (h3 : m b 3 = nI n) (hn : n < 12) : ∃ m1, F_X5_addClause b x y (KS, m, q) = some ((), (KS, m1, q)) ∧ FrC b m m1 ∧ m1 1 = m 1 := by
  have hbl := rb_lt hb
  refine ⟨mk_u2 (mk_u2 (mk_u2 (mk_u2 m (b + 3) n x) (b + 4) n y) (b + 5) n (m b 2)) b 3 (nI (n + 1)), ?_, (((FrC.rf.up (by omega)).up (by omega)).up (by omega)).up (by omega), by rw [mk_u2_ne (by omega), mk_u2_ne (by omega), mk_u2_ne (by omega), mk_u2_ne (by omega)]⟩
  unfold F_X5_addClause
  simp (disch := omega) only [rb_gd hb, rb_g hb, rb_st hb, rb_pi hb, ob_some, lit, le_F, reduceIte, h3, nI_add, u2_s, u2_a, u2_b]
set_option maxRecDepth 4000 in
theorem ccC {T : TT} {b e s pt it : Nat} {st : List Nat} {cl : RT} {c1 cd : List (Nat × Nat)} {m : Nat → Nat → Int32} {q : Nat → Nat → Int64} (hb : b ∈ RB) (h : CR T b m (0, e, 3, pt, st, it, cl, c1, cd)) (hk : TK T m s) (he : e = end1 T s) (hsl : s ≤ 400) (hlen : lenR cl + c1.length + cd.length + st.length ≤ 400) (hm : ∀ s, s ∈ st → s = 91 ∨ 1 ≤ bd s) (hcl : cl.length < 12) (hg : sgn1 T s = 59 ∨ sgn1 T s = 1000) (hp : pt ≠ 1) (hp3 : pt ≤ 3) (hc1 : pt = 0 → c1 = []) : ∃ m1, F_X6_closeClause 3 1 b (KS, m, q) = some ((), (KS, m1, q)) ∧ FrC b m m1 ∧ CR T b m1 (sE T s pt st it cl c1 cd) := by
  have hbl := rb_lt hb
  obtain ⟨k1, k2, k3⟩ := hk
  obtain ⟨m1, a1, a2, a3, a4⟩ := reC (q := q) hb h (Nat.le_refl 1) (by omega) hlen hm
  have hl := rl_len (lv := 1) st cd
  unfold sE
  rw [if_pos ⟨hg, hp⟩]
  obtain ⟨hT, h3, hr⟩ := a4
  obtain ⟨r2, r4, r5f, ⟨r1, rS⟩, rd, ri, rn, rc, rP, rs1, rs2, r6, r7⟩ := hr rfl
  have r5 := r5f lv3
  have k2' : m1 1 4 = sI (sgn1 T s) := by rw [a3]; exact k2
  have hsg : sgn1 T s ≤ 1000 := by omega
  by_cases d : (rl 1 st cd).1 = []
  · rw [if_pos d]
    rw [d] at r1 rS rd
    have r1 : m1 3 1 = nI 0 := r1
    obtain ⟨c, hc, hcs⟩ : ∃ c : List (Nat × Nat) × List (Nat × Nat), (if pt = 0 then ((rl 1 st cd).2, []) else (c1, (rl 1 st cd).2)) = c ∧ (c.1.length + c.2.length = c1.length + (rl 1 st cd).2.length ∧ SegC m1 b (lenR cl) c.1 ∧ SegC m1 b (lenR cl + c.1.length) c.2) := by
      by_cases z : pt = 0
      · have hc1 := hc1 z
        subst hc1
        rw [if_pos z]
        exact ⟨_, rfl, by simp only [List.length_nil]; omega, rs2, trivial⟩
      · rw [if_neg z]
        exact ⟨_, rfl, rfl, rs1, rs2⟩
    rw [hc]
    obtain ⟨mc, b1, b2, b3, b4⟩ := acC (q := q) (c := c) (nx := 3) (pt := pt) (e := e) (it := it) hb ⟨hT, h3, fun _ => ⟨r2, r4, r5f, ⟨r1, trivial⟩, rd, ri, rn, rc, rP, rs1, rs2, r6, r7⟩⟩ hcl hcs.1 hcs.2.1 hcs.2.2
    have b18 : B_X6_closeClause_18 3 1 b (KS, m1, q) = B_X6_closeClause_41 3 1 b (nI (lenR cl)) (nI (lenR cl + c.1.length)) (KS, m1, q) := by
      have r6 := r6 lv3
      unfold B_X6_closeClause_18
      by_cases z : pt = 0
      · have hc1 := hc1 z
        subst hc1
        rw [if_pos z] at hc
        subst hc
        rw [z] at r5
        have rn : m1 b 2 = nI (lenR cl + (rl 1 st cd).2.length) := by rw [rn]; rfl
        simp (disch := omega) only [ob_some, reduceIte, lit, le_T, le_F, lt_T, lt_F, eq_T, eq_F, nI_add, gac_0_0, gac_0_1, gac_0_2, gac_0_3, gac_0_4, gac_0_5, gac_0_6, gac_1_0, gic_1_1, gic_1_2, gic_1_3, gic_1_4, gic_1_5, gic_1_6, gac_3_0, gic_3_1, gic_3_2, gic_3_3, gic_3_4, gic_3_5, gic_3_6, gic_3_7, gic_5_0, gic_5_1, gic_5_2, gic_5_3, gic_5_4, gac_5_5, gac_5_6, gac_5_7, gac_5_8, gac_5_9, gac_5_10, gac_5_11, gac_13_0, gac_13_1, gic_13_2, gac_13_3, gac_13_4, gac_13_5, gac_13_6, gac_13_7, gac_13_8, gac_13_9, gic_13_10, gic_13_11, gic_13_12, gic_13_13, gac_14_0, gac_14_1, gac_14_2, gac_14_3, gic_14_4, gic_14_5, gic_15_0, gic_15_1, gic_15_2, gic_15_3, gic_15_4, gac_15_5, gac_15_6, gac_15_7, gac_15_8, gac_15_9, gac_15_10, gac_15_11, gac_23_0, gac_23_1, gac_23_2, gac_23_3, gac_23_4, gac_23_5, gac_23_6, gic_23_7, gic_23_8, gac_31_0, gic_31_1, gic_31_2, gac_193_0, gac_193_1, gac_193_2, gic_193_3, gac_198_0, gac_200_0, gac_200_1, gac_200_2, gac_200_3, gac_200_4, gac_200_5, gac_200_6, gic_200_7, gic_200_8, pic_1_1, pic_1_2, pic_1_3, pic_1_4, pic_1_5, pic_1_6, pic_3_1, pic_3_2, pic_3_3, pic_3_4, pic_3_5, pic_3_6, pic_3_7, pic_5_0, pic_5_1, pic_5_2, pic_5_3, pic_5_4, pic_13_2, pic_13_10, pic_13_11, pic_13_12, pic_13_13, pic_14_4, pic_14_5, pic_15_0, pic_15_1, pic_15_2, pic_15_3, pic_15_4, pic_23_7, pic_23_8, pic_31_1, pic_31_2, pic_193_3, pic_200_7, pic_200_8, gdc_0, gdc_1, gdc_3, gdc_5, gdc_13, gdc_14, gdc_15, gdc_23, gdc_31, gdc_193, gdc_198, gdc_200, ldc_2, stc_2, ldc_4, stc_4, ldc_6, stc_6, ldc_7, stc_7, ldc_8, stc_8, ldc_9, stc_9, ldc_10, stc_10, ldc_11, stc_11, ldc_12, stc_12, ldc_16, stc_16, ldc_17, stc_17, ldc_18, stc_18, ldc_19, stc_19, ldc_20, stc_20, ldc_21, stc_21, ldc_22, stc_22, ldc_24, stc_24, ldc_25, stc_25, ldc_26, stc_26, ldc_27, stc_27, ldc_28, stc_28, ldc_29, stc_29, ldc_30, stc_30, ldc_194, stc_194, ldc_195, stc_195, ldc_196, stc_196, ldc_199, stc_199, ldc_201, stc_201, ldc_202, stc_202, ldc_203, stc_203, ldc_204, stc_204, ldc_205, stc_205, ldc_206, stc_206, ldc_207, stc_207, ldc_208, stc_208, ldc_209, stc_209, ldc_210, stc_210, ldc_211, stc_211, ldc_213, stc_213, ldc_214, stc_214, ldc_215, stc_215, ldc_216, stc_216, ldc_217, stc_217, ldc_218, stc_218, ldc_219, stc_219, ldc_263, stc_263, lda_197, lda_262, lda_212, lda_32, u2_s, u2_a, u2_b, rb_g hb, r6, r5, rn]
      · rw [if_neg z] at hc
        subst hc
        have r7 := r7 (.inr ⟨lv3, z⟩)
        simp (disch := omega) only [ob_some, reduceIte, lit, le_T, le_F, lt_T, lt_F, eq_T, eq_F, nI_add, gac_0_0, gac_0_1, gac_0_2, gac_0_3, gac_0_4, gac_0_5, gac_0_6, gac_1_0, gic_1_1, gic_1_2, gic_1_3, gic_1_4, gic_1_5, gic_1_6, gac_3_0, gic_3_1, gic_3_2, gic_3_3, gic_3_4, gic_3_5, gic_3_6, gic_3_7, gic_5_0, gic_5_1, gic_5_2, gic_5_3, gic_5_4, gac_5_5, gac_5_6, gac_5_7, gac_5_8, gac_5_9, gac_5_10, gac_5_11, gac_13_0, gac_13_1, gic_13_2, gac_13_3, gac_13_4, gac_13_5, gac_13_6, gac_13_7, gac_13_8, gac_13_9, gic_13_10, gic_13_11, gic_13_12, gic_13_13, gac_14_0, gac_14_1, gac_14_2, gac_14_3, gic_14_4, gic_14_5, gic_15_0, gic_15_1, gic_15_2, gic_15_3, gic_15_4, gac_15_5, gac_15_6, gac_15_7, gac_15_8, gac_15_9, gac_15_10, gac_15_11, gac_23_0, gac_23_1, gac_23_2, gac_23_3, gac_23_4, gac_23_5, gac_23_6, gic_23_7, gic_23_8, gac_31_0, gic_31_1, gic_31_2, gac_193_0, gac_193_1, gac_193_2, gic_193_3, gac_198_0, gac_200_0, gac_200_1, gac_200_2, gac_200_3, gac_200_4, gac_200_5, gac_200_6, gic_200_7, gic_200_8, pic_1_1, pic_1_2, pic_1_3, pic_1_4, pic_1_5, pic_1_6, pic_3_1, pic_3_2, pic_3_3, pic_3_4, pic_3_5, pic_3_6, pic_3_7, pic_5_0, pic_5_1, pic_5_2, pic_5_3, pic_5_4, pic_13_2, pic_13_10, pic_13_11, pic_13_12, pic_13_13, pic_14_4, pic_14_5, pic_15_0, pic_15_1, pic_15_2, pic_15_3, pic_15_4, pic_23_7, pic_23_8, pic_31_1, pic_31_2, pic_193_3, pic_200_7, pic_200_8, gdc_0, gdc_1, gdc_3, gdc_5, gdc_13, gdc_14, gdc_15, gdc_23, gdc_31, gdc_193, gdc_198, gdc_200, ldc_2, stc_2, ldc_4, stc_4, ldc_6, stc_6, ldc_7, stc_7, ldc_8, stc_8, ldc_9, stc_9, ldc_10, stc_10, ldc_11, stc_11, ldc_12, stc_12, ldc_16, stc_16, ldc_17, stc_17, ldc_18, stc_18, ldc_19, stc_19, ldc_20, stc_20, ldc_21, stc_21, ldc_22, stc_22, ldc_24, stc_24, ldc_25, stc_25, ldc_26, stc_26, ldc_27, stc_27, ldc_28, stc_28, ldc_29, stc_29, ldc_30, stc_30, ldc_194, stc_194, ldc_195, stc_195, ldc_196, stc_196, ldc_199, stc_199, ldc_201, stc_201, ldc_202, stc_202, ldc_203, stc_203, ldc_204, stc_204, ldc_205, stc_205, ldc_206, stc_206, ldc_207, stc_207, ldc_208, stc_208, ldc_209, stc_209, ldc_210, stc_210, ldc_211, stc_211, ldc_213, stc_213, ldc_214, stc_214, ldc_215, stc_215, ldc_216, stc_216, ldc_217, stc_217, ldc_218, stc_218, ldc_219, stc_219, ldc_263, stc_263, lda_197, lda_262, lda_212, lda_32, u2_s, u2_a, u2_b, r6, r5, r7]
    have e41 : m1 1 4 = sI (sgn1 T s) := k2'
    have b34 : mc 1 4 = sI (sgn1 T s) := by rw [b3]; exact k2'
    rcases hg with hg | hg
    · rw [hg, sI_n (by omega)] at b34
      rw [if_pos hg]
      refine ⟨mk_u2 mc 3 4 (nI 0), ?_, (a2.trans b2).up (by omega), by have := b4 0 (.inl rfl); rwa [he] at this⟩
      unfold F_X6_closeClause
      simp (disch := omega) only [ob_some, reduceIte, lit, le_T, le_F, lt_T, lt_F, eq_T, eq_F, nI_add, gac_0_0, gac_0_1, gac_0_2, gac_0_3, gac_0_4, gac_0_5, gac_0_6, gac_1_0, gic_1_1, gic_1_2, gic_1_3, gic_1_4, gic_1_5, gic_1_6, gac_3_0, gic_3_1, gic_3_2, gic_3_3, gic_3_4, gic_3_5, gic_3_6, gic_3_7, gic_5_0, gic_5_1, gic_5_2, gic_5_3, gic_5_4, gac_5_5, gac_5_6, gac_5_7, gac_5_8, gac_5_9, gac_5_10, gac_5_11, gac_13_0, gac_13_1, gic_13_2, gac_13_3, gac_13_4, gac_13_5, gac_13_6, gac_13_7, gac_13_8, gac_13_9, gic_13_10, gic_13_11, gic_13_12, gic_13_13, gac_14_0, gac_14_1, gac_14_2, gac_14_3, gic_14_4, gic_14_5, gic_15_0, gic_15_1, gic_15_2, gic_15_3, gic_15_4, gac_15_5, gac_15_6, gac_15_7, gac_15_8, gac_15_9, gac_15_10, gac_15_11, gac_23_0, gac_23_1, gac_23_2, gac_23_3, gac_23_4, gac_23_5, gac_23_6, gic_23_7, gic_23_8, gac_31_0, gic_31_1, gic_31_2, gac_193_0, gac_193_1, gac_193_2, gic_193_3, gac_198_0, gac_200_0, gac_200_1, gac_200_2, gac_200_3, gac_200_4, gac_200_5, gac_200_6, gic_200_7, gic_200_8, pic_1_1, pic_1_2, pic_1_3, pic_1_4, pic_1_5, pic_1_6, pic_3_1, pic_3_2, pic_3_3, pic_3_4, pic_3_5, pic_3_6, pic_3_7, pic_5_0, pic_5_1, pic_5_2, pic_5_3, pic_5_4, pic_13_2, pic_13_10, pic_13_11, pic_13_12, pic_13_13, pic_14_4, pic_14_5, pic_15_0, pic_15_1, pic_15_2, pic_15_3, pic_15_4, pic_23_7, pic_23_8, pic_31_1, pic_31_2, pic_193_3, pic_200_7, pic_200_8, gdc_0, gdc_1, gdc_3, gdc_5, gdc_13, gdc_14, gdc_15, gdc_23, gdc_31, gdc_193, gdc_198, gdc_200, ldc_2, stc_2, ldc_4, stc_4, ldc_6, stc_6, ldc_7, stc_7, ldc_8, stc_8, ldc_9, stc_9, ldc_10, stc_10, ldc_11, stc_11, ldc_12, stc_12, ldc_16, stc_16, ldc_17, stc_17, ldc_18, stc_18, ldc_19, stc_19, ldc_20, stc_20, ldc_21, stc_21, ldc_22, stc_22, ldc_24, stc_24, ldc_25, stc_25, ldc_26, stc_26, ldc_27, stc_27, ldc_28, stc_28, ldc_29, stc_29, ldc_30, stc_30, ldc_194, stc_194, ldc_195, stc_195, ldc_196, stc_196, ldc_199, stc_199, ldc_201, stc_201, ldc_202, stc_202, ldc_203, stc_203, ldc_204, stc_204, ldc_205, stc_205, ldc_206, stc_206, ldc_207, stc_207, ldc_208, stc_208, ldc_209, stc_209, ldc_210, stc_210, ldc_211, stc_211, ldc_213, stc_213, ldc_214, stc_214, ldc_215, stc_215, ldc_216, stc_216, ldc_217, stc_217, ldc_218, stc_218, ldc_219, stc_219, ldc_263, stc_263, lda_197, lda_262, lda_212, lda_32, u2_s, u2_a, u2_b, a1, r1, b18, B_X6_closeClause_41, b1, b34]
    · rw [hg] at b34
      rw [if_neg (by omega)]
      refine ⟨mk_u2 mc 3 4 (nI 4), ?_, (a2.trans b2).up (by omega), by have := b4 4 (.inr rfl); rwa [he] at this⟩
      unfold F_X6_closeClause
      simp (disch := omega) only [ob_some, reduceIte, lit, le_T, le_F, lt_T, lt_F, eq_T, eq_F, nI_add, gac_0_0, gac_0_1, gac_0_2, gac_0_3, gac_0_4, gac_0_5, gac_0_6, gac_1_0, gic_1_1, gic_1_2, gic_1_3, gic_1_4, gic_1_5, gic_1_6, gac_3_0, gic_3_1, gic_3_2, gic_3_3, gic_3_4, gic_3_5, gic_3_6, gic_3_7, gic_5_0, gic_5_1, gic_5_2, gic_5_3, gic_5_4, gac_5_5, gac_5_6, gac_5_7, gac_5_8, gac_5_9, gac_5_10, gac_5_11, gac_13_0, gac_13_1, gic_13_2, gac_13_3, gac_13_4, gac_13_5, gac_13_6, gac_13_7, gac_13_8, gac_13_9, gic_13_10, gic_13_11, gic_13_12, gic_13_13, gac_14_0, gac_14_1, gac_14_2, gac_14_3, gic_14_4, gic_14_5, gic_15_0, gic_15_1, gic_15_2, gic_15_3, gic_15_4, gac_15_5, gac_15_6, gac_15_7, gac_15_8, gac_15_9, gac_15_10, gac_15_11, gac_23_0, gac_23_1, gac_23_2, gac_23_3, gac_23_4, gac_23_5, gac_23_6, gic_23_7, gic_23_8, gac_31_0, gic_31_1, gic_31_2, gac_193_0, gac_193_1, gac_193_2, gic_193_3, gac_198_0, gac_200_0, gac_200_1, gac_200_2, gac_200_3, gac_200_4, gac_200_5, gac_200_6, gic_200_7, gic_200_8, pic_1_1, pic_1_2, pic_1_3, pic_1_4, pic_1_5, pic_1_6, pic_3_1, pic_3_2, pic_3_3, pic_3_4, pic_3_5, pic_3_6, pic_3_7, pic_5_0, pic_5_1, pic_5_2, pic_5_3, pic_5_4, pic_13_2, pic_13_10, pic_13_11, pic_13_12, pic_13_13, pic_14_4, pic_14_5, pic_15_0, pic_15_1, pic_15_2, pic_15_3, pic_15_4, pic_23_7, pic_23_8, pic_31_1, pic_31_2, pic_193_3, pic_200_7, pic_200_8, gdc_0, gdc_1, gdc_3, gdc_5, gdc_13, gdc_14, gdc_15, gdc_23, gdc_31, gdc_193, gdc_198, gdc_200, ldc_2, stc_2, ldc_4, stc_4, ldc_6, stc_6, ldc_7, stc_7, ldc_8, stc_8, ldc_9, stc_9, ldc_10, stc_10, ldc_11, stc_11, ldc_12, stc_12, ldc_16, stc_16, ldc_17, stc_17, ldc_18, stc_18, ldc_19, stc_19, ldc_20, stc_20, ldc_21, stc_21, ldc_22, stc_22, ldc_24, stc_24, ldc_25, stc_25, ldc_26, stc_26, ldc_27, stc_27, ldc_28, stc_28, ldc_29, stc_29, ldc_30, stc_30, ldc_194, stc_194, ldc_195, stc_195, ldc_196, stc_196, ldc_199, stc_199, ldc_201, stc_201, ldc_202, stc_202, ldc_203, stc_203, ldc_204, stc_204, ldc_205, stc_205, ldc_206, stc_206, ldc_207, stc_207, ldc_208, stc_208, ldc_209, stc_209, ldc_210, stc_210, ldc_211, stc_211, ldc_213, stc_213, ldc_214, stc_214, ldc_215, stc_215, ldc_216, stc_216, ldc_217, stc_217, ldc_218, stc_218, ldc_219, stc_219, ldc_263, stc_263, lda_197, lda_262, lda_212, lda_32, u2_s, u2_a, u2_b, a1, r1, b18, B_X6_closeClause_41, b1, b34, sI_eqc, Nat.reduceEqDiff]
  · rw [if_neg d]
    have hpos : 0 < (rl 1 st cd).1.length := List.length_pos_iff.mpr d
    have fl := flC (q := q) (c := 0) h3 (by rw [a3]; exact k1) (by omega)
    rw [if_pos rfl] at fl
    have r6 := r6 lv3
    have key : ∀ y : Int32, ∃ m2, B_X6_closeClause_41 3 1 b (nI (lenR cl)) y (KS, mk_u2 m1 1 3 (nI (1 + 8 * s + 0)), q) = some ((), (KS, m2, q)) ∧ FrC b m m2 ∧ CR T b m2 (ft (1 + 8 * s + 0)) := fun y => by
      obtain ⟨mc, b1, b2, b3⟩ := acX (mk_u2 m1 1 3 (nI (1 + 8 * s + 0))) (q := q) (x := nI (lenR cl)) (y := y) hb ((u2_a (by omega)).trans rc) hcl
      have b34 : mc 1 4 = sI (sgn1 T s) := by rw [b3, u2_b (by omega)]; exact k2'
      have b33 : mc 1 3 = nI (1 + 8 * s + 0) := by rw [b3, u2_s]
      have fr : ∀ v, FrC b m (mk_u2 mc 3 4 v) := fun v => ((a2.up (by omega)).trans b2).up (by omega)
      have hT0 : TC T m := h.1
      rcases hg with hg | hg
      · rw [hg, sI_n (by omega)] at b34
        refine ⟨_, ?_, fr (nI 0), CR.flt (hT0.fc (by omega) (fr _)) ((u2_a (by omega)).trans b33) (by omega)⟩
        unfold B_X6_closeClause_41
        simp (disch := omega) only [ob_some, reduceIte, lit, le_T, le_F, lt_T, lt_F, eq_T, eq_F, nI_add, gac_0_0, gac_0_1, gac_0_2, gac_0_3, gac_0_4, gac_0_5, gac_0_6, gac_1_0, gic_1_1, gic_1_2, gic_1_3, gic_1_4, gic_1_5, gic_1_6, gac_3_0, gic_3_1, gic_3_2, gic_3_3, gic_3_4, gic_3_5, gic_3_6, gic_3_7, gic_5_0, gic_5_1, gic_5_2, gic_5_3, gic_5_4, gac_5_5, gac_5_6, gac_5_7, gac_5_8, gac_5_9, gac_5_10, gac_5_11, gac_13_0, gac_13_1, gic_13_2, gac_13_3, gac_13_4, gac_13_5, gac_13_6, gac_13_7, gac_13_8, gac_13_9, gic_13_10, gic_13_11, gic_13_12, gic_13_13, gac_14_0, gac_14_1, gac_14_2, gac_14_3, gic_14_4, gic_14_5, gic_15_0, gic_15_1, gic_15_2, gic_15_3, gic_15_4, gac_15_5, gac_15_6, gac_15_7, gac_15_8, gac_15_9, gac_15_10, gac_15_11, gac_23_0, gac_23_1, gac_23_2, gac_23_3, gac_23_4, gac_23_5, gac_23_6, gic_23_7, gic_23_8, gac_31_0, gic_31_1, gic_31_2, gac_193_0, gac_193_1, gac_193_2, gic_193_3, gac_198_0, gac_200_0, gac_200_1, gac_200_2, gac_200_3, gac_200_4, gac_200_5, gac_200_6, gic_200_7, gic_200_8, pic_1_1, pic_1_2, pic_1_3, pic_1_4, pic_1_5, pic_1_6, pic_3_1, pic_3_2, pic_3_3, pic_3_4, pic_3_5, pic_3_6, pic_3_7, pic_5_0, pic_5_1, pic_5_2, pic_5_3, pic_5_4, pic_13_2, pic_13_10, pic_13_11, pic_13_12, pic_13_13, pic_14_4, pic_14_5, pic_15_0, pic_15_1, pic_15_2, pic_15_3, pic_15_4, pic_23_7, pic_23_8, pic_31_1, pic_31_2, pic_193_3, pic_200_7, pic_200_8, gdc_0, gdc_1, gdc_3, gdc_5, gdc_13, gdc_14, gdc_15, gdc_23, gdc_31, gdc_193, gdc_198, gdc_200, ldc_2, stc_2, ldc_4, stc_4, ldc_6, stc_6, ldc_7, stc_7, ldc_8, stc_8, ldc_9, stc_9, ldc_10, stc_10, ldc_11, stc_11, ldc_12, stc_12, ldc_16, stc_16, ldc_17, stc_17, ldc_18, stc_18, ldc_19, stc_19, ldc_20, stc_20, ldc_21, stc_21, ldc_22, stc_22, ldc_24, stc_24, ldc_25, stc_25, ldc_26, stc_26, ldc_27, stc_27, ldc_28, stc_28, ldc_29, stc_29, ldc_30, stc_30, ldc_194, stc_194, ldc_195, stc_195, ldc_196, stc_196, ldc_199, stc_199, ldc_201, stc_201, ldc_202, stc_202, ldc_203, stc_203, ldc_204, stc_204, ldc_205, stc_205, ldc_206, stc_206, ldc_207, stc_207, ldc_208, stc_208, ldc_209, stc_209, ldc_210, stc_210, ldc_211, stc_211, ldc_213, stc_213, ldc_214, stc_214, ldc_215, stc_215, ldc_216, stc_216, ldc_217, stc_217, ldc_218, stc_218, ldc_219, stc_219, ldc_263, stc_263, lda_197, lda_262, lda_212, lda_32, u2_s, u2_a, u2_b, b1, b34]
      · rw [hg] at b34
        refine ⟨_, ?_, fr (nI 4), CR.flt (hT0.fc (by omega) (fr _)) ((u2_a (by omega)).trans b33) (by omega)⟩
        unfold B_X6_closeClause_41
        simp (disch := omega) only [ob_some, reduceIte, lit, le_T, le_F, lt_T, lt_F, eq_T, eq_F, nI_add, gac_0_0, gac_0_1, gac_0_2, gac_0_3, gac_0_4, gac_0_5, gac_0_6, gac_1_0, gic_1_1, gic_1_2, gic_1_3, gic_1_4, gic_1_5, gic_1_6, gac_3_0, gic_3_1, gic_3_2, gic_3_3, gic_3_4, gic_3_5, gic_3_6, gic_3_7, gic_5_0, gic_5_1, gic_5_2, gic_5_3, gic_5_4, gac_5_5, gac_5_6, gac_5_7, gac_5_8, gac_5_9, gac_5_10, gac_5_11, gac_13_0, gac_13_1, gic_13_2, gac_13_3, gac_13_4, gac_13_5, gac_13_6, gac_13_7, gac_13_8, gac_13_9, gic_13_10, gic_13_11, gic_13_12, gic_13_13, gac_14_0, gac_14_1, gac_14_2, gac_14_3, gic_14_4, gic_14_5, gic_15_0, gic_15_1, gic_15_2, gic_15_3, gic_15_4, gac_15_5, gac_15_6, gac_15_7, gac_15_8, gac_15_9, gac_15_10, gac_15_11, gac_23_0, gac_23_1, gac_23_2, gac_23_3, gac_23_4, gac_23_5, gac_23_6, gic_23_7, gic_23_8, gac_31_0, gic_31_1, gic_31_2, gac_193_0, gac_193_1, gac_193_2, gic_193_3, gac_198_0, gac_200_0, gac_200_1, gac_200_2, gac_200_3, gac_200_4, gac_200_5, gac_200_6, gic_200_7, gic_200_8, pic_1_1, pic_1_2, pic_1_3, pic_1_4, pic_1_5, pic_1_6, pic_3_1, pic_3_2, pic_3_3, pic_3_4, pic_3_5, pic_3_6, pic_3_7, pic_5_0, pic_5_1, pic_5_2, pic_5_3, pic_5_4, pic_13_2, pic_13_10, pic_13_11, pic_13_12, pic_13_13, pic_14_4, pic_14_5, pic_15_0, pic_15_1, pic_15_2, pic_15_3, pic_15_4, pic_23_7, pic_23_8, pic_31_1, pic_31_2, pic_193_3, pic_200_7, pic_200_8, gdc_0, gdc_1, gdc_3, gdc_5, gdc_13, gdc_14, gdc_15, gdc_23, gdc_31, gdc_193, gdc_198, gdc_200, ldc_2, stc_2, ldc_4, stc_4, ldc_6, stc_6, ldc_7, stc_7, ldc_8, stc_8, ldc_9, stc_9, ldc_10, stc_10, ldc_11, stc_11, ldc_12, stc_12, ldc_16, stc_16, ldc_17, stc_17, ldc_18, stc_18, ldc_19, stc_19, ldc_20, stc_20, ldc_21, stc_21, ldc_22, stc_22, ldc_24, stc_24, ldc_25, stc_25, ldc_26, stc_26, ldc_27, stc_27, ldc_28, stc_28, ldc_29, stc_29, ldc_30, stc_30, ldc_194, stc_194, ldc_195, stc_195, ldc_196, stc_196, ldc_199, stc_199, ldc_201, stc_201, ldc_202, stc_202, ldc_203, stc_203, ldc_204, stc_204, ldc_205, stc_205, ldc_206, stc_206, ldc_207, stc_207, ldc_208, stc_208, ldc_209, stc_209, ldc_210, stc_210, ldc_211, stc_211, ldc_213, stc_213, ldc_214, stc_214, ldc_215, stc_215, ldc_216, stc_216, ldc_217, stc_217, ldc_218, stc_218, ldc_219, stc_219, ldc_263, stc_263, lda_197, lda_262, lda_212, lda_32, u2_s, u2_a, u2_b, b1, b34, sI_eqc, Nat.reduceEqDiff]
    by_cases z : pt = 0
    · obtain ⟨m2, c1, c2, c3⟩ := key (m1 b 2)
      refine ⟨m2, ?_, c2, c3⟩
      rw [z] at r5
      rw [← c1]
      unfold F_X6_closeClause B_X6_closeClause_18
      simp (disch := omega) only [ob_some, reduceIte, lit, le_T, le_F, lt_T, lt_F, eq_T, eq_F, nI_add, gac_0_0, gac_0_1, gac_0_2, gac_0_3, gac_0_4, gac_0_5, gac_0_6, gac_1_0, gic_1_1, gic_1_2, gic_1_3, gic_1_4, gic_1_5, gic_1_6, gac_3_0, gic_3_1, gic_3_2, gic_3_3, gic_3_4, gic_3_5, gic_3_6, gic_3_7, gic_5_0, gic_5_1, gic_5_2, gic_5_3, gic_5_4, gac_5_5, gac_5_6, gac_5_7, gac_5_8, gac_5_9, gac_5_10, gac_5_11, gac_13_0, gac_13_1, gic_13_2, gac_13_3, gac_13_4, gac_13_5, gac_13_6, gac_13_7, gac_13_8, gac_13_9, gic_13_10, gic_13_11, gic_13_12, gic_13_13, gac_14_0, gac_14_1, gac_14_2, gac_14_3, gic_14_4, gic_14_5, gic_15_0, gic_15_1, gic_15_2, gic_15_3, gic_15_4, gac_15_5, gac_15_6, gac_15_7, gac_15_8, gac_15_9, gac_15_10, gac_15_11, gac_23_0, gac_23_1, gac_23_2, gac_23_3, gac_23_4, gac_23_5, gac_23_6, gic_23_7, gic_23_8, gac_31_0, gic_31_1, gic_31_2, gac_193_0, gac_193_1, gac_193_2, gic_193_3, gac_198_0, gac_200_0, gac_200_1, gac_200_2, gac_200_3, gac_200_4, gac_200_5, gac_200_6, gic_200_7, gic_200_8, pic_1_1, pic_1_2, pic_1_3, pic_1_4, pic_1_5, pic_1_6, pic_3_1, pic_3_2, pic_3_3, pic_3_4, pic_3_5, pic_3_6, pic_3_7, pic_5_0, pic_5_1, pic_5_2, pic_5_3, pic_5_4, pic_13_2, pic_13_10, pic_13_11, pic_13_12, pic_13_13, pic_14_4, pic_14_5, pic_15_0, pic_15_1, pic_15_2, pic_15_3, pic_15_4, pic_23_7, pic_23_8, pic_31_1, pic_31_2, pic_193_3, pic_200_7, pic_200_8, gdc_0, gdc_1, gdc_3, gdc_5, gdc_13, gdc_14, gdc_15, gdc_23, gdc_31, gdc_193, gdc_198, gdc_200, ldc_2, stc_2, ldc_4, stc_4, ldc_6, stc_6, ldc_7, stc_7, ldc_8, stc_8, ldc_9, stc_9, ldc_10, stc_10, ldc_11, stc_11, ldc_12, stc_12, ldc_16, stc_16, ldc_17, stc_17, ldc_18, stc_18, ldc_19, stc_19, ldc_20, stc_20, ldc_21, stc_21, ldc_22, stc_22, ldc_24, stc_24, ldc_25, stc_25, ldc_26, stc_26, ldc_27, stc_27, ldc_28, stc_28, ldc_29, stc_29, ldc_30, stc_30, ldc_194, stc_194, ldc_195, stc_195, ldc_196, stc_196, ldc_199, stc_199, ldc_201, stc_201, ldc_202, stc_202, ldc_203, stc_203, ldc_204, stc_204, ldc_205, stc_205, ldc_206, stc_206, ldc_207, stc_207, ldc_208, stc_208, ldc_209, stc_209, ldc_210, stc_210, ldc_211, stc_211, ldc_213, stc_213, ldc_214, stc_214, ldc_215, stc_215, ldc_216, stc_216, ldc_217, stc_217, ldc_218, stc_218, ldc_219, stc_219, ldc_263, stc_263, lda_197, lda_262, lda_212, lda_32, u2_s, u2_a, u2_b, rb_g hb, a1, r1, fl, r6, r5]
    · obtain ⟨m2, c1, c2, c3⟩ := key (m1 3 7)
      refine ⟨m2, ?_, c2, c3⟩
      rw [← c1]
      unfold F_X6_closeClause B_X6_closeClause_18
      simp (disch := omega) only [ob_some, reduceIte, lit, le_T, le_F, lt_T, lt_F, eq_T, eq_F, nI_add, gac_0_0, gac_0_1, gac_0_2, gac_0_3, gac_0_4, gac_0_5, gac_0_6, gac_1_0, gic_1_1, gic_1_2, gic_1_3, gic_1_4, gic_1_5, gic_1_6, gac_3_0, gic_3_1, gic_3_2, gic_3_3, gic_3_4, gic_3_5, gic_3_6, gic_3_7, gic_5_0, gic_5_1, gic_5_2, gic_5_3, gic_5_4, gac_5_5, gac_5_6, gac_5_7, gac_5_8, gac_5_9, gac_5_10, gac_5_11, gac_13_0, gac_13_1, gic_13_2, gac_13_3, gac_13_4, gac_13_5, gac_13_6, gac_13_7, gac_13_8, gac_13_9, gic_13_10, gic_13_11, gic_13_12, gic_13_13, gac_14_0, gac_14_1, gac_14_2, gac_14_3, gic_14_4, gic_14_5, gic_15_0, gic_15_1, gic_15_2, gic_15_3, gic_15_4, gac_15_5, gac_15_6, gac_15_7, gac_15_8, gac_15_9, gac_15_10, gac_15_11, gac_23_0, gac_23_1, gac_23_2, gac_23_3, gac_23_4, gac_23_5, gac_23_6, gic_23_7, gic_23_8, gac_31_0, gic_31_1, gic_31_2, gac_193_0, gac_193_1, gac_193_2, gic_193_3, gac_198_0, gac_200_0, gac_200_1, gac_200_2, gac_200_3, gac_200_4, gac_200_5, gac_200_6, gic_200_7, gic_200_8, pic_1_1, pic_1_2, pic_1_3, pic_1_4, pic_1_5, pic_1_6, pic_3_1, pic_3_2, pic_3_3, pic_3_4, pic_3_5, pic_3_6, pic_3_7, pic_5_0, pic_5_1, pic_5_2, pic_5_3, pic_5_4, pic_13_2, pic_13_10, pic_13_11, pic_13_12, pic_13_13, pic_14_4, pic_14_5, pic_15_0, pic_15_1, pic_15_2, pic_15_3, pic_15_4, pic_23_7, pic_23_8, pic_31_1, pic_31_2, pic_193_3, pic_200_7, pic_200_8, gdc_0, gdc_1, gdc_3, gdc_5, gdc_13, gdc_14, gdc_15, gdc_23, gdc_31, gdc_193, gdc_198, gdc_200, ldc_2, stc_2, ldc_4, stc_4, ldc_6, stc_6, ldc_7, stc_7, ldc_8, stc_8, ldc_9, stc_9, ldc_10, stc_10, ldc_11, stc_11, ldc_12, stc_12, ldc_16, stc_16, ldc_17, stc_17, ldc_18, stc_18, ldc_19, stc_19, ldc_20, stc_20, ldc_21, stc_21, ldc_22, stc_22, ldc_24, stc_24, ldc_25, stc_25, ldc_26, stc_26, ldc_27, stc_27, ldc_28, stc_28, ldc_29, stc_29, ldc_30, stc_30, ldc_194, stc_194, ldc_195, stc_195, ldc_196, stc_196, ldc_199, stc_199, ldc_201, stc_201, ldc_202, stc_202, ldc_203, stc_203, ldc_204, stc_204, ldc_205, stc_205, ldc_206, stc_206, ldc_207, stc_207, ldc_208, stc_208, ldc_209, stc_209, ldc_210, stc_210, ldc_211, stc_211, ldc_213, stc_213, ldc_214, stc_214, ldc_215, stc_215, ldc_216, stc_216, ldc_217, stc_217, ldc_218, stc_218, ldc_219, stc_219, ldc_263, stc_263, lda_197, lda_262, lda_212, lda_32, u2_s, u2_a, u2_b, a1, r1, fl, r6, r5]
