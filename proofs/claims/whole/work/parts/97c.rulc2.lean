/-! RULES told: a step of the class -/
def TK (T : TT) (m : Nat → Nat → Int32) (s : Nat) : Prop := m 1 5 = nI s ∧ m 1 4 = sI (sgn1 T s) ∧ (sgn1 T s = 256 → m 1 6 = numI T s (end1 T s - s))
set_option maxRecDepth 4000 in
theorem CR.flt {T : TT} {b f : Nat} {m : Nat → Nat → Int32} (h : TC T m) (h3 : m 1 3 = nI f) (hf : f ≠ 0) : CR T b m (ft f) := ⟨h, h3, fun e => absurd e hf⟩
set_option maxRecDepth 4000 in
theorem CR.nx {T : TT} {b e nx pt it nx' : Nat} {st : List Nat} {cl : RT} {c1 cd : List (Nat × Nat)} {m : Nat → Nat → Int32} (hb : 220 ≤ b) (h : CR T b m (0, e, nx, pt, st, it, cl, c1, cd)) (hn : Lv nx' → Lv nx) (hn2 : nx' = 2 ∨ (Lv nx' ∧ pt ≠ 0) → nx = 2 ∨ (Lv nx ∧ pt ≠ 0)) : CR T b (mk_u2 m 3 4 (nI nx')) (0, e, nx', pt, st, it, cl, c1, cd) := by
  obtain ⟨hT, h3, hr⟩ := h
  obtain ⟨r2, r4, r5, ⟨r1, rS⟩, rd, ri, rn, rc, rP, rs1, rs2, r6, r7⟩ := hr rfl
  refine ⟨⟨(u2_a (by omega)).trans hT.1, hT.2.1, fun i hi => by rw [u2_a (by omega)]; exact hT.2.2 i hi⟩, (u2_a (by omega)).trans h3, fun _ => ⟨(u2_a (by omega)).trans r2, u2_s, fun z => (u2_b (by omega)).trans (r5 (hn z)), ⟨(u2_b (by omega)).trans r1, by rw [mk_u2_ne (by omega)]; exact rS⟩, (u2_b (by omega)).trans rd, (u2_b (by omega)).trans ri, (u2_a (by omega)).trans rn, (u2_a (by omega)).trans rc, ?_, ?_, ?_, fun z => (u2_b (by omega)).trans (r6 (hn z)), fun z => (u2_b (by omega)).trans (r7 (hn2 z))⟩⟩
  · refine rP.fr (fun k _ => ?_) (fun j _ => ?_)
    · rw [u2_a (by omega), u2_a (by omega)]; exact ⟨rfl, rfl⟩
    · rw [u2_a (by omega), u2_a (by omega), u2_a (by omega)]; exact ⟨rfl, rfl, rfl⟩
  · refine rs1.fr (fun k _ => ?_)
    rw [u2_a (by omega), u2_a (by omega)]; exact ⟨rfl, rfl⟩
  · refine rs2.fr (fun k _ => ?_)
    rw [u2_a (by omega), u2_a (by omega)]; exact ⟨rfl, rfl⟩
set_option maxRecDepth 4000 in
theorem CR.pt {T : TT} {b e nx pt it pt' : Nat} {st : List Nat} {cl : RT} {c1 cd : List (Nat × Nat)} {m : Nat → Nat → Int32} (hb : 220 ≤ b) (h : CR T b m (0, e, nx, pt, st, it, cl, c1, cd)) (hn2 : Lv nx ∧ pt' ≠ 0 → nx = 2 ∨ (Lv nx ∧ pt ≠ 0)) : CR T b (mk_u2 m 3 5 (nI pt')) (0, e, nx, pt', st, it, cl, c1, cd) := by
  obtain ⟨hT, h3, hr⟩ := h
  obtain ⟨r2, r4, r5, ⟨r1, rS⟩, rd, ri, rn, rc, rP, rs1, rs2, r6, r7⟩ := hr rfl
  refine ⟨⟨(u2_a (by omega)).trans hT.1, hT.2.1, fun i hi => by rw [u2_a (by omega)]; exact hT.2.2 i hi⟩, (u2_a (by omega)).trans h3, fun _ => ⟨(u2_a (by omega)).trans r2, (u2_b (by omega)).trans r4, fun _ => u2_s, ⟨(u2_b (by omega)).trans r1, by rw [mk_u2_ne (by omega)]; exact rS⟩, (u2_b (by omega)).trans rd, (u2_b (by omega)).trans ri, (u2_a (by omega)).trans rn, (u2_a (by omega)).trans rc, ?_, ?_, ?_, fun z => (u2_b (by omega)).trans (r6 z), fun z => (u2_b (by omega)).trans (r7 (by
    rcases z with z | z
    · exact .inl z
    · exact hn2 z))⟩⟩
  · refine rP.fr (fun k _ => ?_) (fun j _ => ?_)
    · rw [u2_a (by omega), u2_a (by omega)]; exact ⟨rfl, rfl⟩
    · rw [u2_a (by omega), u2_a (by omega), u2_a (by omega)]; exact ⟨rfl, rfl, rfl⟩
  · refine rs1.fr (fun k _ => ?_)
    rw [u2_a (by omega), u2_a (by omega)]; exact ⟨rfl, rfl⟩
  · refine rs2.fr (fun k _ => ?_)
    rw [u2_a (by omega), u2_a (by omega)]; exact ⟨rfl, rfl⟩
set_option maxRecDepth 4000 in
theorem clC {T : TT} {b e s pt it : Nat} {cl : RT} {m : Nat → Nat → Int32} {q : Nat → Nat → Int64} (hb : b ∈ RB) (h : CR T b m (0, e, 0, pt, [], it, cl, [], [])) (hk : TK T m s) (he : e = end1 T s) (hs : sgn1 T s ≤ 1000) (hsl : s ≤ 400) (hcl : cl.length ≤ 12) : ∃ m1, F_X6_readClause 3 1 b (KS, m, q) = some ((), (KS, m1, q)) ∧ FrC b m m1 ∧ CR T b m1 (sC T s [] it cl) := by
  have hbl := rb_lt hb
  obtain ⟨hT, h3, hr⟩ := h
  obtain ⟨r2, r4, r5, ⟨r1, rS⟩, rd, ri, rn, rc, rP, rs1, rs2, r6, r7⟩ := hr rfl
  obtain ⟨k1, k2, k3⟩ := hk
  have rn0 : m b 2 = nI (lenR cl) := rn
  have bad : ∀ c, c < 10 → F_X6_readClause 3 1 b (KS, m, q) = ((F_X8_fail 1 (nI c) (KS, m, q)).bind fun z => B_X6_readClause_32 3 b z.2) → ∃ m1, F_X6_readClause 3 1 b (KS, m, q) = some ((), (KS, m1, q)) ∧ FrC b m m1 ∧ CR T b m1 (ft (1 + 8 * s + c)) := fun c hc hF => by
    have fl := flC (q := q) (c := c) h3 k1 (by omega)
    rw [if_pos rfl] at fl
    have fr : FrC b m (mk_u2 (mk_u2 (mk_u2 (mk_u2 m 1 3 (nI (1 + 8 * s + c))) 3 6 (nI (lenR cl))) 3 5 (nI 0)) 3 4 (nI 1)) := (((FrC.rf.up (by omega)).up (by omega)).up (by omega)).up (by omega)
    refine ⟨_, ?_, fr, CR.flt (hT.fc (by omega) fr) (by rw [u2_a (by omega), u2_a (by omega), u2_a (by omega), u2_s]) (by omega)⟩
    rw [hF, fl]
    unfold B_X6_readClause_32
    simp (disch := omega) only [ob_some, reduceIte, lit, le_T, le_F, lt_T, lt_F, eq_T, eq_F, nI_add, gac_0_0, gac_0_1, gac_0_2, gac_0_3, gac_0_4, gac_0_5, gac_0_6, gac_1_0, gic_1_1, gic_1_2, gic_1_3, gic_1_4, gic_1_5, gic_1_6, gac_3_0, gic_3_1, gic_3_2, gic_3_3, gic_3_4, gic_3_5, gic_3_6, gic_3_7, gic_5_0, gic_5_1, gic_5_2, gic_5_3, gic_5_4, gac_5_5, gac_5_6, gac_5_7, gac_5_8, gac_5_9, gac_5_10, gac_5_11, gac_13_0, gac_13_1, gic_13_2, gac_13_3, gac_13_4, gac_13_5, gac_13_6, gac_13_7, gac_13_8, gac_13_9, gic_13_10, gic_13_11, gic_13_12, gic_13_13, gac_14_0, gac_14_1, gac_14_2, gac_14_3, gic_14_4, gic_14_5, gic_15_0, gic_15_1, gic_15_2, gic_15_3, gic_15_4, gac_15_5, gac_15_6, gac_15_7, gac_15_8, gac_15_9, gac_15_10, gac_15_11, gac_23_0, gac_23_1, gac_23_2, gac_23_3, gac_23_4, gac_23_5, gac_23_6, gic_23_7, gic_23_8, gac_31_0, gic_31_1, gic_31_2, gac_193_0, gac_193_1, gac_193_2, gic_193_3, gac_198_0, gac_200_0, gac_200_1, gac_200_2, gac_200_3, gac_200_4, gac_200_5, gac_200_6, gic_200_7, gic_200_8, pic_1_1, pic_1_2, pic_1_3, pic_1_4, pic_1_5, pic_1_6, pic_3_1, pic_3_2, pic_3_3, pic_3_4, pic_3_5, pic_3_6, pic_3_7, pic_5_0, pic_5_1, pic_5_2, pic_5_3, pic_5_4, pic_13_2, pic_13_10, pic_13_11, pic_13_12, pic_13_13, pic_14_4, pic_14_5, pic_15_0, pic_15_1, pic_15_2, pic_15_3, pic_15_4, pic_23_7, pic_23_8, pic_31_1, pic_31_2, pic_193_3, pic_200_7, pic_200_8, gdc_0, gdc_1, gdc_3, gdc_5, gdc_13, gdc_14, gdc_15, gdc_23, gdc_31, gdc_193, gdc_198, gdc_200, ldc_2, stc_2, ldc_4, stc_4, ldc_6, stc_6, ldc_7, stc_7, ldc_8, stc_8, ldc_9, stc_9, ldc_10, stc_10, ldc_11, stc_11, ldc_12, stc_12, ldc_16, stc_16, ldc_17, stc_17, ldc_18, stc_18, ldc_19, stc_19, ldc_20, stc_20, ldc_21, stc_21, ldc_22, stc_22, ldc_24, stc_24, ldc_25, stc_25, ldc_26, stc_26, ldc_27, stc_27, ldc_28, stc_28, ldc_29, stc_29, ldc_30, stc_30, ldc_194, stc_194, ldc_195, stc_195, ldc_196, stc_196, ldc_199, stc_199, ldc_201, stc_201, ldc_202, stc_202, ldc_203, stc_203, ldc_204, stc_204, ldc_205, stc_205, ldc_206, stc_206, ldc_207, stc_207, ldc_208, stc_208, ldc_209, stc_209, ldc_210, stc_210, ldc_211, stc_211, ldc_213, stc_213, ldc_214, stc_214, ldc_215, stc_215, ldc_216, stc_216, ldc_217, stc_217, ldc_218, stc_218, ldc_219, stc_219, ldc_263, stc_263, lda_197, lda_262, lda_212, lda_32, u2_s, u2_a, u2_b, rb_g hb, rn0]
  unfold sC
  by_cases c1 : sgn1 T s = 316
  · rw [if_pos c1]
    rw [c1, sI_n (by omega)] at k2
    by_cases c2 : cl.length < 12
    · rw [if_pos c2]
      have fr : FrC b m (mk_u2 (mk_u2 (mk_u2 m 3 6 (nI (lenR cl))) 3 5 (nI 0)) 3 4 (nI 1)) := ((FrC.rf.up (by omega)).up (by omega)).up (by omega)
      refine ⟨_, ?_, fr, hT.fc (by omega) fr, by simp (disch := omega) only [u2_s, u2_a, u2_b, h3], fun _ => ⟨by simp (disch := omega) only [u2_s, u2_a, u2_b, r2, he], by simp (disch := omega) only [u2_s, u2_a, u2_b], fun _ => by simp (disch := omega) only [u2_s, u2_a, u2_b], ⟨by simp (disch := omega) only [u2_s, u2_a, u2_b, r1], trivial⟩, by simp (disch := omega) only [u2_s, u2_a, u2_b, rd], by simp (disch := omega) only [u2_s, u2_a, u2_b, ri], by simp (disch := omega) only [u2_s, u2_a, u2_b, rn], by simp (disch := omega) only [u2_s, u2_a, u2_b, rc], ?_, trivial, trivial, fun _ => by simp (disch := omega) only [u2_s, u2_a, u2_b], fun z => by
        rcases z with z | z
        · omega
        · exact absurd rfl z.2⟩⟩
      · unfold F_X6_readClause B_X6_readClause_32
        simp (disch := omega) only [ob_some, reduceIte, lit, le_T, le_F, lt_T, lt_F, eq_T, eq_F, nI_add, gac_0_0, gac_0_1, gac_0_2, gac_0_3, gac_0_4, gac_0_5, gac_0_6, gac_1_0, gic_1_1, gic_1_2, gic_1_3, gic_1_4, gic_1_5, gic_1_6, gac_3_0, gic_3_1, gic_3_2, gic_3_3, gic_3_4, gic_3_5, gic_3_6, gic_3_7, gic_5_0, gic_5_1, gic_5_2, gic_5_3, gic_5_4, gac_5_5, gac_5_6, gac_5_7, gac_5_8, gac_5_9, gac_5_10, gac_5_11, gac_13_0, gac_13_1, gic_13_2, gac_13_3, gac_13_4, gac_13_5, gac_13_6, gac_13_7, gac_13_8, gac_13_9, gic_13_10, gic_13_11, gic_13_12, gic_13_13, gac_14_0, gac_14_1, gac_14_2, gac_14_3, gic_14_4, gic_14_5, gic_15_0, gic_15_1, gic_15_2, gic_15_3, gic_15_4, gac_15_5, gac_15_6, gac_15_7, gac_15_8, gac_15_9, gac_15_10, gac_15_11, gac_23_0, gac_23_1, gac_23_2, gac_23_3, gac_23_4, gac_23_5, gac_23_6, gic_23_7, gic_23_8, gac_31_0, gic_31_1, gic_31_2, gac_193_0, gac_193_1, gac_193_2, gic_193_3, gac_198_0, gac_200_0, gac_200_1, gac_200_2, gac_200_3, gac_200_4, gac_200_5, gac_200_6, gic_200_7, gic_200_8, pic_1_1, pic_1_2, pic_1_3, pic_1_4, pic_1_5, pic_1_6, pic_3_1, pic_3_2, pic_3_3, pic_3_4, pic_3_5, pic_3_6, pic_3_7, pic_5_0, pic_5_1, pic_5_2, pic_5_3, pic_5_4, pic_13_2, pic_13_10, pic_13_11, pic_13_12, pic_13_13, pic_14_4, pic_14_5, pic_15_0, pic_15_1, pic_15_2, pic_15_3, pic_15_4, pic_23_7, pic_23_8, pic_31_1, pic_31_2, pic_193_3, pic_200_7, pic_200_8, gdc_0, gdc_1, gdc_3, gdc_5, gdc_13, gdc_14, gdc_15, gdc_23, gdc_31, gdc_193, gdc_198, gdc_200, ldc_2, stc_2, ldc_4, stc_4, ldc_6, stc_6, ldc_7, stc_7, ldc_8, stc_8, ldc_9, stc_9, ldc_10, stc_10, ldc_11, stc_11, ldc_12, stc_12, ldc_16, stc_16, ldc_17, stc_17, ldc_18, stc_18, ldc_19, stc_19, ldc_20, stc_20, ldc_21, stc_21, ldc_22, stc_22, ldc_24, stc_24, ldc_25, stc_25, ldc_26, stc_26, ldc_27, stc_27, ldc_28, stc_28, ldc_29, stc_29, ldc_30, stc_30, ldc_194, stc_194, ldc_195, stc_195, ldc_196, stc_196, ldc_199, stc_199, ldc_201, stc_201, ldc_202, stc_202, ldc_203, stc_203, ldc_204, stc_204, ldc_205, stc_205, ldc_206, stc_206, ldc_207, stc_207, ldc_208, stc_208, ldc_209, stc_209, ldc_210, stc_210, ldc_211, stc_211, ldc_213, stc_213, ldc_214, stc_214, ldc_215, stc_215, ldc_216, stc_216, ldc_217, stc_217, ldc_218, stc_218, ldc_219, stc_219, ldc_263, stc_263, lda_197, lda_262, lda_212, lda_32, u2_s, u2_a, u2_b, rb_g hb, rn0, k2, rc]
      · refine rP.fr (fun k _ => ?_) (fun j _ => ?_)
        · simp (disch := omega) only [u2_s, u2_a, u2_b, and_self]
        · simp (disch := omega) only [u2_s, u2_a, u2_b, and_self]
    · rw [if_neg c2]
      refine bad 4 (by omega) ?_
      unfold F_X6_readClause
      simp (disch := omega) only [gdc_3, gic_1_4, ob_some, lit, eq_T, lt_F, reduceIte, rb_g hb, k2, rc]
  · rw [if_neg c1]
    refine bad 0 (by omega) ?_
    unfold F_X6_readClause
    simp (disch := omega) only [gdc_3, gic_1_4, ob_some, lit, sI_eqc, c1, reduceIte, k2]
set_option maxRecDepth 4000 in
theorem addX {b n : Nat} (m : Nat → Nat → Int32) {q : Nat → Nat → Int64} {x y : Int32} (hb : b ∈ RB) (h2 : m b 2 = nI n) (hn : n ≤ 400) : ∃ m1, F_X5_add b x y (KS, m, q) = some ((), (KS, m1, q)) ∧ FrC b m m1 ∧ m1 1 = m 1 ∧ m1 3 = m 3 := by
  have hbl := rb_lt hb
  by_cases c : n < 400
  · exact ⟨_, addR hb h2 c, ((FrC.rf.up (by omega)).up (by omega)).up (by omega), by rw [mk_u2_ne (by omega), mk_u2_ne (by omega), mk_u2_ne (by omega)], by rw [mk_u2_ne (by omega), mk_u2_ne (by omega), mk_u2_ne (by omega)]⟩
  · refine ⟨m, ?_, FrC.rf, rfl, rfl⟩
    unfold F_X5_add
    simp (disch := omega) only [rb_gd hb, rb_g hb, ob_some, lit, le_T, reduceIte, h2]
set_option maxRecDepth 4000 in
theorem b51 {b s it n fa : Nat} {m : Nat → Nat → Int32} {q : Nat → Nat → Int64} (hb : b ∈ RB) (h3 : m 1 3 = nI fa) (h5 : m 1 5 = nI s) (hi : m 3 3 = nI it) (hi2 : it ≤ 60) (hn : m b 2 = nI n) (hn2 : n ≤ 400) (hf : fa < 100000) (h : fa ≠ 0 ∨ 60 ≤ it) : ∃ m1, B_X6_readValue_51 3 1 b (KS, m, q) = some ((), (KS, m1, q)) ∧ FrC b m m1 ∧ m1 1 3 = nI (if fa = 0 then 1 + 8 * s + 3 else fa) := by
  have hbl := rb_lt hb
  by_cases c : it < 60
  · have hfa : fa ≠ 0 := by omega
    rw [if_neg hfa]
    obtain ⟨ma, a1, a2, a3, a4⟩ := addX (mk_u2 m 3 3 (nI (it + 1))) (q := q) (x := m 1 4) (y := m 1 6) hb ((u2_a (by omega)).trans hn) hn2
    refine ⟨mk_u2 ma 3 4 (nI 3), ?_, ((FrC.rf.up (by omega)).trans a2).up (by omega), by rw [u2_a (by omega), a3, u2_a (by omega)]; exact h3⟩
    unfold B_X6_readValue_51 F_X6_countItem
    simp (disch := omega) only [ob_some, reduceIte, lit, le_T, le_F, lt_T, lt_F, eq_T, eq_F, nI_add, gac_0_0, gac_0_1, gac_0_2, gac_0_3, gac_0_4, gac_0_5, gac_0_6, gac_1_0, gic_1_1, gic_1_2, gic_1_3, gic_1_4, gic_1_5, gic_1_6, gac_3_0, gic_3_1, gic_3_2, gic_3_3, gic_3_4, gic_3_5, gic_3_6, gic_3_7, gic_5_0, gic_5_1, gic_5_2, gic_5_3, gic_5_4, gac_5_5, gac_5_6, gac_5_7, gac_5_8, gac_5_9, gac_5_10, gac_5_11, gac_13_0, gac_13_1, gic_13_2, gac_13_3, gac_13_4, gac_13_5, gac_13_6, gac_13_7, gac_13_8, gac_13_9, gic_13_10, gic_13_11, gic_13_12, gic_13_13, gac_14_0, gac_14_1, gac_14_2, gac_14_3, gic_14_4, gic_14_5, gic_15_0, gic_15_1, gic_15_2, gic_15_3, gic_15_4, gac_15_5, gac_15_6, gac_15_7, gac_15_8, gac_15_9, gac_15_10, gac_15_11, gac_23_0, gac_23_1, gac_23_2, gac_23_3, gac_23_4, gac_23_5, gac_23_6, gic_23_7, gic_23_8, gac_31_0, gic_31_1, gic_31_2, gac_193_0, gac_193_1, gac_193_2, gic_193_3, gac_198_0, gac_200_0, gac_200_1, gac_200_2, gac_200_3, gac_200_4, gac_200_5, gac_200_6, gic_200_7, gic_200_8, pic_1_1, pic_1_2, pic_1_3, pic_1_4, pic_1_5, pic_1_6, pic_3_1, pic_3_2, pic_3_3, pic_3_4, pic_3_5, pic_3_6, pic_3_7, pic_5_0, pic_5_1, pic_5_2, pic_5_3, pic_5_4, pic_13_2, pic_13_10, pic_13_11, pic_13_12, pic_13_13, pic_14_4, pic_14_5, pic_15_0, pic_15_1, pic_15_2, pic_15_3, pic_15_4, pic_23_7, pic_23_8, pic_31_1, pic_31_2, pic_193_3, pic_200_7, pic_200_8, gdc_0, gdc_1, gdc_3, gdc_5, gdc_13, gdc_14, gdc_15, gdc_23, gdc_31, gdc_193, gdc_198, gdc_200, ldc_2, stc_2, ldc_4, stc_4, ldc_6, stc_6, ldc_7, stc_7, ldc_8, stc_8, ldc_9, stc_9, ldc_10, stc_10, ldc_11, stc_11, ldc_12, stc_12, ldc_16, stc_16, ldc_17, stc_17, ldc_18, stc_18, ldc_19, stc_19, ldc_20, stc_20, ldc_21, stc_21, ldc_22, stc_22, ldc_24, stc_24, ldc_25, stc_25, ldc_26, stc_26, ldc_27, stc_27, ldc_28, stc_28, ldc_29, stc_29, ldc_30, stc_30, ldc_194, stc_194, ldc_195, stc_195, ldc_196, stc_196, ldc_199, stc_199, ldc_201, stc_201, ldc_202, stc_202, ldc_203, stc_203, ldc_204, stc_204, ldc_205, stc_205, ldc_206, stc_206, ldc_207, stc_207, ldc_208, stc_208, ldc_209, stc_209, ldc_210, stc_210, ldc_211, stc_211, ldc_213, stc_213, ldc_214, stc_214, ldc_215, stc_215, ldc_216, stc_216, ldc_217, stc_217, ldc_218, stc_218, ldc_219, stc_219, ldc_263, stc_263, lda_197, lda_262, lda_212, lda_32, u2_s, u2_a, u2_b, hi, a1]
  · have hit : it = 60 := by omega
    subst hit
    have fl := flC (m := mk_u2 m 3 3 (nI (60 + 1))) (q := q) (c := 3) ((u2_a (by omega)).trans h3) ((u2_a (by omega)).trans h5) hf
    obtain ⟨ma, a1, a2, a3, a4⟩ := addX (mk_u2 (mk_u2 m 3 3 (nI (60 + 1))) 1 3 (nI (if fa = 0 then 1 + 8 * s + 3 else fa))) (q := q) (x := m 1 4) (y := m 1 6) hb ((u2_a (by omega)).trans ((u2_a (by omega)).trans hn)) hn2
    refine ⟨mk_u2 ma 3 4 (nI 3), ?_, (((FrC.rf.up (by omega)).up (by omega)).trans a2).up (by omega), by rw [u2_a (by omega), a3, u2_s]⟩
    unfold B_X6_readValue_51 F_X6_countItem
    simp (disch := omega) only [ob_some, reduceIte, lit, le_T, le_F, lt_T, lt_F, eq_T, eq_F, nI_add, gac_0_0, gac_0_1, gac_0_2, gac_0_3, gac_0_4, gac_0_5, gac_0_6, gac_1_0, gic_1_1, gic_1_2, gic_1_3, gic_1_4, gic_1_5, gic_1_6, gac_3_0, gic_3_1, gic_3_2, gic_3_3, gic_3_4, gic_3_5, gic_3_6, gic_3_7, gic_5_0, gic_5_1, gic_5_2, gic_5_3, gic_5_4, gac_5_5, gac_5_6, gac_5_7, gac_5_8, gac_5_9, gac_5_10, gac_5_11, gac_13_0, gac_13_1, gic_13_2, gac_13_3, gac_13_4, gac_13_5, gac_13_6, gac_13_7, gac_13_8, gac_13_9, gic_13_10, gic_13_11, gic_13_12, gic_13_13, gac_14_0, gac_14_1, gac_14_2, gac_14_3, gic_14_4, gic_14_5, gic_15_0, gic_15_1, gic_15_2, gic_15_3, gic_15_4, gac_15_5, gac_15_6, gac_15_7, gac_15_8, gac_15_9, gac_15_10, gac_15_11, gac_23_0, gac_23_1, gac_23_2, gac_23_3, gac_23_4, gac_23_5, gac_23_6, gic_23_7, gic_23_8, gac_31_0, gic_31_1, gic_31_2, gac_193_0, gac_193_1, gac_193_2, gic_193_3, gac_198_0, gac_200_0, gac_200_1, gac_200_2, gac_200_3, gac_200_4, gac_200_5, gac_200_6, gic_200_7, gic_200_8, pic_1_1, pic_1_2, pic_1_3, pic_1_4, pic_1_5, pic_1_6, pic_3_1, pic_3_2, pic_3_3, pic_3_4, pic_3_5, pic_3_6, pic_3_7, pic_5_0, pic_5_1, pic_5_2, pic_5_3, pic_5_4, pic_13_2, pic_13_10, pic_13_11, pic_13_12, pic_13_13, pic_14_4, pic_14_5, pic_15_0, pic_15_1, pic_15_2, pic_15_3, pic_15_4, pic_23_7, pic_23_8, pic_31_1, pic_31_2, pic_193_3, pic_200_7, pic_200_8, gdc_0, gdc_1, gdc_3, gdc_5, gdc_13, gdc_14, gdc_15, gdc_23, gdc_31, gdc_193, gdc_198, gdc_200, ldc_2, stc_2, ldc_4, stc_4, ldc_6, stc_6, ldc_7, stc_7, ldc_8, stc_8, ldc_9, stc_9, ldc_10, stc_10, ldc_11, stc_11, ldc_12, stc_12, ldc_16, stc_16, ldc_17, stc_17, ldc_18, stc_18, ldc_19, stc_19, ldc_20, stc_20, ldc_21, stc_21, ldc_22, stc_22, ldc_24, stc_24, ldc_25, stc_25, ldc_26, stc_26, ldc_27, stc_27, ldc_28, stc_28, ldc_29, stc_29, ldc_30, stc_30, ldc_194, stc_194, ldc_195, stc_195, ldc_196, stc_196, ldc_199, stc_199, ldc_201, stc_201, ldc_202, stc_202, ldc_203, stc_203, ldc_204, stc_204, ldc_205, stc_205, ldc_206, stc_206, ldc_207, stc_207, ldc_208, stc_208, ldc_209, stc_209, ldc_210, stc_210, ldc_211, stc_211, ldc_213, stc_213, ldc_214, stc_214, ldc_215, stc_215, ldc_216, stc_216, ldc_217, stc_217, ldc_218, stc_218, ldc_219, stc_219, ldc_263, stc_263, lda_197, lda_262, lda_212, lda_32, u2_s, u2_a, u2_b, hi, fl, a1]
set_option maxRecDepth 4000 in
theorem sg_num {T : TT} {s : Nat} (h : sgn1 T s = 256) (hb : bt T s < 256 ∨ bt T s = 1000) : end1 T s = sp isD T s := by
  have := (sg_256 hb).mp h
  unfold end1
  rw [if_pos this]
set_option maxRecDepth 4000 in
theorem rvC {T : TT} {b e s nx pt it : Nat} {st : List Nat} {cl : RT} {c1 cd : List (Nat × Nat)} {m : Nat → Nat → Int32} {q : Nat → Nat → Int64} (hb : b ∈ RB) (h : CR T b m (0, e, nx, pt, st, it, cl, c1, cd)) (hk : TK T m s) (he : e = end1 T s) (hs : sgn1 T s ≤ 1000) (hsl : s ≤ 400) (hnx : Lv nx) (hit : it ≤ 60) (hlen : sgn1 T s ≠ 1000 → lenR cl + c1.length + cd.length < 400) (hlen2 : lenR cl + c1.length + cd.length ≤ 400) (hnum : sgn1 T s = 256 → end1 T s - s ≤ 5 → nval T s (end1 T s - s) < 100000) : ∃ m1, F_X6_readValue 3 1 b (KS, m, q) = some ((), (KS, m1, q)) ∧ FrC b m m1 ∧ CR T b m1 (sV T s pt st it cl c1 cd) := by
  have hbl := rb_lt hb
  obtain ⟨hT, h3, hr⟩ := h
  obtain ⟨r2, r4, r5, ⟨r1, rS⟩, rd, ri, rn, rc, rP, rs1, rs2, r6, r7⟩ := hr rfl
  obtain ⟨k1, k2, k3⟩ := hk
  have bad : ∀ f, f ≠ 0 → f < 100000 → F_X6_readValue 3 1 b (KS, m, q) = B_X6_readValue_51 3 1 b (KS, mk_u2 m 1 3 (nI f), q) → ∃ m1, F_X6_readValue 3 1 b (KS, m, q) = some ((), (KS, m1, q)) ∧ FrC b m m1 ∧ CR T b m1 (ft f) := fun f h0 hf hF => by
    obtain ⟨m1, a1, a2, a3⟩ := b51 (m := mk_u2 m 1 3 (nI f)) (q := q) hb u2_s ((u2_b (by omega)).trans k1) ((u2_a (by omega)).trans ri) hit ((u2_a (by omega)).trans rn) hlen2 hf (.inl h0)
    rw [if_neg h0] at a3
    have fr : FrC b m m1 := (FrC.rf.up (by omega)).trans a2
    exact ⟨m1, hF.trans a1, fr, CR.flt (hT.fc (by omega) fr) a3 h0⟩
  have fl := fun c => flC (m := m) (q := q) (c := c) h3 k1 (by omega)
  simp only [if_true] at fl
  have good : sgn1 T s ≠ 1000 → F_X6_readValue 3 1 b (KS, m, q) = B_X6_readValue_51 3 1 b (KS, m, q) → m 1 4 = nI (sgn (vE T s)) → ((vE T s).1 = 0 → m 1 6 = nI (vE T s).2) → ∃ m1, F_X6_readValue 3 1 b (KS, m, q) = some ((), (KS, m1, q)) ∧ FrC b m m1 ∧ CR T b m1 (if it < 60 then (0, end1 T s, 3, pt, st, it + 1, cl, c1, cd ++ [vE T s]) else ft (1 + 8 * s + 3)) := fun hg hF hv1 hv2 => by
    by_cases c : it < 60
    · rw [if_pos c]
      have hl := hlen hg
      generalize hN : lenR cl + c1.length + cd.length = N at *
      have ad := addR (m := mk_u2 m 3 3 (nI (it + 1))) (q := q) (x := m 1 4) (y := m 1 6) hb ((u2_a (by omega)).trans rn) hl
      have fr : FrC b m (mk_u2 (mk_u2 (mk_u2 (mk_u2 (mk_u2 m 3 3 (nI (it + 1))) (b + 1) N (m 1 4)) (b + 2) N (m 1 6)) b 2 (nI (N + 1))) 3 4 (nI 3)) := ((((FrC.rf.up (by omega)).up (by omega)).up (by omega)).up (by omega)).up (by omega)
      have low : ∀ k, k < N → mk_u2 (mk_u2 (mk_u2 (mk_u2 (mk_u2 m 3 3 (nI (it + 1))) (b + 1) N (m 1 4)) (b + 2) N (m 1 6)) b 2 (nI (N + 1))) 3 4 (nI 3) (b + 1) k = m (b + 1) k ∧ mk_u2 (mk_u2 (mk_u2 (mk_u2 (mk_u2 m 3 3 (nI (it + 1))) (b + 1) N (m 1 4)) (b + 2) N (m 1 6)) b 2 (nI (N + 1))) 3 4 (nI 3) (b + 2) k = m (b + 2) k := fun k hk => by
        simp (disch := omega) only [u2_s, u2_a, u2_b, and_self]
      refine ⟨_, ?_, fr, hT.fc (by omega) fr, by simp (disch := omega) only [u2_s, u2_a, u2_b, h3], fun _ => ⟨by simp (disch := omega) only [u2_s, u2_a, u2_b, r2, he], by simp (disch := omega) only [u2_s, u2_a, u2_b], fun _ => by simp (disch := omega) only [u2_s, u2_a, u2_b, r5 hnx], ⟨by simp (disch := omega) only [u2_s, u2_a, u2_b, r1], rS.congr (fun k _ => by simp (disch := omega) only [u2_s, u2_a, u2_b])⟩, by simp (disch := omega) only [u2_s, u2_a, u2_b, rd], by simp (disch := omega) only [u2_s, u2_a, u2_b], ?_, by simp (disch := omega) only [u2_s, u2_a, u2_b, rc], ?_, rs1.fr (fun k hk => low k (by omega)), SegC.app (rs2.fr (fun k hk => low k (by omega))) ?_ (fun h0 => ?_), fun _ => by simp (disch := omega) only [u2_s, u2_a, u2_b, r6 hnx], fun z => ?_⟩⟩
      · rw [hF]
        unfold B_X6_readValue_51 F_X6_countItem
        simp (disch := omega) only [ob_some, reduceIte, lit, le_T, le_F, lt_T, lt_F, eq_T, eq_F, nI_add, gac_0_0, gac_0_1, gac_0_2, gac_0_3, gac_0_4, gac_0_5, gac_0_6, gac_1_0, gic_1_1, gic_1_2, gic_1_3, gic_1_4, gic_1_5, gic_1_6, gac_3_0, gic_3_1, gic_3_2, gic_3_3, gic_3_4, gic_3_5, gic_3_6, gic_3_7, gic_5_0, gic_5_1, gic_5_2, gic_5_3, gic_5_4, gac_5_5, gac_5_6, gac_5_7, gac_5_8, gac_5_9, gac_5_10, gac_5_11, gac_13_0, gac_13_1, gic_13_2, gac_13_3, gac_13_4, gac_13_5, gac_13_6, gac_13_7, gac_13_8, gac_13_9, gic_13_10, gic_13_11, gic_13_12, gic_13_13, gac_14_0, gac_14_1, gac_14_2, gac_14_3, gic_14_4, gic_14_5, gic_15_0, gic_15_1, gic_15_2, gic_15_3, gic_15_4, gac_15_5, gac_15_6, gac_15_7, gac_15_8, gac_15_9, gac_15_10, gac_15_11, gac_23_0, gac_23_1, gac_23_2, gac_23_3, gac_23_4, gac_23_5, gac_23_6, gic_23_7, gic_23_8, gac_31_0, gic_31_1, gic_31_2, gac_193_0, gac_193_1, gac_193_2, gic_193_3, gac_198_0, gac_200_0, gac_200_1, gac_200_2, gac_200_3, gac_200_4, gac_200_5, gac_200_6, gic_200_7, gic_200_8, pic_1_1, pic_1_2, pic_1_3, pic_1_4, pic_1_5, pic_1_6, pic_3_1, pic_3_2, pic_3_3, pic_3_4, pic_3_5, pic_3_6, pic_3_7, pic_5_0, pic_5_1, pic_5_2, pic_5_3, pic_5_4, pic_13_2, pic_13_10, pic_13_11, pic_13_12, pic_13_13, pic_14_4, pic_14_5, pic_15_0, pic_15_1, pic_15_2, pic_15_3, pic_15_4, pic_23_7, pic_23_8, pic_31_1, pic_31_2, pic_193_3, pic_200_7, pic_200_8, gdc_0, gdc_1, gdc_3, gdc_5, gdc_13, gdc_14, gdc_15, gdc_23, gdc_31, gdc_193, gdc_198, gdc_200, ldc_2, stc_2, ldc_4, stc_4, ldc_6, stc_6, ldc_7, stc_7, ldc_8, stc_8, ldc_9, stc_9, ldc_10, stc_10, ldc_11, stc_11, ldc_12, stc_12, ldc_16, stc_16, ldc_17, stc_17, ldc_18, stc_18, ldc_19, stc_19, ldc_20, stc_20, ldc_21, stc_21, ldc_22, stc_22, ldc_24, stc_24, ldc_25, stc_25, ldc_26, stc_26, ldc_27, stc_27, ldc_28, stc_28, ldc_29, stc_29, ldc_30, stc_30, ldc_194, stc_194, ldc_195, stc_195, ldc_196, stc_196, ldc_199, stc_199, ldc_201, stc_201, ldc_202, stc_202, ldc_203, stc_203, ldc_204, stc_204, ldc_205, stc_205, ldc_206, stc_206, ldc_207, stc_207, ldc_208, stc_208, ldc_209, stc_209, ldc_210, stc_210, ldc_211, stc_211, ldc_213, stc_213, ldc_214, stc_214, ldc_215, stc_215, ldc_216, stc_216, ldc_217, stc_217, ldc_218, stc_218, ldc_219, stc_219, ldc_263, stc_263, lda_197, lda_262, lda_212, lda_32, u2_s, u2_a, u2_b, ri, ad]
      · rw [u2_a (by omega), u2_s]
        congr 1
        simp only [List.length_append, List.length_cons, List.length_nil]; omega
      · refine rP.fr (fun k hk => low k (by omega)) (fun j _ => ?_)
        simp (disch := omega) only [u2_s, u2_a, u2_b, and_self]
      · rw [hN, u2_a (by omega), u2_a (by omega), u2_a (by omega), u2_s]; exact hv1
      · rw [hN, u2_a (by omega), u2_a (by omega), u2_s]; exact hv2 h0
      · have z2 : pt ≠ 0 := by
          rcases z with z | z
          · omega
          · exact z.2
        simp (disch := omega) only [u2_s, u2_a, u2_b, r7 (.inr ⟨hnx, z2⟩)]
    · rw [if_neg c]
      obtain ⟨m1, a1, a2, a3⟩ := b51 (q := q) hb h3 k1 ri hit rn hlen2 (by omega) (.inr (by omega))
      rw [if_pos rfl] at a3
      exact ⟨m1, hF.trans a1, a2, CR.flt (hT.fc (by omega) a2) a3 (by omega)⟩
  unfold sV
  by_cases c256 : sgn1 T s = 256
  · rw [if_pos (.inl c256)]
    have k3 := k3 c256
    have k2' : m 1 4 = nI 256 := by rw [k2, c256]; rfl
    have hv : vE T s = (0, nval T s (end1 T s - s)) := by unfold vE; rw [if_pos c256]
    by_cases c5 : 5 < end1 T s - s
    · rw [if_pos ⟨c256, c5⟩]
      have e6 : m 1 6 = -nI 1 := by rw [k3]; unfold numI; rw [if_neg (by omega)]
      refine bad _ (by omega) (by omega) ?_
      unfold F_X6_readValue B_X6_readValue_28
      simp (disch := omega) only [ob_some, reduceIte, lit, le_T, le_F, lt_T, lt_F, eq_T, eq_F, nI_add, gac_0_0, gac_0_1, gac_0_2, gac_0_3, gac_0_4, gac_0_5, gac_0_6, gac_1_0, gic_1_1, gic_1_2, gic_1_3, gic_1_4, gic_1_5, gic_1_6, gac_3_0, gic_3_1, gic_3_2, gic_3_3, gic_3_4, gic_3_5, gic_3_6, gic_3_7, gic_5_0, gic_5_1, gic_5_2, gic_5_3, gic_5_4, gac_5_5, gac_5_6, gac_5_7, gac_5_8, gac_5_9, gac_5_10, gac_5_11, gac_13_0, gac_13_1, gic_13_2, gac_13_3, gac_13_4, gac_13_5, gac_13_6, gac_13_7, gac_13_8, gac_13_9, gic_13_10, gic_13_11, gic_13_12, gic_13_13, gac_14_0, gac_14_1, gac_14_2, gac_14_3, gic_14_4, gic_14_5, gic_15_0, gic_15_1, gic_15_2, gic_15_3, gic_15_4, gac_15_5, gac_15_6, gac_15_7, gac_15_8, gac_15_9, gac_15_10, gac_15_11, gac_23_0, gac_23_1, gac_23_2, gac_23_3, gac_23_4, gac_23_5, gac_23_6, gic_23_7, gic_23_8, gac_31_0, gic_31_1, gic_31_2, gac_193_0, gac_193_1, gac_193_2, gic_193_3, gac_198_0, gac_200_0, gac_200_1, gac_200_2, gac_200_3, gac_200_4, gac_200_5, gac_200_6, gic_200_7, gic_200_8, pic_1_1, pic_1_2, pic_1_3, pic_1_4, pic_1_5, pic_1_6, pic_3_1, pic_3_2, pic_3_3, pic_3_4, pic_3_5, pic_3_6, pic_3_7, pic_5_0, pic_5_1, pic_5_2, pic_5_3, pic_5_4, pic_13_2, pic_13_10, pic_13_11, pic_13_12, pic_13_13, pic_14_4, pic_14_5, pic_15_0, pic_15_1, pic_15_2, pic_15_3, pic_15_4, pic_23_7, pic_23_8, pic_31_1, pic_31_2, pic_193_3, pic_200_7, pic_200_8, gdc_0, gdc_1, gdc_3, gdc_5, gdc_13, gdc_14, gdc_15, gdc_23, gdc_31, gdc_193, gdc_198, gdc_200, ldc_2, stc_2, ldc_4, stc_4, ldc_6, stc_6, ldc_7, stc_7, ldc_8, stc_8, ldc_9, stc_9, ldc_10, stc_10, ldc_11, stc_11, ldc_12, stc_12, ldc_16, stc_16, ldc_17, stc_17, ldc_18, stc_18, ldc_19, stc_19, ldc_20, stc_20, ldc_21, stc_21, ldc_22, stc_22, ldc_24, stc_24, ldc_25, stc_25, ldc_26, stc_26, ldc_27, stc_27, ldc_28, stc_28, ldc_29, stc_29, ldc_30, stc_30, ldc_194, stc_194, ldc_195, stc_195, ldc_196, stc_196, ldc_199, stc_199, ldc_201, stc_201, ldc_202, stc_202, ldc_203, stc_203, ldc_204, stc_204, ldc_205, stc_205, ldc_206, stc_206, ldc_207, stc_207, ldc_208, stc_208, ldc_209, stc_209, ldc_210, stc_210, ldc_211, stc_211, ldc_213, stc_213, ldc_214, stc_214, ldc_215, stc_215, ldc_216, stc_216, ldc_217, stc_217, ldc_218, stc_218, ldc_219, stc_219, ldc_263, stc_263, lda_197, lda_262, lda_212, lda_32, u2_s, u2_a, u2_b, k2', e6, fl]
    · rw [if_neg (fun h => c5 h.2)]
      have e6 : m 1 6 = nI (nval T s (end1 T s - s)) := by rw [k3]; unfold numI; rw [if_pos (by omega)]
      refine good (by omega) ?_ (by rw [hv]; exact k2') (fun _ => by rw [hv]; exact e6)
      have hnv : nval T s (end1 T s - s) < 100000 := hnum c256 (by omega)
      unfold F_X6_readValue B_X6_readValue_28
      simp (disch := omega) only [ob_some, reduceIte, lit, le_T, le_F, lt_T, lt_F, eq_T, eq_F, nI_add, gac_0_0, gac_0_1, gac_0_2, gac_0_3, gac_0_4, gac_0_5, gac_0_6, gac_1_0, gic_1_1, gic_1_2, gic_1_3, gic_1_4, gic_1_5, gic_1_6, gac_3_0, gic_3_1, gic_3_2, gic_3_3, gic_3_4, gic_3_5, gic_3_6, gic_3_7, gic_5_0, gic_5_1, gic_5_2, gic_5_3, gic_5_4, gac_5_5, gac_5_6, gac_5_7, gac_5_8, gac_5_9, gac_5_10, gac_5_11, gac_13_0, gac_13_1, gic_13_2, gac_13_3, gac_13_4, gac_13_5, gac_13_6, gac_13_7, gac_13_8, gac_13_9, gic_13_10, gic_13_11, gic_13_12, gic_13_13, gac_14_0, gac_14_1, gac_14_2, gac_14_3, gic_14_4, gic_14_5, gic_15_0, gic_15_1, gic_15_2, gic_15_3, gic_15_4, gac_15_5, gac_15_6, gac_15_7, gac_15_8, gac_15_9, gac_15_10, gac_15_11, gac_23_0, gac_23_1, gac_23_2, gac_23_3, gac_23_4, gac_23_5, gac_23_6, gic_23_7, gic_23_8, gac_31_0, gic_31_1, gic_31_2, gac_193_0, gac_193_1, gac_193_2, gic_193_3, gac_198_0, gac_200_0, gac_200_1, gac_200_2, gac_200_3, gac_200_4, gac_200_5, gac_200_6, gic_200_7, gic_200_8, pic_1_1, pic_1_2, pic_1_3, pic_1_4, pic_1_5, pic_1_6, pic_3_1, pic_3_2, pic_3_3, pic_3_4, pic_3_5, pic_3_6, pic_3_7, pic_5_0, pic_5_1, pic_5_2, pic_5_3, pic_5_4, pic_13_2, pic_13_10, pic_13_11, pic_13_12, pic_13_13, pic_14_4, pic_14_5, pic_15_0, pic_15_1, pic_15_2, pic_15_3, pic_15_4, pic_23_7, pic_23_8, pic_31_1, pic_31_2, pic_193_3, pic_200_7, pic_200_8, gdc_0, gdc_1, gdc_3, gdc_5, gdc_13, gdc_14, gdc_15, gdc_23, gdc_31, gdc_193, gdc_198, gdc_200, ldc_2, stc_2, ldc_4, stc_4, ldc_6, stc_6, ldc_7, stc_7, ldc_8, stc_8, ldc_9, stc_9, ldc_10, stc_10, ldc_11, stc_11, ldc_12, stc_12, ldc_16, stc_16, ldc_17, stc_17, ldc_18, stc_18, ldc_19, stc_19, ldc_20, stc_20, ldc_21, stc_21, ldc_22, stc_22, ldc_24, stc_24, ldc_25, stc_25, ldc_26, stc_26, ldc_27, stc_27, ldc_28, stc_28, ldc_29, stc_29, ldc_30, stc_30, ldc_194, stc_194, ldc_195, stc_195, ldc_196, stc_196, ldc_199, stc_199, ldc_201, stc_201, ldc_202, stc_202, ldc_203, stc_203, ldc_204, stc_204, ldc_205, stc_205, ldc_206, stc_206, ldc_207, stc_207, ldc_208, stc_208, ldc_209, stc_209, ldc_210, stc_210, ldc_211, stc_211, ldc_213, stc_213, ldc_214, stc_214, ldc_215, stc_215, ldc_216, stc_216, ldc_217, stc_217, ldc_218, stc_218, ldc_219, stc_219, ldc_263, stc_263, lda_197, lda_262, lda_212, lda_32, u2_s, u2_a, u2_b, k2', e6, m1_eq]
  · by_cases cw : 300 ≤ sgn1 T s ∧ sgn1 T s < 312
    · rw [if_pos (.inr cw), if_neg (fun h => c256 h.1)]
      have hv : vE T s = (1, sgn1 T s - 300) := by unfold vE; rw [if_neg c256]
      have k2' : m 1 4 = nI (sgn1 T s) := by rw [k2, sI_n (by omega)]
      have hw := isWord_T (n := sgn1 T s - 300) (by omega) (KS, m, q)
      rw [show 300 + (sgn1 T s - 300) = sgn1 T s by omega] at hw
      refine good (by omega) ?_ ?_ (fun h0 => ?_)
      · unfold F_X6_readValue B_X6_readValue_28
        simp (disch := omega) only [ob_some, reduceIte, lit, le_T, le_F, lt_T, lt_F, eq_T, eq_F, nI_add, gac_0_0, gac_0_1, gac_0_2, gac_0_3, gac_0_4, gac_0_5, gac_0_6, gac_1_0, gic_1_1, gic_1_2, gic_1_3, gic_1_4, gic_1_5, gic_1_6, gac_3_0, gic_3_1, gic_3_2, gic_3_3, gic_3_4, gic_3_5, gic_3_6, gic_3_7, gic_5_0, gic_5_1, gic_5_2, gic_5_3, gic_5_4, gac_5_5, gac_5_6, gac_5_7, gac_5_8, gac_5_9, gac_5_10, gac_5_11, gac_13_0, gac_13_1, gic_13_2, gac_13_3, gac_13_4, gac_13_5, gac_13_6, gac_13_7, gac_13_8, gac_13_9, gic_13_10, gic_13_11, gic_13_12, gic_13_13, gac_14_0, gac_14_1, gac_14_2, gac_14_3, gic_14_4, gic_14_5, gic_15_0, gic_15_1, gic_15_2, gic_15_3, gic_15_4, gac_15_5, gac_15_6, gac_15_7, gac_15_8, gac_15_9, gac_15_10, gac_15_11, gac_23_0, gac_23_1, gac_23_2, gac_23_3, gac_23_4, gac_23_5, gac_23_6, gic_23_7, gic_23_8, gac_31_0, gic_31_1, gic_31_2, gac_193_0, gac_193_1, gac_193_2, gic_193_3, gac_198_0, gac_200_0, gac_200_1, gac_200_2, gac_200_3, gac_200_4, gac_200_5, gac_200_6, gic_200_7, gic_200_8, pic_1_1, pic_1_2, pic_1_3, pic_1_4, pic_1_5, pic_1_6, pic_3_1, pic_3_2, pic_3_3, pic_3_4, pic_3_5, pic_3_6, pic_3_7, pic_5_0, pic_5_1, pic_5_2, pic_5_3, pic_5_4, pic_13_2, pic_13_10, pic_13_11, pic_13_12, pic_13_13, pic_14_4, pic_14_5, pic_15_0, pic_15_1, pic_15_2, pic_15_3, pic_15_4, pic_23_7, pic_23_8, pic_31_1, pic_31_2, pic_193_3, pic_200_7, pic_200_8, gdc_0, gdc_1, gdc_3, gdc_5, gdc_13, gdc_14, gdc_15, gdc_23, gdc_31, gdc_193, gdc_198, gdc_200, ldc_2, stc_2, ldc_4, stc_4, ldc_6, stc_6, ldc_7, stc_7, ldc_8, stc_8, ldc_9, stc_9, ldc_10, stc_10, ldc_11, stc_11, ldc_12, stc_12, ldc_16, stc_16, ldc_17, stc_17, ldc_18, stc_18, ldc_19, stc_19, ldc_20, stc_20, ldc_21, stc_21, ldc_22, stc_22, ldc_24, stc_24, ldc_25, stc_25, ldc_26, stc_26, ldc_27, stc_27, ldc_28, stc_28, ldc_29, stc_29, ldc_30, stc_30, ldc_194, stc_194, ldc_195, stc_195, ldc_196, stc_196, ldc_199, stc_199, ldc_201, stc_201, ldc_202, stc_202, ldc_203, stc_203, ldc_204, stc_204, ldc_205, stc_205, ldc_206, stc_206, ldc_207, stc_207, ldc_208, stc_208, ldc_209, stc_209, ldc_210, stc_210, ldc_211, stc_211, ldc_213, stc_213, ldc_214, stc_214, ldc_215, stc_215, ldc_216, stc_216, ldc_217, stc_217, ldc_218, stc_218, ldc_219, stc_219, ldc_263, stc_263, lda_197, lda_262, lda_212, lda_32, u2_s, u2_a, u2_b, k2', hw]
      · rw [hv, k2']
        show nI (sgn1 T s) = nI (300 + (sgn1 T s - 300))
        congr 1
        omega
      · rw [hv] at h0
        have : 1 = 0 := h0
        omega
    · rw [if_neg (by omega)]
      have hw : F_X5_isWord (sI (sgn1 T s)) (KS, m, q) = some (nI 0, (KS, m, q)) := by
        unfold F_X5_isWord B_X5_isWord_18
        by_cases cE : sgn1 T s = 1000
        · rw [cE, sI_e]
          have z : (-nI 1 < nI 300) = True := eq_true (m1_ltc (by omega))
          simp (disch := omega) only [lit, z, reduceIte, rz0]
        · rw [sI_n cE]
          by_cases c3 : sgn1 T s < 300
          · simp (disch := omega) only [lit, lt_T, reduceIte, rz0]
          · simp (disch := omega) only [lit, lt_F, le_T, reduceIte, rz0]
      refine bad _ (by omega) (by omega) ?_
      unfold F_X6_readValue
      simp (disch := omega) only [ob_some, reduceIte, lit, le_T, le_F, lt_T, lt_F, eq_T, eq_F, nI_add, gac_0_0, gac_0_1, gac_0_2, gac_0_3, gac_0_4, gac_0_5, gac_0_6, gac_1_0, gic_1_1, gic_1_2, gic_1_3, gic_1_4, gic_1_5, gic_1_6, gac_3_0, gic_3_1, gic_3_2, gic_3_3, gic_3_4, gic_3_5, gic_3_6, gic_3_7, gic_5_0, gic_5_1, gic_5_2, gic_5_3, gic_5_4, gac_5_5, gac_5_6, gac_5_7, gac_5_8, gac_5_9, gac_5_10, gac_5_11, gac_13_0, gac_13_1, gic_13_2, gac_13_3, gac_13_4, gac_13_5, gac_13_6, gac_13_7, gac_13_8, gac_13_9, gic_13_10, gic_13_11, gic_13_12, gic_13_13, gac_14_0, gac_14_1, gac_14_2, gac_14_3, gic_14_4, gic_14_5, gic_15_0, gic_15_1, gic_15_2, gic_15_3, gic_15_4, gac_15_5, gac_15_6, gac_15_7, gac_15_8, gac_15_9, gac_15_10, gac_15_11, gac_23_0, gac_23_1, gac_23_2, gac_23_3, gac_23_4, gac_23_5, gac_23_6, gic_23_7, gic_23_8, gac_31_0, gic_31_1, gic_31_2, gac_193_0, gac_193_1, gac_193_2, gic_193_3, gac_198_0, gac_200_0, gac_200_1, gac_200_2, gac_200_3, gac_200_4, gac_200_5, gac_200_6, gic_200_7, gic_200_8, pic_1_1, pic_1_2, pic_1_3, pic_1_4, pic_1_5, pic_1_6, pic_3_1, pic_3_2, pic_3_3, pic_3_4, pic_3_5, pic_3_6, pic_3_7, pic_5_0, pic_5_1, pic_5_2, pic_5_3, pic_5_4, pic_13_2, pic_13_10, pic_13_11, pic_13_12, pic_13_13, pic_14_4, pic_14_5, pic_15_0, pic_15_1, pic_15_2, pic_15_3, pic_15_4, pic_23_7, pic_23_8, pic_31_1, pic_31_2, pic_193_3, pic_200_7, pic_200_8, gdc_0, gdc_1, gdc_3, gdc_5, gdc_13, gdc_14, gdc_15, gdc_23, gdc_31, gdc_193, gdc_198, gdc_200, ldc_2, stc_2, ldc_4, stc_4, ldc_6, stc_6, ldc_7, stc_7, ldc_8, stc_8, ldc_9, stc_9, ldc_10, stc_10, ldc_11, stc_11, ldc_12, stc_12, ldc_16, stc_16, ldc_17, stc_17, ldc_18, stc_18, ldc_19, stc_19, ldc_20, stc_20, ldc_21, stc_21, ldc_22, stc_22, ldc_24, stc_24, ldc_25, stc_25, ldc_26, stc_26, ldc_27, stc_27, ldc_28, stc_28, ldc_29, stc_29, ldc_30, stc_30, ldc_194, stc_194, ldc_195, stc_195, ldc_196, stc_196, ldc_199, stc_199, ldc_201, stc_201, ldc_202, stc_202, ldc_203, stc_203, ldc_204, stc_204, ldc_205, stc_205, ldc_206, stc_206, ldc_207, stc_207, ldc_208, stc_208, ldc_209, stc_209, ldc_210, stc_210, ldc_211, stc_211, ldc_213, stc_213, ldc_214, stc_214, ldc_215, stc_215, ldc_216, stc_216, ldc_217, stc_217, ldc_218, stc_218, ldc_219, stc_219, ldc_263, stc_263, lda_197, lda_262, lda_212, lda_32, u2_s, u2_a, u2_b, k2, sI_eqc, c256, hw, fl]
