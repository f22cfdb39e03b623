/-! rule -/
set_option maxRecDepth 4000 in
theorem rst_term {T : TT} {y : RG} (h : y.1 ≠ 0 ∨ y.2.2.1 = 4) : rst T y = y := by
  obtain ⟨fa, a, nx, pt, st, it, cl, c1, cd⟩ := y
  by_cases c : fa = 0
  · have h4 : nx = 4 := by
      rcases h with z | z
      · exact absurd c z
      · exact z
    subst c h4
    rfl
  · show (if fa = 0 then _ else _) = _
    rw [if_neg c]
set_option maxRecDepth 4000 in
theorem ruL {T : TT} {r : Nat} {q : Nat → Nat → Int64} (hr : r < 6) : ∀ (d f : Nat) (m : Nat → Nat → Int32) (x : RG) (cl : RT), cl.length + d = 12 → d + 2 < f → MC T r m x cl → ∃ m1 k y g, B_X12_rule_27 f 996 (nI cl.length) (nI 1) (KS, m, q) = B_X12_rule_27 (g + 1) 996 (nI k) (nI 0) (KS, m1, q) ∧ FrU r m m1 ∧ Rc T x y ∧ ((∃ fl, y = ft fl ∧ m1 996 29 = nI fl ∧ fl ≠ 0 ∧ fl < 100000) ∨ (∃ a pt it cl', y = (0, a, 4, pt, [], it, cl', [], []) ∧ k = cl'.length ∧ m1 996 29 = nI 0 ∧ ClQ m1 r 0 0 cl' ∧ (∀ c, c ∈ cl' → WFc c) ∧ Gv T y)) := by
  intro d
  induction d with
  | zero =>
    intro f m x cl hd hf h
    obtain ⟨f, rfl⟩ : ∃ g, f = g + 1 := ⟨f - 1, by omega⟩
    obtain ⟨f, rfl⟩ : ∃ g, f = g + 1 := ⟨f - 1, by omega⟩
    obtain ⟨m1, a1, a2, a3⟩ := rkM (q := q) hr h
    rcases a3 with ⟨fl, b1, b2⟩ | ⟨x', b1, b2, b3⟩
    · obtain ⟨p, p1, p2⟩ := b2.2.2.2.2.1
      have hfl := b2.2.2.1
      have go := goM (q := q) b2.1 p2 (by omega) b2.2.1 b2.2.2.2.1 rfl
      rw [if_neg (fun h => hfl h.1), if_neg (fun h => hfl h.1), u2_id b2.2.1] at go
      refine ⟨(mk_u2 m1 996 28 (nI (sp isB T p + 1))), cl.length + 1, ft fl, f, ?_, a2.up (by omega), b1.rc, .inl ⟨fl, rfl, (u2_b (by omega)).trans b2.2.1, hfl, b2.2.2.2.1⟩⟩
      rw [B_X12_rule_27]
      simp (disch := omega) only [lit, eq_F, reduceIte, a1, ob_some, go, nI_add]
    · omega
  | succ d ih =>
    intro f m x cl hd hf h
    obtain ⟨f, rfl⟩ : ∃ g, f = g + 1 := ⟨f - 1, by omega⟩
    obtain ⟨m1, a1, a2, a3⟩ := rkM (q := q) hr h
    obtain ⟨a0, pt0, it0, p0, rfl, hM0, hsp0, h330, hQ0, hW0, hG0⟩ := h
    rcases a3 with ⟨fl, b1, b2⟩ | ⟨x', b1, b2, b3⟩
    · obtain ⟨f, rfl⟩ : ∃ g, f = g + 1 := ⟨f - 1, by omega⟩
      obtain ⟨p, p1, p2⟩ := b2.2.2.2.2.1
      have hfl := b2.2.2.1
      have go := goM (q := q) b2.1 p2 (by omega) b2.2.1 b2.2.2.2.1 rfl
      rw [if_neg (fun h => hfl h.1), if_neg (fun h => hfl h.1), u2_id b2.2.1] at go
      refine ⟨(mk_u2 m1 996 28 (nI (sp isB T p + 1))), cl.length + 1, ft fl, f, ?_, a2.up (by omega), b1.rc, .inl ⟨fl, rfl, (u2_b (by omega)).trans b2.2.1, hfl, b2.2.2.2.1⟩⟩
      rw [B_X12_rule_27]
      simp (disch := omega) only [lit, eq_F, reduceIte, a1, ob_some, go, nI_add]
    · obtain ⟨a, pt, S, it, c1, cd, o, es, c, rfl, hrl, hM, h1, h2, h3, h4, hc, hlen, hQ, hWF, h33, hG⟩ := b3
      obtain ⟨hT4, hb⟩ := hM.bt
      have hal := (hG.2 rfl).1
      have hst := ce_step (T := T) (a := a) (it := it) (cl := cl) (c1 := c1) hb hrl h1 h2 h3 h4
      rw [← hc] at hst
      have hpl := hM.2.2.1
      have go := goM (q := q) hM.1 hM.2.1 (by omega) hM.2.2.2.1 (by omega) rfl
      rw [sp_sp hB] at go
      have hG1 := hG.rst hT4 hb
      have hW1 : ∀ c', c' ∈ cl ++ [c] → WFc c' := fun c' hc' => by
        rcases List.mem_append.mp hc' with h | h
        · exact hW0 c' h
        · rw [List.mem_singleton] at h; rw [h]; exact hWF
      have hlr := lenR_app cl c
      have hn1 : (cl ++ [c]).length = cl.length + 1 := by simp only [List.length_append, List.length_cons, List.length_nil]
      by_cases c59 : bt T (sp isB T a) = 59
      · rw [if_pos c59] at hst
        rw [if_pos ⟨rfl, c59⟩, if_neg (fun h => h.2.1 c59), u2_id hM.2.2.2.1] at go
        rw [hst] at hG1
        have hlt := bt_far (T := T) (s := sp isB T a) (by omega)
        obtain ⟨e1, e2, e3, e4, e5, e6, e7, e8, e9⟩ := hM.p (p1 := sp isB T a + 1) (by omega)
        have hM2 : MB T r (lenR (cl ++ [c])) ((mk_u2 m1 996 28 (nI (sp isB T a + 1)))) (sp isB T a + 1) [] it := ⟨e1, e2, e3, e4, e5, by rw [e6, hlen, hlr]; rfl, e7, e8, trivial⟩
        obtain ⟨m2, k, y, g, z1, z2, z3, z4⟩ := ih f ((mk_u2 m1 996 28 (nI (sp isB T a + 1)))) (0, sp isB T a + 1, 0, pt, [], it, cl ++ [c], [], []) (cl ++ [c]) (by omega) (by omega) ⟨sp isB T a + 1, pt, it, sp isB T a + 1, rfl, hM2, rfl, (u2_b (by omega)).trans h33, hQ.fr (fun k _ => by rw [u2_a (by omega), u2_a (by omega)]; exact ⟨rfl, rfl⟩) (fun j _ => by rw [u2_a (by omega), u2_a (by omega), u2_a (by omega)]; exact ⟨rfl, rfl, rfl⟩), hW1, hG1⟩
        refine ⟨m2, k, y, g, ?_, (a2.up (by omega)).trans z2, ((b1.trans (R1.one hst)).c z3).rc, z4⟩
        rw [← z1, hn1, B_X12_rule_27]
        simp (disch := omega) only [lit, eq_F, reduceIte, a1, ob_some, go, nI_add]
      · rw [if_neg c59] at hst
        obtain ⟨f, rfl⟩ : ∃ g, f = g + 1 := ⟨f - 1, by omega⟩
        by_cases cE : bt T (sp isB T a) = 1000
        · rw [if_pos cE] at hst
          rw [if_neg (fun h => c59 h.2), if_neg (fun h => h.2.2 cE), u2_id hM.2.2.2.1] at go
          rw [hst] at hG1
          refine ⟨(mk_u2 m1 996 28 (nI (sp isB T a + 1))), cl.length + 1, _, f, ?_, a2.up (by omega), (b1.trans (R1.one hst)).rc, .inr ⟨_, _, _, cl ++ [c], rfl, hn1.symm, (u2_b (by omega)).trans hM.2.2.2.1, hQ.fr (fun k _ => by rw [u2_a (by omega), u2_a (by omega)]; exact ⟨rfl, rfl⟩) (fun j _ => by rw [u2_a (by omega), u2_a (by omega), u2_a (by omega)]; exact ⟨rfl, rfl, rfl⟩), hW1, hG1⟩⟩
          rw [B_X12_rule_27]
          simp (disch := omega) only [lit, eq_F, reduceIte, a1, ob_some, go, nI_add]
        · rw [if_neg cE] at hst
          rw [if_neg (fun h => c59 h.2), if_pos ⟨rfl, c59, cE⟩] at go
          refine ⟨(mk_u2 (mk_u2 m1 996 29 (nI (1 + 8 * sp isB T a + 0))) 996 28 (nI (sp isB T a + 1))), cl.length + 1, _, f, ?_, (a2.up (by omega)).up (by omega), (b1.trans (R1.one hst)).rc, .inl ⟨1 + 8 * sp isB T a + 0, rfl, by rw [u2_b (by omega), u2_s], by omega, by omega⟩⟩
          rw [B_X12_rule_27]
          simp (disch := omega) only [lit, eq_F, reduceIte, a1, ob_some, go, nI_add]
set_option maxRecDepth 4000 in
theorem ClM.low {m m1 : Nat → Nat → Int32} {r n : Nat} (hr : r < n) (e : ∀ k, k < 300 * n → m1 1024 k = m 1024 k ∧ m1 1025 k = m 1025 k) (e2 : ∀ k, k < 12 * n → m1 1027 k = m 1027 k ∧ m1 1028 k = m 1028 k ∧ m1 1029 k = m 1029 k) : ∀ {cl : RT} {i : Nat}, i + cl.length ≤ 12 → ClM m r i cl → ClM m1 r i cl
  | [], _, _, _ => trivial
  | c :: cl, i, hi, h => by
    obtain ⟨⟨s, h1, h2, h3, h4, h5, h6⟩, h7, h8⟩ := h
    simp only [List.length_cons] at hi
    obtain ⟨q1, q2, q3⟩ := e2 (12 * r + i) (by omega)
    exact ⟨⟨s, q1.trans h1, q2.trans h2, q3.trans h3, h4, h5.fr (fun k hk => e k (by omega)), h6.fr (fun k hk => e k (by omega))⟩, h7, ClM.low hr e e2 (by omega) h8⟩
set_option maxRecDepth 4000 in
theorem ClM.congr' {m m1 : Nat → Nat → Int32} {r i : Nat} {cl : RT} (h : ClM m r i cl) (e : ∀ j, 1024 ≤ j → j < 1030 → j ≠ 1026 → m1 j = m j) : ClM m1 r i cl := by
  induction cl generalizing i with
  | nil => trivial
  | cons c cl ih =>
    obtain ⟨⟨s, h1, h2, h3, h4, h5, h6⟩, h7, h8⟩ := h
    have sg : ∀ o cs, SegM m r o cs → SegM m1 r o cs := fun o cs hs => hs.fr (fun k _ => by rw [e 1024 (by omega) (by omega) (by omega), e 1025 (by omega) (by omega) (by omega)]; exact ⟨rfl, rfl⟩)
    exact ⟨⟨s, by rw [e 1027 (by omega) (by omega) (by omega)]; exact h1, by rw [e 1028 (by omega) (by omega) (by omega)]; exact h2, by rw [e 1029 (by omega) (by omega) (by omega)]; exact h3, h4, sg _ _ h5, sg _ _ h6⟩, h7, ih h8⟩
set_option maxRecDepth 4000 in
theorem RuleM.low {m m1 : Nat → Nat → Int32} {r n : Nat} {ρ : RT} (hr : r < n) (e : ∀ k, k < 300 * n → m1 1024 k = m 1024 k ∧ m1 1025 k = m 1025 k) (e2 : ∀ k, k < 12 * n → m1 1027 k = m 1027 k ∧ m1 1028 k = m 1028 k ∧ m1 1029 k = m 1029 k) (e3 : ∀ k, k < n → m1 1026 k = m 1026 k) (h : RuleM m r ρ) : RuleM m1 r ρ := ⟨h.1, (e3 r hr).trans h.2.1, ClM.low hr e e2 (by have := h.1; omega) h.2.2⟩
set_option maxRecDepth 4000 in
theorem CI.ru {len : Nat} {by_ : Nat → Nat} {nr nr' : Nat} {RS RS' : Nat → RT} {W : WT} {IM : Nat → WT} {md : Nat → Bool} {m m1 : Nat → Nat → Int32} (h : CI ((len, by_), (nr, RS), W, IM, md) m) (h1 : m1 1 1 = nI 0) (e13 : m1 13 2 = nI nr') (hn : nr ≤ nr') (hn6 : nr' ≤ 6) (hR : ∀ r, r < nr' → RuleC m1 (220 + 7 * r) (RS' r)) (eW : ∀ i, 14 ≤ i → i < 197 → m1 i = m i) (eI : ∀ i, 263 ≤ i → i < 996 → m1 i = m i) : CI ((0, by_), (nr', RS'), W, IM, md) m1 := by
  obtain ⟨⟨ct1, ct2, ct3⟩, ⟨cr1, cr2, cr3⟩, ⟨cW, cwf⟩, cm1, cm2⟩ := h
  exact ⟨⟨h1, by omega, fun i hi => by omega⟩, ⟨e13, hn6, hR⟩, ⟨cW.congr (fun i h1 h2 => eW i (by omega) (by omega)), Nat.le_trans cwf hn⟩, by rw [eI _ (by omega) (by omega)]; exact cm1, fun k hk hm => ⟨(cm2 k hk hm).1.congr (fun i h1 h2 => eI i (by omega) (by omega)), Nat.le_trans (cm2 k hk hm).2 hn⟩⟩
set_option maxRecDepth 4000 in
theorem MI.ru {len : Nat} {by_ : Nat → Nat} {nr nr' : Nat} {RS RS' : Nat → RT} {W : WT} {IM : Nat → WT} {md : Nat → Bool} {m m1 : Nat → Nat → Int32} (h : MI ((len, by_), (nr, RS), W, IM, md) m) (e27 : m1 996 27 = nI 0) (e31 : m1 996 31 = nI nr') (hR : ∀ r, r < nr' → RuleM m1 r (RS' r)) (e96 : ∀ k, 35 < k → m1 996 k = m 996 k) (e : ∀ i, (996 < i ∧ i < 1015) ∨ (1033 ≤ i ∧ i < 1041) → m1 i = m i) : MI ((0, by_), (nr', RS'), W, IM, md) m1 := by
  obtain ⟨⟨mt1, mt2⟩, ⟨mr1, mr2⟩, mW, mm1, mm2, mw, ms⟩ := h
  exact ⟨⟨e27, fun i hi => by omega⟩, ⟨e31, hR⟩, mW.congr (nv_congr (e96 _ (by omega)) (fun j k h1 _ => by rw [e _ (by omega)]) (fun i h1 h2 => e i (by omega)) (e _ (by omega))), by rw [e _ (by omega)]; exact mm1, fun k hk hm => (mm2 k hk hm).congr (iv_congr hk (fun k _ => by rw [e _ (by omega)])), (e96 _ (by omega)).trans mw, (e96 _ (by omega)).trans ms⟩
set_option maxRecDepth 4000 in
theorem rb_in : ∀ r, r < 6 → 220 + 7 * r ∈ RB := by decide
set_option maxRecDepth 4000 in
theorem op_rule : OP (F_X11_rule 0) (F_X12_rule 996) := by
  intro m q hI
  obtain ⟨⟨⟨⟨len, by_⟩, ⟨nr, RS⟩, ⟨P, A, H, n, N, nn, fo, x⟩, IM, md⟩, hC, hM⟩, hE⟩ := id hI
  obtain ⟨⟨ct1, ct2, ct3⟩, ⟨cr1, cr2, cr3⟩, ⟨⟨cP, ⟨cA, cAh⟩, cH, ⟨cn1, cn2⟩, ⟨cf1, cf2⟩, ⟨cx1, cx2⟩⟩, cwf⟩, cm1, cm2⟩ := id hC
  obtain ⟨⟨mt1, mt2⟩, ⟨mr1, mr2⟩, ⟨mP, ⟨mA, mAh⟩, ⟨mh1, mh2, mh3⟩, ⟨mn1, mn2⟩, ⟨mf1, mf2⟩, ⟨mx1, mx2⟩⟩, mm1, mm2, mw, ms⟩ := id hM
  have cP5 : m 15 0 = nI (P 0 0) ∧ m 15 1 = nI (P 0 1) ∧ m 15 2 = nI (P 0 2) ∧ m 15 3 = nI (P 0 3) ∧ m 15 4 = nI (P 0 4) := cP.five
  have mP5 : m 997 0 = nI (P 0 0) ∧ m 997 1 = nI (P 0 1) ∧ m 997 2 = nI (P 0 2) ∧ m 997 3 = nI (P 0 3) ∧ m 997 4 = nI (P 0 4) := mP.five
  obtain ⟨B0, B1, B2, B3, B4, B5⟩ := cP.bd
  by_cases c6 : nr < 6
  · have hTC : TC (len, by_) m := ⟨ct1, ct2, ct3⟩
    have hb := rb_in nr c6
    have hbl := rb_lt hb
    obtain ⟨m1, y, a1, a2, a3, ⟨n1, a4⟩, a5⟩ := ruC (q := q) hb hTC
    have hlow1 : ∀ i, 996 ≤ i → m1 i = m i := fun i hi => a2.1 i (by omega) (by omega) (by omega) (by omega)
    have hw := within_TL (j := nr) (lo := 0) (hi := 5) (by omega) (by omega) (by omega) (KS, m, q)
    -- the class
    obtain ⟨m2, hm2, hF2⟩ : ∃ m2, ((y.1 = 0 → m2 = mk_u2 (mk_u2 m1 1 1 (nI 0)) 13 2 (nI (nr + 1))) ∧ (y.1 ≠ 0 → m2 = mk_u2 m1 1 1 (nI 0))) ∧ F_X11_rule 0 (KS, m, q) = some (if y.1 = 0 then nI nr else -nI 2 - nI y.1, (KS, m2, q)) := by
      have hyl : y.1 < 100000 := by
        obtain ⟨fa, rest⟩ := y
        have : Gv (len, by_) (itr (len, by_) n1 x0) := Gv.itr ct2 hTC.b n1 x0 (Gv.x0 _)
        rw [a4] at this
        obtain ⟨z1, z2, z3, z4, z5, z6, z7, z8⟩ := rest
        exact this.1
      by_cases c0 : y.1 = 0
      · refine ⟨_, ⟨fun _ => rfl, fun h => absurd c0 h⟩, ?_⟩
        rw [if_pos c0]
        rw [c0] at a1
        unfold F_X11_rule F_X8_clear
        simp (disch := omega) only [ob_some, reduceIte, lit, le_T, le_F, lt_T, lt_F, eq_T, eq_F, nI_add, gac_0_0, gac_0_1, gac_0_2, gac_0_3, gac_0_4, gac_0_5, gac_0_6, gac_1_0, gic_1_1, gic_1_2, gic_1_3, gic_1_4, gic_1_5, gic_1_6, gac_3_0, gic_3_1, gic_3_2, gic_3_3, gic_3_4, gic_3_5, gic_3_6, gic_3_7, gic_5_0, gic_5_1, gic_5_2, gic_5_3, gic_5_4, gac_5_5, gac_5_6, gac_5_7, gac_5_8, gac_5_9, gac_5_10, gac_5_11, gac_13_0, gac_13_1, gic_13_2, gac_13_3, gac_13_4, gac_13_5, gac_13_6, gac_13_7, gac_13_8, gac_13_9, gic_13_10, gic_13_11, gic_13_12, gic_13_13, gac_14_0, gac_14_1, gac_14_2, gac_14_3, gic_14_4, gic_14_5, gic_15_0, gic_15_1, gic_15_2, gic_15_3, gic_15_4, gac_15_5, gac_15_6, gac_15_7, gac_15_8, gac_15_9, gac_15_10, gac_15_11, gac_23_0, gac_23_1, gac_23_2, gac_23_3, gac_23_4, gac_23_5, gac_23_6, gic_23_7, gic_23_8, gac_31_0, gic_31_1, gic_31_2, gac_193_0, gac_193_1, gac_193_2, gic_193_3, gac_198_0, gac_200_0, gac_200_1, gac_200_2, gac_200_3, gac_200_4, gac_200_5, gac_200_6, gic_200_7, gic_200_8, pic_1_1, pic_1_2, pic_1_3, pic_1_4, pic_1_5, pic_1_6, pic_3_1, pic_3_2, pic_3_3, pic_3_4, pic_3_5, pic_3_6, pic_3_7, pic_5_0, pic_5_1, pic_5_2, pic_5_3, pic_5_4, pic_13_2, pic_13_10, pic_13_11, pic_13_12, pic_13_13, pic_14_4, pic_14_5, pic_15_0, pic_15_1, pic_15_2, pic_15_3, pic_15_4, pic_23_7, pic_23_8, pic_31_1, pic_31_2, pic_193_3, pic_200_7, pic_200_8, gdc_0, gdc_1, gdc_3, gdc_5, gdc_13, gdc_14, gdc_15, gdc_23, gdc_31, gdc_193, gdc_198, gdc_200, ldc_2, stc_2, ldc_4, stc_4, ldc_6, stc_6, ldc_7, stc_7, ldc_8, stc_8, ldc_9, stc_9, ldc_10, stc_10, ldc_11, stc_11, ldc_12, stc_12, ldc_16, stc_16, ldc_17, stc_17, ldc_18, stc_18, ldc_19, stc_19, ldc_20, stc_20, ldc_21, stc_21, ldc_22, stc_22, ldc_24, stc_24, ldc_25, stc_25, ldc_26, stc_26, ldc_27, stc_27, ldc_28, stc_28, ldc_29, stc_29, ldc_30, stc_30, ldc_194, stc_194, ldc_195, stc_195, ldc_196, stc_196, ldc_199, stc_199, ldc_201, stc_201, ldc_202, stc_202, ldc_203, stc_203, ldc_204, stc_204, ldc_205, stc_205, ldc_206, stc_206, ldc_207, stc_207, ldc_208, stc_208, ldc_209, stc_209, ldc_210, stc_210, ldc_211, stc_211, ldc_213, stc_213, ldc_214, stc_214, ldc_215, stc_215, ldc_216, stc_216, ldc_217, stc_217, ldc_218, stc_218, ldc_219, stc_219, ldc_263, stc_263, lda_197, lda_262, lda_212, lda_32, u2_s, u2_a, u2_b, cr1, hw, a1]
      · refine ⟨_, ⟨fun h => absurd h c0, fun _ => rfl⟩, ?_⟩
        rw [if_neg c0]
        unfold F_X11_rule F_X8_clear
        simp (disch := omega) only [ob_some, reduceIte, lit, le_T, le_F, lt_T, lt_F, eq_T, eq_F, nI_add, gac_0_0, gac_0_1, gac_0_2, gac_0_3, gac_0_4, gac_0_5, gac_0_6, gac_1_0, gic_1_1, gic_1_2, gic_1_3, gic_1_4, gic_1_5, gic_1_6, gac_3_0, gic_3_1, gic_3_2, gic_3_3, gic_3_4, gic_3_5, gic_3_6, gic_3_7, gic_5_0, gic_5_1, gic_5_2, gic_5_3, gic_5_4, gac_5_5, gac_5_6, gac_5_7, gac_5_8, gac_5_9, gac_5_10, gac_5_11, gac_13_0, gac_13_1, gic_13_2, gac_13_3, gac_13_4, gac_13_5, gac_13_6, gac_13_7, gac_13_8, gac_13_9, gic_13_10, gic_13_11, gic_13_12, gic_13_13, gac_14_0, gac_14_1, gac_14_2, gac_14_3, gic_14_4, gic_14_5, gic_15_0, gic_15_1, gic_15_2, gic_15_3, gic_15_4, gac_15_5, gac_15_6, gac_15_7, gac_15_8, gac_15_9, gac_15_10, gac_15_11, gac_23_0, gac_23_1, gac_23_2, gac_23_3, gac_23_4, gac_23_5, gac_23_6, gic_23_7, gic_23_8, gac_31_0, gic_31_1, gic_31_2, gac_193_0, gac_193_1, gac_193_2, gic_193_3, gac_198_0, gac_200_0, gac_200_1, gac_200_2, gac_200_3, gac_200_4, gac_200_5, gac_200_6, gic_200_7, gic_200_8, pic_1_1, pic_1_2, pic_1_3, pic_1_4, pic_1_5, pic_1_6, pic_3_1, pic_3_2, pic_3_3, pic_3_4, pic_3_5, pic_3_6, pic_3_7, pic_5_0, pic_5_1, pic_5_2, pic_5_3, pic_5_4, pic_13_2, pic_13_10, pic_13_11, pic_13_12, pic_13_13, pic_14_4, pic_14_5, pic_15_0, pic_15_1, pic_15_2, pic_15_3, pic_15_4, pic_23_7, pic_23_8, pic_31_1, pic_31_2, pic_193_3, pic_200_7, pic_200_8, gdc_0, gdc_1, gdc_3, gdc_5, gdc_13, gdc_14, gdc_15, gdc_23, gdc_31, gdc_193, gdc_198, gdc_200, ldc_2, stc_2, ldc_4, stc_4, ldc_6, stc_6, ldc_7, stc_7, ldc_8, stc_8, ldc_9, stc_9, ldc_10, stc_10, ldc_11, stc_11, ldc_12, stc_12, ldc_16, stc_16, ldc_17, stc_17, ldc_18, stc_18, ldc_19, stc_19, ldc_20, stc_20, ldc_21, stc_21, ldc_22, stc_22, ldc_24, stc_24, ldc_25, stc_25, ldc_26, stc_26, ldc_27, stc_27, ldc_28, stc_28, ldc_29, stc_29, ldc_30, stc_30, ldc_194, stc_194, ldc_195, stc_195, ldc_196, stc_196, ldc_199, stc_199, ldc_201, stc_201, ldc_202, stc_202, ldc_203, stc_203, ldc_204, stc_204, ldc_205, stc_205, ldc_206, stc_206, ldc_207, stc_207, ldc_208, stc_208, ldc_209, stc_209, ldc_210, stc_210, ldc_211, stc_211, ldc_213, stc_213, ldc_214, stc_214, ldc_215, stc_215, ldc_216, stc_216, ldc_217, stc_217, ldc_218, stc_218, ldc_219, stc_219, ldc_263, stc_263, lda_197, lda_262, lda_212, lda_32, u2_s, u2_a, u2_b, cr1, hw, a1]
    have hlow : ∀ i, 996 ≤ i → m2 i = m i := fun i hi => by
      by_cases c0 : y.1 = 0
      · rw [hm2.1 c0, mk_u2_ne (by omega), mk_u2_ne (by omega)]; exact hlow1 i hi
      · rw [hm2.2 c0, mk_u2_ne (by omega)]; exact hlow1 i hi
    have hm2j : ∀ i, i ≠ 1 → i ≠ 13 → m2 i = m1 i := fun i h1 h13 => by
      by_cases c0 : y.1 = 0
      · rw [hm2.1 c0, mk_u2_ne (by omega), mk_u2_ne (by omega)]
      · rw [hm2.2 c0, mk_u2_ne (by omega)]
    -- the reference
    have hTM : TM (len, by_) m2 := ⟨by rw [hlow _ (by omega)]; exact mt1, ct2, fun i hi => ⟨by rw [hlow _ (by omega)]; exact mt2 i hi, (ct3 i hi).2⟩⟩
    have e36 : m2 996 36 = nI 12 := by rw [hlow _ (by omega)]; exact mw
    have e31 : m2 996 31 = nI nr := by rw [hlow _ (by omega)]; exact mr1
    have hMB : MB (len, by_) nr 0 (mk_u2 (mk_u2 (mk_u2 (mk_u2 (mk_u2 (mk_u2 m2 996 30 (nI nr)) 996 28 (nI 0)) 996 29 (nI 0)) 996 32 (nI 0)) 996 33 (nI 0)) 996 34 (nI 0)) 0 [] 0 := ⟨hTM.eq (by simp (disch := omega) only [u2_s, u2_a, u2_b]) (by simp (disch := omega) only [mk_u2_ne]), by simp (disch := omega) only [u2_s, u2_a, u2_b], Nat.zero_le _, by simp (disch := omega) only [u2_s, u2_a, u2_b], by simp (disch := omega) only [u2_s, u2_a, u2_b], by simp (disch := omega) only [u2_s, u2_a, u2_b]; rfl, by simp (disch := omega) only [u2_s, u2_a, u2_b], by simp (disch := omega) only [u2_s, u2_a, u2_b, e36], trivial⟩
    have k33 : mk_u2 (mk_u2 (mk_u2 (mk_u2 (mk_u2 (mk_u2 m2 996 30 (nI nr)) 996 28 (nI 0)) 996 29 (nI 0)) 996 32 (nI 0)) 996 33 (nI 0)) 996 34 (nI 0) 996 33 = nI 0 := by simp (disch := omega) only [u2_s, u2_a, u2_b]
    have hj0 : ∀ j, j ≠ 996 → mk_u2 (mk_u2 (mk_u2 (mk_u2 (mk_u2 (mk_u2 m2 996 30 (nI nr)) 996 28 (nI 0)) 996 29 (nI 0)) 996 32 (nI 0)) 996 33 (nI 0)) 996 34 (nI 0) j = m2 j := fun j hj => by simp (disch := omega) only [mk_u2_ne]
    have hk0 : ∀ k, k = 31 ∨ 35 < k → mk_u2 (mk_u2 (mk_u2 (mk_u2 (mk_u2 (mk_u2 m2 996 30 (nI nr)) 996 28 (nI 0)) 996 29 (nI 0)) 996 32 (nI 0)) 996 33 (nI 0)) 996 34 (nI 0) 996 k = m2 996 k := fun k hk => by simp (disch := omega) only [u2_s, u2_a, u2_b]
    have hF0 : F_X12_rule 996 (KS, m2, q) = B_X12_rule_27 mk_fu 996 (nI 0) (nI 1) (KS, mk_u2 (mk_u2 (mk_u2 (mk_u2 (mk_u2 (mk_u2 m2 996 30 (nI nr)) 996 28 (nI 0)) 996 29 (nI 0)) 996 32 (nI 0)) 996 33 (nI 0)) 996 34 (nI 0), q) := by
      unfold F_X12_rule F_X12_starts
      simp (disch := omega) only [gdm, gam_1, gam_2, gam_3, gam_4, gam_5, gam_6, gam_7, gam_8, gam_9, gam_10, gam_11, gam_12, gam_13, gam_14, gam_15, gam_16, gam_17, gam_18, gam_19, gam_20, gam_21, gam_22, gam_23, gam_24, gam_25, gam_26, gam_37, gam_38, gam_39, gam_40, gam_41, gam_42, gam_43, gam_44, gam_45, gam_46, gam_48, gam_49, gam_56, gam_57, gam_58, gam_59, gam_60, gam_61, gim_27, gim_28, gim_29, gim_30, gim_31, gim_32, gim_33, gim_34, gim_35, gim_36, gim_47, gim_50, gim_51, gim_52, gim_53, gim_54, gim_55, gim_62, gim_63, ob_some, reduceIte, lit, le_T, le_F, lt_T, lt_F, eq_T, eq_F, nI_add, ldm_997, stm_997, ldm_998, stm_998, ldm_999, stm_999, ldm_1000, stm_1000, ldm_1001, stm_1001, ldm_1002, stm_1002, ldm_1003, stm_1003, ldm_1004, stm_1004, ldm_1005, stm_1005, ldm_1006, stm_1006, ldm_1007, stm_1007, ldm_1008, stm_1008, ldm_1009, stm_1009, ldm_1010, stm_1010, ldm_1011, stm_1011, ldm_1012, stm_1012, ldm_1013, stm_1013, ldm_1014, stm_1014, ldm_1015, stm_1015, ldm_1016, stm_1016, ldm_1017, stm_1017, ldm_1018, stm_1018, ldm_1019, stm_1019, ldm_1020, stm_1020, ldm_1021, stm_1021, ldm_1022, stm_1022, u2_s, u2_a, u2_b, not_true, not_false_iff, pim_27, pim_28, pim_29, pim_30, pim_31, pim_32, pim_33, pim_34, pim_35, pim_36, pim_47, pim_50, pim_51, pim_52, pim_53, pim_54, pim_55, pim_62, pim_63, e31]
    generalize mk_u2 (mk_u2 (mk_u2 (mk_u2 (mk_u2 (mk_u2 m2 996 30 (nI nr)) 996 28 (nI 0)) 996 29 (nI 0)) 996 32 (nI 0)) 996 33 (nI 0)) 996 34 (nI 0) = mi at *
    obtain ⟨m3, k, y', g, z1, z2, ⟨n2, z3⟩, z4⟩ := ruL (q := q) c6 12 mk_fu mi x0 [] rfl (by rw [mk_fu_eq]; omega) ⟨0, 0, 0, 0, rfl, hMB, rfl, k33, trivial, fun c hc => by simp at hc, Gv.x0 _⟩
    have z1 : B_X12_rule_27 mk_fu 996 (nI 0) (nI 1) (KS, mi, q) = B_X12_rule_27 (g + 1) 996 (nI k) (nI 0) (KS, m3, q) := z1
    have hy' : y'.1 ≠ 0 ∨ y'.2.2.1 = 4 := by
      rcases z4 with ⟨fl, w1, w2, w3, w4⟩ | ⟨a, pt, it, cl', w1, w2⟩
      · rw [w1]; exact .inl w3
      · rw [w1]; exact .inr rfl
    have hyy : y = y' := itr_one a4 z3 (rst_term a5) (rst_term hy')
    subst hyy
    have h3j : ∀ i, i ≠ 996 → i < 1024 ∨ i = 1026 ∨ 1030 < i → m3 i = m2 i := fun i h1 h2 => (z2.1 i h1 h2).trans (hj0 i h1)
    have h3k : ∀ k, k = 31 ∨ 35 < k → m3 996 k = m2 996 k := fun k hk => (z2.2.1 k (by omega)).trans (hk0 k hk)
    have e31b : m3 996 31 = nI nr := (h3k 31 (by omega)).trans e31
    have e30b : m3 996 30 = nI nr := (z2.2.1 30 (by omega)).trans hMB.2.2.2.2.1
    rcases z4 with ⟨fl, w1, w2, w3, w4⟩ | ⟨a, pt, it, cl', w1, w2, w3, w4, w5, w6⟩
    · have hfl : y.1 = fl := by rw [w1]; rfl
      have c0 : y.1 ≠ 0 := by rw [hfl]; exact w3
      rw [if_neg c0, hfl] at hF2
      have hm2' := hm2.2 c0
      have hlow3 : ∀ i, 1041 ≤ i → mk_u2 (mk_u2 (mk_u2 m3 996 27 (nI 0)) 1026 nr (nI k)) 996 31 (nI (nr + 0)) i = m i := fun i hi => by rw [mk_u2_ne (by omega), mk_u2_ne (by omega), mk_u2_ne (by omega), h3j i (by omega) (by omega), hlow i (by omega)]
      refine ⟨-nI 2 - nI fl, m2, q, mk_u2 (mk_u2 (mk_u2 m3 996 27 (nI 0)) 1026 nr (nI k)) 996 31 (nI (nr + 0)), q, hF2, ?_, ⟨⟨((0, by_), (nr, RS), (P, A, H, n, N, nn, fo, x), IM, md), ?_, ?_⟩, hE.up hlow3⟩, hlow3⟩
      · have w2b : mk_u2 (mk_u2 (mk_u2 m3 996 27 (nI 0)) 1026 nr (nI k)) 996 31 (nI (nr + 0)) 996 29 = nI fl := by simp (disch := omega) only [u2_s, u2_a, u2_b, w2]
        rw [hF0, z1, B_X12_rule_27]
        unfold B_X12_rule_79
        simp (disch := omega) only [gdm, gam_1, gam_2, gam_3, gam_4, gam_5, gam_6, gam_7, gam_8, gam_9, gam_10, gam_11, gam_12, gam_13, gam_14, gam_15, gam_16, gam_17, gam_18, gam_19, gam_20, gam_21, gam_22, gam_23, gam_24, gam_25, gam_26, gam_37, gam_38, gam_39, gam_40, gam_41, gam_42, gam_43, gam_44, gam_45, gam_46, gam_48, gam_49, gam_56, gam_57, gam_58, gam_59, gam_60, gam_61, gim_27, gim_28, gim_29, gim_30, gim_31, gim_32, gim_33, gim_34, gim_35, gim_36, gim_47, gim_50, gim_51, gim_52, gim_53, gim_54, gim_55, gim_62, gim_63, ob_some, reduceIte, lit, le_T, le_F, lt_T, lt_F, eq_T, eq_F, nI_add, ldm_997, stm_997, ldm_998, stm_998, ldm_999, stm_999, ldm_1000, stm_1000, ldm_1001, stm_1001, ldm_1002, stm_1002, ldm_1003, stm_1003, ldm_1004, stm_1004, ldm_1005, stm_1005, ldm_1006, stm_1006, ldm_1007, stm_1007, ldm_1008, stm_1008, ldm_1009, stm_1009, ldm_1010, stm_1010, ldm_1011, stm_1011, ldm_1012, stm_1012, ldm_1013, stm_1013, ldm_1014, stm_1014, ldm_1015, stm_1015, ldm_1016, stm_1016, ldm_1017, stm_1017, ldm_1018, stm_1018, ldm_1019, stm_1019, ldm_1020, stm_1020, ldm_1021, stm_1021, ldm_1022, stm_1022, u2_s, u2_a, u2_b, not_true, not_false_iff, ldm_1023, stm_1023, ldm_1024, stm_1024, ldm_1025, stm_1025, ldm_1026, stm_1026, ldm_1027, stm_1027, ldm_1028, stm_1028, ldm_1029, stm_1029, ldm_1030, stm_1030, ldm_1031, stm_1031, ldm_1032, stm_1032, ldm_1033, stm_1033, ldm_1034, stm_1034, ldm_1035, stm_1035, ldm_1036, stm_1036, ldm_1037, stm_1037, ldm_1038, stm_1038, ldm_1039, stm_1039, ldm_1040, stm_1040, pim_27, pim_28, pim_29, pim_30, pim_31, pim_32, pim_33, pim_34, pim_35, pim_36, pim_47, pim_50, pim_51, pim_52, pim_53, pim_54, pim_55, pim_62, pim_63, e30b, e31b, w2]
      · refine CI.same (m := m2) (CI.ru (m := m) hC (by rw [hm2', u2_s]) (by rw [hm2', u2_a (by omega), a2.1 13 (by omega) (by omega) (by omega) (by omega)]; exact cr1) (Nat.le_refl _) (by omega) (fun r hr => (cr3 r hr).congr (fun i h1 h2 => ?_)) (fun i h1 h2 => ?_) (fun i h1 h2 => ?_)) (fun i hi => ?_)
        · rw [hm2j i (by omega) (by omega), a2.1 i (by omega) (by omega) (by omega) (by omega)]
        · rw [hm2j i (by omega) (by omega), a2.1 i (by omega) (by omega) (by omega) (by omega)]
        · rw [hm2j i (by omega) (by omega), a2.1 i (by omega) (by omega) (by omega) (by omega)]
        · rw [mk_u2_ne (by omega), mk_u2_ne (by omega), mk_u2_ne (by omega), h3j i (by omega) (by omega)]
      · refine MI.ru (m := m) hM (by simp (disch := omega) only [u2_s, u2_a, u2_b]) (by rw [u2_s]; rfl) (fun r hr => RuleM.low (n := nr) hr (fun k hk => ?_) (fun k hk => ?_) (fun k hk => ?_) (mr2 r hr)) (fun k hk => ?_) (fun i hi => ?_)
        · simp (disch := omega) only [u2_s, u2_a, u2_b]
          rw [(z2.2.2.1 k hk).1, (z2.2.2.1 k hk).2, hj0 1024 (by omega), hj0 1025 (by omega), hlow 1024 (by omega), hlow 1025 (by omega)]
          exact ⟨rfl, rfl⟩
        · simp (disch := omega) only [u2_s, u2_a, u2_b]
          obtain ⟨t1, t2, t3⟩ := z2.2.2.2 k hk
          rw [t1, t2, t3, hj0 1027 (by omega), hj0 1028 (by omega), hj0 1029 (by omega), hlow 1027 (by omega), hlow 1028 (by omega), hlow 1029 (by omega)]
          exact ⟨rfl, rfl, rfl⟩
        · rw [u2_a (by omega), u2_b (by omega), u2_a (by omega), h3j 1026 (by omega) (by omega), hlow 1026 (by omega)]
        · simp (disch := omega) only [u2_s, u2_a, u2_b]
          rw [h3k k (by omega), hlow 996 (by omega)]
        · rw [mk_u2_ne (by omega), mk_u2_ne (by omega), mk_u2_ne (by omega), h3j i (by omega) (by omega), hlow i (by omega)]
    · subst w1
      have hF2 : F_X11_rule 0 (KS, m, q) = some (nI nr, (KS, m2, q)) := hF2
      have hm2' := hm2.1 rfl
      obtain ⟨-, -, hr3⟩ := a3
      obtain ⟨r2, r4, r5, r1, rd, ri, rn, rc, rP, -⟩ := hr3 rfl
      obtain ⟨g1, g2, g3, g4, g5, -⟩ := w6.2 rfl
      simp only [List.length_nil, nb] at g2 g3
      have hl260 : lenR cl' ≤ 260 := by
        have : (len, by_).1 = len := rfl
        rw [if_neg (by omega)] at g3
        omega
      have hlow3 : ∀ i, 1041 ≤ i → mk_u2 (mk_u2 (mk_u2 m3 996 27 (nI 0)) 1026 nr (nI k)) 996 31 (nI (nr + 1)) i = m i := fun i hi => by rw [mk_u2_ne (by omega), mk_u2_ne (by omega), mk_u2_ne (by omega), h3j i (by omega) (by omega), hlow i (by omega)]
      refine ⟨nI nr, m2, q, mk_u2 (mk_u2 (mk_u2 m3 996 27 (nI 0)) 1026 nr (nI k)) 996 31 (nI (nr + 1)), q, hF2, ?_, ⟨⟨((0, by_), (nr + 1, fun i => if i = nr then cl' else RS i), (P, A, H, n, N, nn, fo, x), IM, md), ?_, ?_⟩, hE.up hlow3⟩, hlow3⟩
      · have hs1 : nI (nr + 1) - nI 1 = nI nr := pk_sub (by omega)
        rw [hF0, z1, B_X12_rule_27]
        unfold B_X12_rule_79
        simp (disch := omega) only [gdm, gam_1, gam_2, gam_3, gam_4, gam_5, gam_6, gam_7, gam_8, gam_9, gam_10, gam_11, gam_12, gam_13, gam_14, gam_15, gam_16, gam_17, gam_18, gam_19, gam_20, gam_21, gam_22, gam_23, gam_24, gam_25, gam_26, gam_37, gam_38, gam_39, gam_40, gam_41, gam_42, gam_43, gam_44, gam_45, gam_46, gam_48, gam_49, gam_56, gam_57, gam_58, gam_59, gam_60, gam_61, gim_27, gim_28, gim_29, gim_30, gim_31, gim_32, gim_33, gim_34, gim_35, gim_36, gim_47, gim_50, gim_51, gim_52, gim_53, gim_54, gim_55, gim_62, gim_63, ob_some, reduceIte, lit, le_T, le_F, lt_T, lt_F, eq_T, eq_F, nI_add, ldm_997, stm_997, ldm_998, stm_998, ldm_999, stm_999, ldm_1000, stm_1000, ldm_1001, stm_1001, ldm_1002, stm_1002, ldm_1003, stm_1003, ldm_1004, stm_1004, ldm_1005, stm_1005, ldm_1006, stm_1006, ldm_1007, stm_1007, ldm_1008, stm_1008, ldm_1009, stm_1009, ldm_1010, stm_1010, ldm_1011, stm_1011, ldm_1012, stm_1012, ldm_1013, stm_1013, ldm_1014, stm_1014, ldm_1015, stm_1015, ldm_1016, stm_1016, ldm_1017, stm_1017, ldm_1018, stm_1018, ldm_1019, stm_1019, ldm_1020, stm_1020, ldm_1021, stm_1021, ldm_1022, stm_1022, u2_s, u2_a, u2_b, not_true, not_false_iff, ldm_1023, stm_1023, ldm_1024, stm_1024, ldm_1025, stm_1025, ldm_1026, stm_1026, ldm_1027, stm_1027, ldm_1028, stm_1028, ldm_1029, stm_1029, ldm_1030, stm_1030, ldm_1031, stm_1031, ldm_1032, stm_1032, ldm_1033, stm_1033, ldm_1034, stm_1034, ldm_1035, stm_1035, ldm_1036, stm_1036, ldm_1037, stm_1037, ldm_1038, stm_1038, ldm_1039, stm_1039, ldm_1040, stm_1040, pim_27, pim_28, pim_29, pim_30, pim_31, pim_32, pim_33, pim_34, pim_35, pim_36, pim_47, pim_50, pim_51, pim_52, pim_53, pim_54, pim_55, pim_62, pim_63, e30b, e31b, w3, hs1]
      · refine CI.same (m := m2) (CI.ru (m := m) hC (by rw [hm2', u2_a (by omega), u2_s]) (by rw [hm2', u2_s]) (by omega) (by omega) (fun r hr => ?_) (fun i h1 h2 => ?_) (fun i h1 h2 => ?_)) (fun i hi => ?_)
        · show RuleC m2 (220 + 7 * r) (if r = nr then cl' else RS r)
          by_cases e : r = nr
          · subst e
            rw [if_pos rfl]
            refine RuleC.congr (m := m1) ⟨g5, rc, rP.cl w5 (by omega)⟩ (fun i h1 h2 => hm2j i (by omega) (by omega))
          · rw [if_neg e]
            refine (cr3 r (by omega)).congr (fun i h1 h2 => ?_)
            rw [hm2j i (by omega) (by omega), a2.1 i (by omega) (by omega) (by omega) (by omega)]
        · rw [hm2j i (by omega) (by omega), a2.1 i (by omega) (by omega) (by omega) (by omega)]
        · rw [hm2j i (by omega) (by omega), a2.1 i (by omega) (by omega) (by omega) (by omega)]
        · rw [mk_u2_ne (by omega), mk_u2_ne (by omega), mk_u2_ne (by omega), h3j i (by omega) (by omega)]
      · refine MI.ru (m := m) hM (by simp (disch := omega) only [u2_s, u2_a, u2_b]) u2_s (fun r hr => ?_) (fun k hk => ?_) (fun i hi => ?_)
        · show RuleM _ r (if r = nr then cl' else RS r)
          by_cases e : r = nr
          · subst e
            rw [if_pos rfl]
            refine ⟨g5, by rw [u2_a (by omega), u2_s, w2], (ClQ.cl (m := m3) w4 w5 (by omega)).congr' (fun i h1 h2 h3 => ?_)⟩
            rw [mk_u2_ne (by omega), mk_u2_ne (by omega), mk_u2_ne (by omega)]
          · rw [if_neg e]
            refine RuleM.low (n := nr) (by omega) (fun k hk => ?_) (fun k hk => ?_) (fun k hk => ?_) (mr2 r (by omega))
            · simp (disch := omega) only [u2_s, u2_a, u2_b]
              rw [(z2.2.2.1 k hk).1, (z2.2.2.1 k hk).2, hj0 1024 (by omega), hj0 1025 (by omega), hlow 1024 (by omega), hlow 1025 (by omega)]
              exact ⟨rfl, rfl⟩
            · simp (disch := omega) only [u2_s, u2_a, u2_b]
              obtain ⟨t1, t2, t3⟩ := z2.2.2.2 k hk
              rw [t1, t2, t3, hj0 1027 (by omega), hj0 1028 (by omega), hj0 1029 (by omega), hlow 1027 (by omega), hlow 1028 (by omega), hlow 1029 (by omega)]
              exact ⟨rfl, rfl, rfl⟩
            · rw [u2_a (by omega), u2_b (by omega), u2_a (by omega), h3j 1026 (by omega) (by omega), hlow 1026 (by omega)]
        · simp (disch := omega) only [u2_s, u2_a, u2_b]
          rw [h3k k (by omega), hlow 996 (by omega)]
        · rw [mk_u2_ne (by omega), mk_u2_ne (by omega), mk_u2_ne (by omega), h3j i (by omega) (by omega), hlow i (by omega)]
  · have hnr : nr = 6 := by omega
    subst hnr
    have hw := within_F (j := 6) (lo := 0) (hi := 5) (by omega) (by omega) (by omega) (by omega) (KS, m, q)
    refine ⟨-nI 1, m, q, m, q, ?_, ?_, hI, fun _ _ => rfl⟩
    · unfold F_X11_rule
      simp (disch := omega) only [ob_some, reduceIte, lit, le_T, le_F, lt_T, lt_F, eq_T, eq_F, nI_add, gac_0_0, gac_0_1, gac_0_2, gac_0_3, gac_0_4, gac_0_5, gac_0_6, gac_1_0, gic_1_1, gic_1_2, gic_1_3, gic_1_4, gic_1_5, gic_1_6, gac_3_0, gic_3_1, gic_3_2, gic_3_3, gic_3_4, gic_3_5, gic_3_6, gic_3_7, gic_5_0, gic_5_1, gic_5_2, gic_5_3, gic_5_4, gac_5_5, gac_5_6, gac_5_7, gac_5_8, gac_5_9, gac_5_10, gac_5_11, gac_13_0, gac_13_1, gic_13_2, gac_13_3, gac_13_4, gac_13_5, gac_13_6, gac_13_7, gac_13_8, gac_13_9, gic_13_10, gic_13_11, gic_13_12, gic_13_13, gac_14_0, gac_14_1, gac_14_2, gac_14_3, gic_14_4, gic_14_5, gic_15_0, gic_15_1, gic_15_2, gic_15_3, gic_15_4, gac_15_5, gac_15_6, gac_15_7, gac_15_8, gac_15_9, gac_15_10, gac_15_11, gac_23_0, gac_23_1, gac_23_2, gac_23_3, gac_23_4, gac_23_5, gac_23_6, gic_23_7, gic_23_8, gac_31_0, gic_31_1, gic_31_2, gac_193_0, gac_193_1, gac_193_2, gic_193_3, gac_198_0, gac_200_0, gac_200_1, gac_200_2, gac_200_3, gac_200_4, gac_200_5, gac_200_6, gic_200_7, gic_200_8, pic_1_1, pic_1_2, pic_1_3, pic_1_4, pic_1_5, pic_1_6, pic_3_1, pic_3_2, pic_3_3, pic_3_4, pic_3_5, pic_3_6, pic_3_7, pic_5_0, pic_5_1, pic_5_2, pic_5_3, pic_5_4, pic_13_2, pic_13_10, pic_13_11, pic_13_12, pic_13_13, pic_14_4, pic_14_5, pic_15_0, pic_15_1, pic_15_2, pic_15_3, pic_15_4, pic_23_7, pic_23_8, pic_31_1, pic_31_2, pic_193_3, pic_200_7, pic_200_8, gdc_0, gdc_1, gdc_3, gdc_5, gdc_13, gdc_14, gdc_15, gdc_23, gdc_31, gdc_193, gdc_198, gdc_200, ldc_2, stc_2, ldc_4, stc_4, ldc_6, stc_6, ldc_7, stc_7, ldc_8, stc_8, ldc_9, stc_9, ldc_10, stc_10, ldc_11, stc_11, ldc_12, stc_12, ldc_16, stc_16, ldc_17, stc_17, ldc_18, stc_18, ldc_19, stc_19, ldc_20, stc_20, ldc_21, stc_21, ldc_22, stc_22, ldc_24, stc_24, ldc_25, stc_25, ldc_26, stc_26, ldc_27, stc_27, ldc_28, stc_28, ldc_29, stc_29, ldc_30, stc_30, ldc_194, stc_194, ldc_195, stc_195, ldc_196, stc_196, ldc_199, stc_199, ldc_201, stc_201, ldc_202, stc_202, ldc_203, stc_203, ldc_204, stc_204, ldc_205, stc_205, ldc_206, stc_206, ldc_207, stc_207, ldc_208, stc_208, ldc_209, stc_209, ldc_210, stc_210, ldc_211, stc_211, ldc_213, stc_213, ldc_214, stc_214, ldc_215, stc_215, ldc_216, stc_216, ldc_217, stc_217, ldc_218, stc_218, ldc_219, stc_219, ldc_263, stc_263, lda_197, lda_262, lda_212, lda_32, u2_s, u2_a, u2_b, cr1, hw]
    · unfold F_X12_rule
      simp (disch := omega) only [gdm, gam_1, gam_2, gam_3, gam_4, gam_5, gam_6, gam_7, gam_8, gam_9, gam_10, gam_11, gam_12, gam_13, gam_14, gam_15, gam_16, gam_17, gam_18, gam_19, gam_20, gam_21, gam_22, gam_23, gam_24, gam_25, gam_26, gam_37, gam_38, gam_39, gam_40, gam_41, gam_42, gam_43, gam_44, gam_45, gam_46, gam_48, gam_49, gam_56, gam_57, gam_58, gam_59, gam_60, gam_61, gim_27, gim_28, gim_29, gim_30, gim_31, gim_32, gim_33, gim_34, gim_35, gim_36, gim_47, gim_50, gim_51, gim_52, gim_53, gim_54, gim_55, gim_62, gim_63, ob_some, reduceIte, lit, le_T, le_F, lt_T, lt_F, eq_T, eq_F, nI_add, ldm_997, stm_997, ldm_998, stm_998, ldm_999, stm_999, ldm_1000, stm_1000, ldm_1001, stm_1001, ldm_1002, stm_1002, ldm_1003, stm_1003, ldm_1004, stm_1004, ldm_1005, stm_1005, ldm_1006, stm_1006, ldm_1007, stm_1007, ldm_1008, stm_1008, ldm_1009, stm_1009, ldm_1010, stm_1010, ldm_1011, stm_1011, ldm_1012, stm_1012, ldm_1013, stm_1013, ldm_1014, stm_1014, ldm_1015, stm_1015, ldm_1016, stm_1016, ldm_1017, stm_1017, ldm_1018, stm_1018, ldm_1019, stm_1019, ldm_1020, stm_1020, ldm_1021, stm_1021, ldm_1022, stm_1022, u2_s, u2_a, u2_b, not_true, not_false_iff, mr1]
