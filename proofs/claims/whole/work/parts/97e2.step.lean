set_option maxRecDepth 4000 in
/-- a step -/
theorem stC {T : TT} {b : Nat} {x : RG} {m : Nat → Nat → Int32} {q : Nat → Nat → Int64} (hb : b ∈ RB) (h : CR T b m x) (hg : Gv T x) (h0 : x.1 = 0) (h4 : x.2.2.1 ≠ 4) : ∃ m1 m2, F_X8_advance 1 (KS, m, q) = some ((), (KS, m1, q)) ∧ F_X6_readOn 3 1 b (KS, m1, q) = some ((), (KS, m2, q)) ∧ FrC b m m2 ∧ CR T b m2 (rst T x) := by
  have hbl := rb_lt hb
  obtain ⟨fa, a, nx, pt, st, it, cl, c1, cd⟩ := x
  have h0 : fa = 0 := h0
  have h4 : nx ≠ 4 := h4
  subst h0
  obtain ⟨g1, g2, g3, g4, g5, g6, g7, g8, g9, g10, g11⟩ := hg.2 rfl
  have hT := h.1
  have hl := hT.2.1
  have r2 := (h.2.2 rfl).1
  obtain ⟨m1, a1, a2, a3, a4, a5, a6⟩ := advC (q := q) hT r2 g1 rfl
  have hs := sp_le (P := isB) (T := T) hB g1
  have hs2 := sp_ge (P := isB) (T := T) hB a
  have hbs := hT.b (sp isB T a)
  have hh : CR T b m1 (0, end1 T (sp isB T a), nx, pt, st, it, cl, c1, cd) := h.eq1 a2.2.1 a2.2.2 a3 a2.1 (by omega)
  have fr : FrC b m m1 := FrC.rf.tg a2.g
  have hr4 : m1 3 4 = nI nx := (hh.2.2 rfl).2.1
  have hk : TK T m1 (sp isB T a) := ⟨a4, a5, a6⟩
  have R0 : nx = 0 → rst T (0, a, nx, pt, st, it, cl, c1, cd) = sC T (sp isB T a) st it cl := fun h => by subst h; rfl
  have R1 : nx = 1 → rst T (0, a, nx, pt, st, it, cl, c1, cd) = sV T (sp isB T a) pt st it cl c1 cd := fun h => by subst h; rfl
  have R2 : nx = 2 → rst T (0, a, nx, pt, st, it, cl, c1, cd) = sF T (sp isB T a) pt st it cl c1 cd := fun h => by subst h; rfl
  have R3 : nx = 3 → rst T (0, a, nx, pt, st, it, cl, c1, cd) = sB T (sp isB T a) pt st it cl c1 cd := fun h => by subst h; rfl
  generalize sp isB T a = s at *
  have hsg := sg_lt (T := T) (s := s) hbs
  obtain ⟨e1, e2, e3⟩ := end1_le hs
  have hlt : sgn1 T s ≠ 1000 → lenR cl + c1.length + cd.length + st.length < 400 := fun hz => by
    have := e3 (fun h2 => hz ((sg_b (T := T) (s := s) (c := 1000) hbs (by omega) rfl rfl (by omega) (by omega)).mpr h2))
    omega
  have hnum : sgn1 T s = 256 → end1 T s - s ≤ 5 → nval T s (end1 T s - s) < 100000 := fun z1 z2 => by
    rw [sg_num z1 hbs] at z2 ⊢
    exact nval_cap z2 hs
  rcases (show nx = 0 ∨ nx = 1 ∨ nx = 2 ∨ nx = 3 by omega) with z | z | z | z <;> subst z
  · rw [R0 rfl]
    obtain ⟨q1, q2, q3⟩ := g10 (.inl rfl)
    subst q1 q2 q3
    obtain ⟨m2, b1, b2, b3⟩ := clC (q := q) hb hh hk rfl hsg (by omega) g5
    refine ⟨m1, m2, a1, ?_, fr.trans b2, b3⟩
    unfold F_X6_readOn
    simp (disch := omega) only [gdc_3, gic_3_4, ob_some, hr4, lit, eq_T, reduceIte, b1]
  · rw [R1 rfl]
    obtain ⟨m2, b1, b2, b3⟩ := rvC (q := q) hb hh hk rfl hsg (by omega) lv1 g4 (fun z => by have := hlt z; omega) (by omega) hnum
    refine ⟨m1, m2, a1, ?_, fr.trans b2, b3⟩
    unfold F_X6_readOn
    simp (disch := omega) only [gdc_3, gic_3_4, ob_some, hr4, lit, eq_T, eq_F, reduceIte, b1]
  · rw [R2 rfl]
    obtain ⟨m2, b1, b2, b3⟩ := faC (q := q) hb hh hk rfl hsg (by omega) g4 hlt (by omega) hnum
    refine ⟨m1, m2, a1, ?_, fr.trans b2, b3⟩
    unfold F_X6_readOn
    simp (disch := omega) only [gdc_3, gic_3_4, ob_some, hr4, lit, eq_T, eq_F, reduceIte, b1]
  · rw [R3 rfl]
    obtain ⟨m2, b1, b2, b3⟩ := beC (q := q) hb hh hk rfl hsg (by omega) g4 hlt (by omega) g7 (g6 (by omega)) g9 (fun e => g11 ⟨.inr rfl, e⟩)
    refine ⟨m1, m2, a1, ?_, fr.trans b2, b3⟩
    unfold F_X6_readOn
    simp (disch := omega) only [gdc_3, gic_3_4, ob_some, hr4, lit, eq_F, reduceIte, b1]
