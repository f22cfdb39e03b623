/-! PLATEAUS told: clauses -/
def rPl (T : TT) (e : Nat) (D : Nat → Nat → Nat) : Nat × Nat × (Nat → Nat → Nat) :=
  ((amt T 1 9 ((amt T 2 6 (0, e)).1, (amt T 2 6 (0, e)).2.1)).1, (amt T 1 9 ((amt T 2 6 (0, e)).1, (amt T 2 6 (0, e)).2.1)).2.1, upA (upA D 0 0 (amt T 2 6 (0, e)).2.2) 0 1 (amt T 1 9 ((amt T 2 6 (0, e)).1, (amt T 2 6 (0, e)).2.1)).2.2)
def rPe (T : TT) (e : Nat) (D : Nat → Nat → Nat) : Nat × Nat × (Nat → Nat → Nat) :=
  let x := amt T 0 (D 0 0 * D 0 0 - 1) (0, e)
  let y := amt T 0 20 (x.1, x.2.1)
  let z := amt T 0 3 (y.1, y.2.1)
  (z.1, z.2.1, upA (upA (upA (upA D 1 (D 0 2) x.2.2) 2 (D 0 2) y.2.2) 3 (D 0 2) z.2.2) 0 2 (D 0 2 + 1))
def rMi (T : TT) (e : Nat) (D : Nat → Nat → Nat) : Nat × Nat × (Nat → Nat → Nat) :=
  let x := amt T 0 (D 0 0 * D 0 0 - 1) (0, e)
  let y := amt T 1 20 (x.1, x.2.1)
  (y.1, y.2.1, upA (upA (upA D 4 (D 0 3) x.2.2) 5 (D 0 3) y.2.2) 0 3 (D 0 3 + 1))
def rRo (T : TT) (e : Nat) (D : Nat → Nat → Nat) : Nat × Nat × (Nat → Nat → Nat) :=
  let x := amt T 0 (D 0 0 * D 0 0 - 1) (0, e)
  let y := amt T 0 40 (x.1, x.2.1)
  (y.1, y.2.1, upA (upA (upA D 6 (D 0 4) x.2.2) 7 (D 0 4) y.2.2) 0 4 (D 0 4 + 1))
def clz (T : TT) (n a : Nat) (D : Nat → Nat → Nat) : Nat × Nat × (Nat → Nat → Nat) :=
  if wix T (sp isB T a) = 17 then (if n = 0 then rPl T (sp isB T a + 7) D else (1 + 8 * sp isB T a + 4, a, D))
  else if wix T (sp isB T a) = 0 then (if n ≠ 0 ∧ n < 40 ∧ D 0 2 < 6 then rPe T (sp isB T a + 6) D else (1 + 8 * sp isB T a + 4, a, D))
  else if wix T (sp isB T a) = 18 then (if n ≠ 0 ∧ n < 40 ∧ D 0 3 < 4 then rMi T (sp isB T a + 4) D else (1 + 8 * sp isB T a + 4, a, D))
  else if wix T (sp isB T a) = 19 then (if n ≠ 0 ∧ n < 40 ∧ D 0 4 < 4 then rRo T (sp isB T a + 4) D else (1 + 8 * sp isB T a + 4, a, D))
  else (1 + 8 * sp isB T a + 0, a, D)
/-- none told yet, or one -/
def Zd (pl : Nat → Nat → Int32) (D : Nat → Nat → Nat) : Prop := (D 0 2 = 0 ∧ D 0 3 = 0 ∧ D 0 4 = 0) ∧ pl 0 2 = nI 0 ∧ pl 0 3 = nI 0 ∧ pl 0 4 = nI 0
def GP (n : Nat) (pl : Nat → Nat → Int32) (D : Nat → Nat → Nat) : Prop := (n = 0 ∧ Zd pl D) ∨ (0 < n ∧ PR pl D)
set_option maxRecDepth 4000 in
theorem PR.begin {pl pl1 : Nat → Nat → Int32} {D : Nat → Nat → Nat} {v1 v2 : Nat} (h : Zd pl D) (h1 : 2 ≤ v1) (h2 : v1 ≤ 6) (h3 : 1 ≤ v2) (h4 : v2 ≤ 9) (e0 : pl1 0 0 = nI v1) (e1 : pl1 0 1 = nI v2) (e2 : pl1 0 2 = pl 0 2) (e3 : pl1 0 3 = pl 0 3) (e4 : pl1 0 4 = pl 0 4) : PR pl1 (upA (upA D 0 0 v1) 0 1 v2) := by
  obtain ⟨⟨z2, z3, z4⟩, y2, y3, y4⟩ := h
  have d0 : upA (upA D 0 0 v1) 0 1 v2 0 0 = v1 := by rw [up_k (by omega), up_s]
  have d1 : upA (upA D 0 0 v1) 0 1 v2 0 1 = v2 := up_s
  have d2 : upA (upA D 0 0 v1) 0 1 v2 0 2 = 0 := by rw [up_k (by omega), up_k (by omega)]; exact z2
  have d3 : upA (upA D 0 0 v1) 0 1 v2 0 3 = 0 := by rw [up_k (by omega), up_k (by omega)]; exact z3
  have d4 : upA (upA D 0 0 v1) 0 1 v2 0 4 = 0 := by rw [up_k (by omega), up_k (by omega)]; exact z4
  unfold PR
  rw [d0, d1, d2, d3, d4]
  exact ⟨⟨e0, e1, e2.trans y2, e3.trans y3, e4.trans y4⟩, by omega, fun p hp => by omega, fun p hp => by omega, fun p hp => by omega⟩
set_option maxRecDepth 4000 in
theorem PR.person {pl pl1 : Nat → Nat → Int32} {D : Nat → Nat → Nat} {v1 v2 v3 : Nat} (h : PR pl D) (hp : D 0 2 < 6) (h1 : v1 < D 0 0 * D 0 0) (h2 : v2 ≤ 20) (h3 : v3 < 4) (e0 : ∀ k, pl1 0 k = if k = 2 then nI (D 0 2 + 1) else pl 0 k) (e1 : ∀ k, pl1 1 k = if k = D 0 2 then nI v1 else pl 1 k) (e2 : ∀ k, pl1 2 k = if k = D 0 2 then nI v2 else pl 2 k) (e3 : ∀ k, pl1 3 k = if k = D 0 2 then nI v3 else pl 3 k) (e4 : ∀ j k, 4 ≤ j → j ≤ 7 → pl1 j k = pl j k) : PR pl1 (upA (upA (upA (upA D 1 (D 0 2) v1) 2 (D 0 2) v2) 3 (D 0 2) v3) 0 2 (D 0 2 + 1)) := by
  obtain ⟨⟨a0, a1, a2, a3, a4⟩, hb, q1, q2, q3⟩ := h
  have d : ∀ k, k ≠ 2 → upA (upA (upA (upA D 1 (D 0 2) v1) 2 (D 0 2) v2) 3 (D 0 2) v3) 0 2 (D 0 2 + 1) 0 k = D 0 k := fun k hk => by
    rw [up_k (by omega), up_j (by omega), up_j (by omega), up_j (by omega)]
  have dj : ∀ j k, 4 ≤ j → upA (upA (upA (upA D 1 (D 0 2) v1) 2 (D 0 2) v2) 3 (D 0 2) v3) 0 2 (D 0 2 + 1) j k = D j k := fun j k hj => by
    rw [up_j (by omega), up_j (by omega), up_j (by omega), up_j (by omega)]
  unfold PR
  rw [d 0 (by omega), d 1 (by omega), d 3 (by omega), d 4 (by omega), up_s]
  refine ⟨⟨by rw [e0, if_neg (by omega)]; exact a0, by rw [e0, if_neg (by omega)]; exact a1, by rw [e0, if_pos rfl], by rw [e0, if_neg (by omega)]; exact a3, by rw [e0, if_neg (by omega)]; exact a4⟩, by omega, fun p hp => ?_, fun k hk => ?_, fun k hk => ?_⟩
  · by_cases c : p = D 0 2
    · subst c
      rw [up_j (by omega), up_j (by omega), up_j (by omega), up_s, up_j (by omega), up_j (by omega), up_s, up_j (by omega), up_s, e1, e2, e3, if_pos rfl, if_pos rfl, if_pos rfl]
      exact ⟨⟨rfl, h1⟩, ⟨rfl, h2⟩, rfl, h3⟩
    · rw [up_j (by omega), up_j (by omega), up_j (by omega), up_k (by omega), up_j (by omega), up_j (by omega), up_k (by omega), up_j (by omega), up_j (by omega), up_k (by omega), up_j (by omega), up_j (by omega), e1, e2, e3, if_neg c, if_neg c, if_neg c]
      exact q1 p (by omega)
  · rw [dj _ _ (by omega), dj _ _ (by omega), e4 _ _ (by omega) (by omega), e4 _ _ (by omega) (by omega)]
    exact q2 k hk
  · rw [dj _ _ (by omega), dj _ _ (by omega), e4 _ _ (by omega) (by omega), e4 _ _ (by omega) (by omega)]
    exact q3 k hk
set_option maxRecDepth 4000 in
theorem PR.mill {pl pl1 : Nat → Nat → Int32} {D : Nat → Nat → Nat} {v1 v2 : Nat} (h : PR pl D) (hp : D 0 3 < 4) (h1 : v1 < D 0 0 * D 0 0) (h2 : v2 ≤ 20) (e0 : ∀ k, pl1 0 k = if k = 3 then nI (D 0 3 + 1) else pl 0 k) (e1 : ∀ k, pl1 4 k = if k = D 0 3 then nI v1 else pl 4 k) (e2 : ∀ k, pl1 5 k = if k = D 0 3 then nI v2 else pl 5 k) (e4 : ∀ j k, (1 ≤ j ∧ j ≤ 3) ∨ (6 ≤ j ∧ j ≤ 7) → pl1 j k = pl j k) : PR pl1 (upA (upA (upA D 4 (D 0 3) v1) 5 (D 0 3) v2) 0 3 (D 0 3 + 1)) := by
  obtain ⟨⟨a0, a1, a2, a3, a4⟩, hb, q1, q2, q3⟩ := h
  have d : ∀ k, k ≠ 3 → upA (upA (upA D 4 (D 0 3) v1) 5 (D 0 3) v2) 0 3 (D 0 3 + 1) 0 k = D 0 k := fun k hk => by
    rw [up_k (by omega), up_j (by omega), up_j (by omega)]
  have dj : ∀ j k, (1 ≤ j ∧ j ≤ 3) ∨ (6 ≤ j ∧ j ≤ 7) → upA (upA (upA D 4 (D 0 3) v1) 5 (D 0 3) v2) 0 3 (D 0 3 + 1) j k = D j k := fun j k hj => by
    rw [up_j (by omega), up_j (by omega), up_j (by omega)]
  unfold PR
  rw [d 0 (by omega), d 1 (by omega), d 2 (by omega), d 4 (by omega), up_s]
  refine ⟨⟨by rw [e0, if_neg (by omega)]; exact a0, by rw [e0, if_neg (by omega)]; exact a1, by rw [e0, if_neg (by omega)]; exact a2, by rw [e0, if_pos rfl], by rw [e0, if_neg (by omega)]; exact a4⟩, by omega, fun p hp => ?_, fun p hp => ?_, fun k hk => ?_⟩
  · rw [dj _ _ (by omega), dj _ _ (by omega), dj _ _ (by omega), e4 _ _ (by omega), e4 _ _ (by omega), e4 _ _ (by omega)]
    exact q1 p hp
  · by_cases c : p = D 0 3
    · subst c
      rw [up_j (by omega), up_j (by omega), up_s, up_j (by omega), up_s, e1, e2, if_pos rfl, if_pos rfl]
      exact ⟨⟨rfl, h1⟩, rfl, h2⟩
    · rw [up_j (by omega), up_j (by omega), up_k (by omega), up_j (by omega), up_k (by omega), up_j (by omega), e1, e2, if_neg c, if_neg c]
      exact q2 p (by omega)
  · rw [dj _ _ (by omega), dj _ _ (by omega), e4 _ _ (by omega), e4 _ _ (by omega)]
    exact q3 k hk
set_option maxRecDepth 4000 in
theorem PR.roof {pl pl1 : Nat → Nat → Int32} {D : Nat → Nat → Nat} {v1 v2 : Nat} (h : PR pl D) (hp : D 0 4 < 4) (h1 : v1 < D 0 0 * D 0 0) (h2 : v2 ≤ 40) (e0 : ∀ k, pl1 0 k = if k = 4 then nI (D 0 4 + 1) else pl 0 k) (e1 : ∀ k, pl1 6 k = if k = D 0 4 then nI v1 else pl 6 k) (e2 : ∀ k, pl1 7 k = if k = D 0 4 then nI v2 else pl 7 k) (e4 : ∀ j k, 1 ≤ j → j ≤ 5 → pl1 j k = pl j k) : PR pl1 (upA (upA (upA D 6 (D 0 4) v1) 7 (D 0 4) v2) 0 4 (D 0 4 + 1)) := by
  obtain ⟨⟨a0, a1, a2, a3, a4⟩, hb, q1, q2, q3⟩ := h
  have d : ∀ k, k ≠ 4 → upA (upA (upA D 6 (D 0 4) v1) 7 (D 0 4) v2) 0 4 (D 0 4 + 1) 0 k = D 0 k := fun k hk => by
    rw [up_k (by omega), up_j (by omega), up_j (by omega)]
  have dj : ∀ j k, 1 ≤ j → j ≤ 5 → upA (upA (upA D 6 (D 0 4) v1) 7 (D 0 4) v2) 0 4 (D 0 4 + 1) j k = D j k := fun j k hj hj2 => by
    rw [up_j (by omega), up_j (by omega), up_j (by omega)]
  unfold PR
  rw [d 0 (by omega), d 1 (by omega), d 2 (by omega), d 3 (by omega), up_s]
  refine ⟨⟨by rw [e0, if_neg (by omega)]; exact a0, by rw [e0, if_neg (by omega)]; exact a1, by rw [e0, if_neg (by omega)]; exact a2, by rw [e0, if_neg (by omega)]; exact a3, by rw [e0, if_pos rfl]⟩, by omega, fun p hp => ?_, fun k hk => ?_, fun p hp => ?_⟩
  · rw [dj _ _ (by omega) (by omega), dj _ _ (by omega) (by omega), dj _ _ (by omega) (by omega), e4 _ _ (by omega) (by omega), e4 _ _ (by omega) (by omega), e4 _ _ (by omega) (by omega)]
    exact q1 p hp
  · rw [dj _ _ (by omega) (by omega), dj _ _ (by omega) (by omega), e4 _ _ (by omega) (by omega), e4 _ _ (by omega) (by omega)]
    exact q2 k hk
  · by_cases c : p = D 0 4
    · subst c
      rw [up_j (by omega), up_j (by omega), up_s, up_j (by omega), up_s, e1, e2, if_pos rfl, if_pos rfl]
      exact ⟨⟨rfl, h1⟩, rfl, h2⟩
    · rw [up_j (by omega), up_j (by omega), up_k (by omega), up_j (by omega), up_k (by omega), up_j (by omega), e1, e2, if_neg c, if_neg c]
      exact q3 p (by omega)
/-! the class -/
def FrP (m m1 : Nat → Nat → Int32) : Prop := (∀ j, j ≠ 1 → j < 5 ∨ 12 < j → m1 j = m j) ∧ m1 1 1 = m 1 1
set_option maxRecDepth 4000 in
theorem FrP.rf {m : Nat → Nat → Int32} : FrP m m := ⟨fun _ _ _ => rfl, rfl⟩
set_option maxRecDepth 4000 in
theorem FrP.tg {m m1 m2 : Nat → Nat → Int32} (h : FrP m m1) (h2 : TG m1 m2) : FrP m m2 := ⟨fun j h3 h4 => (h2.1 j h3).trans (h.1 j h3 h4), h2.2.trans h.2⟩
set_option maxRecDepth 4000 in
theorem FrP.trans {m m1 m2 : Nat → Nat → Int32} (h : FrP m m1) (h2 : FrP m1 m2) : FrP m m2 := ⟨fun j h3 h4 => (h2.1 j h3 h4).trans (h.1 j h3 h4), h2.2.trans h.2⟩
set_option maxRecDepth 4000 in
theorem FrP.up {m m1 : Nat → Nat → Int32} {a k : Nat} {v : Int32} (h : FrP m m1) (h1 : 5 ≤ a) (h2 : a ≤ 12) : FrP m (mk_u2 m1 a k v) := ⟨fun j h3 h4 => (mk_u2_ne (by omega)).trans (h.1 j h3 h4), (u2_a (by omega)).trans h.2⟩
set_option maxRecDepth 4000 in
theorem TC.fp {T : TT} {m m1 : Nat → Nat → Int32} (h : TC T m) (e : FrP m m1) : TC T m1 := ⟨e.2.trans h.1, h.2.1, fun i hi => by rw [e.1 2 (by omega) (by omega)]; exact h.2.2 i hi⟩
set_option maxRecDepth 4000 in
theorem plC {T : TT} {m : Nat → Nat → Int32} {q : Nat → Nat → Int64} {D : Nat → Nat → Nat} {e : Nat} (hT : TC T m) (h3 : m 1 3 = nI 0) (h2 : m 1 2 = nI e) (he : e ≤ T.1) (hZ : Zd (blk m 5) D) : ∃ m1, F_X4_readPlateau 1 5 (KS, m, q) = some ((), (KS, m1, q)) ∧ FrP m m1 ∧ m1 1 3 = nI (rPl T e D).1 ∧ (rPl T e D).1 < 100000 ∧ (rPl T e D).2.1 ≤ T.1 ∧ ((rPl T e D).1 = 0 → m1 1 2 = nI (rPl T e D).2.1 ∧ PR (blk m1 5) (rPl T e D).2.2) := by
  have hl := hT.2.1
  unfold rPl
  obtain ⟨ma, v1, a1, a2, a3, a4⟩ := nxC (q := q) (lo := 2) (hi := 6) hT h3 (by omega) (fun _ => h2) he (by omega) (by omega)
  obtain ⟨x1, x2, x3⟩ := amt_ok (T := T) (lo := 2) (hi := 6) (x := (0, e)) he hl (by show 0 < 100000; omega)
  generalize amt T 2 6 (0, e) = x at *
  have f1 : FrP m (mk_u2 ma 5 0 (nI v1)) := (FrP.rf.tg a2).up (by omega) (by omega)
  obtain ⟨mb, v2, b1, b2, b3, b4⟩ := nxC (m := mk_u2 ma 5 0 (nI v1)) (q := q) (lo := 1) (hi := 9) (hT.fp f1) (by rw [u2_a (by omega)]; exact a3) x1 (fun h => by rw [u2_a (by omega)]; exact (a4 h).1) x2 (by omega) (by omega)
  obtain ⟨y1, y2, y3⟩ := amt_ok (T := T) (lo := 1) (hi := 9) (x := (x.1, x.2.1)) x2 hl x1
  generalize amt T 1 9 (x.1, x.2.1) = y at *
  refine ⟨mk_u2 mb 5 1 (nI v2), ?_, (f1.tg b2).up (by omega) (by omega), by rw [u2_a (by omega)]; exact b3, y1, y2, fun h => ⟨by rw [u2_a (by omega)]; exact (b4 h).1, ?_⟩⟩
  · unfold F_X4_readPlateau
    simp (disch := omega) only [ob_some, reduceIte, lit, le_T, le_F, lt_T, lt_F, eq_T, eq_F, nI_add, gac_0_0, gac_0_1, gac_0_2, gac_0_3, gac_0_4, gac_0_5, gac_0_6, gac_1_0, gic_1_1, gic_1_2, gic_1_3, gic_1_4, gic_1_5, gic_1_6, gac_3_0, gic_3_1, gic_3_2, gic_3_3, gic_3_4, gic_3_5, gic_3_6, gic_3_7, gic_5_0, gic_5_1, gic_5_2, gic_5_3, gic_5_4, gac_5_5, gac_5_6, gac_5_7, gac_5_8, gac_5_9, gac_5_10, gac_5_11, gac_13_0, gac_13_1, gic_13_2, gac_13_3, gac_13_4, gac_13_5, gac_13_6, gac_13_7, gac_13_8, gac_13_9, gic_13_10, gic_13_11, gic_13_12, gic_13_13, gac_14_0, gac_14_1, gac_14_2, gac_14_3, gic_14_4, gic_14_5, gic_15_0, gic_15_1, gic_15_2, gic_15_3, gic_15_4, gac_15_5, gac_15_6, gac_15_7, gac_15_8, gac_15_9, gac_15_10, gac_15_11, gac_23_0, gac_23_1, gac_23_2, gac_23_3, gac_23_4, gac_23_5, gac_23_6, gic_23_7, gic_23_8, gac_31_0, gic_31_1, gic_31_2, gac_193_0, gac_193_1, gac_193_2, gic_193_3, gac_198_0, gac_200_0, gac_200_1, gac_200_2, gac_200_3, gac_200_4, gac_200_5, gac_200_6, gic_200_7, gic_200_8, pic_1_1, pic_1_2, pic_1_3, pic_1_4, pic_1_5, pic_1_6, pic_3_1, pic_3_2, pic_3_3, pic_3_4, pic_3_5, pic_3_6, pic_3_7, pic_5_0, pic_5_1, pic_5_2, pic_5_3, pic_5_4, pic_13_2, pic_13_10, pic_13_11, pic_13_12, pic_13_13, pic_14_4, pic_14_5, pic_15_0, pic_15_1, pic_15_2, pic_15_3, pic_15_4, pic_23_7, pic_23_8, pic_31_1, pic_31_2, pic_193_3, pic_200_7, pic_200_8, gdc_0, gdc_1, gdc_3, gdc_5, gdc_13, gdc_14, gdc_15, gdc_23, gdc_31, gdc_193, gdc_198, gdc_200, ldc_2, stc_2, ldc_4, stc_4, ldc_6, stc_6, ldc_7, stc_7, ldc_8, stc_8, ldc_9, stc_9, ldc_10, stc_10, ldc_11, stc_11, ldc_12, stc_12, ldc_16, stc_16, ldc_17, stc_17, ldc_18, stc_18, ldc_19, stc_19, ldc_20, stc_20, ldc_21, stc_21, ldc_22, stc_22, ldc_24, stc_24, ldc_25, stc_25, ldc_26, stc_26, ldc_27, stc_27, ldc_28, stc_28, ldc_29, stc_29, ldc_30, stc_30, ldc_194, stc_194, ldc_195, stc_195, ldc_196, stc_196, ldc_199, stc_199, ldc_201, stc_201, ldc_202, stc_202, ldc_203, stc_203, ldc_204, stc_204, ldc_205, stc_205, ldc_206, stc_206, ldc_207, stc_207, ldc_208, stc_208, ldc_209, stc_209, ldc_210, stc_210, ldc_211, stc_211, ldc_213, stc_213, ldc_214, stc_214, ldc_215, stc_215, ldc_216, stc_216, ldc_217, stc_217, ldc_218, stc_218, ldc_219, stc_219, ldc_263, stc_263, lda_197, lda_262, lda_212, lda_32, u2_s, u2_a, u2_b, a1, b1, pb_pi (show 5 ∈ PB by decide)]
  · obtain ⟨hx, r3, r4⟩ := y3 h
    obtain ⟨-, r1, r2⟩ := x3 hx
    rw [(b4 h).2] at *
    rw [(a4 hx).2] at *
    have hb5 : mb 5 = mk_u2 ma 5 0 (nI x.2.2) 5 := b2.1 5 (by omega)
    have ha5 : ma 5 = m 5 := a2.1 5 (by omega)
    refine PR.begin hZ r1 r2 r3 r4 ?_ ?_ ?_ ?_ ?_
    · show mk_u2 mb 5 1 (nI y.2.2) 5 0 = _
      rw [u2_b (by omega), hb5, u2_s]
    · show mk_u2 mb 5 1 (nI y.2.2) 5 1 = _
      rw [u2_s]
    · show mk_u2 mb 5 1 (nI y.2.2) 5 2 = m 5 2
      rw [u2_b (by omega), hb5, u2_b (by omega), ha5]
    · show mk_u2 mb 5 1 (nI y.2.2) 5 3 = m 5 3
      rw [u2_b (by omega), hb5, u2_b (by omega), ha5]
    · show mk_u2 mb 5 1 (nI y.2.2) 5 4 = m 5 4
      rw [u2_b (by omega), hb5, u2_b (by omega), ha5]
set_option maxRecDepth 4000 in
theorem peC {T : TT} {m : Nat → Nat → Int32} {q : Nat → Nat → Int64} {D : Nat → Nat → Nat} {e : Nat} (hT : TC T m) (h3 : m 1 3 = nI 0) (h2 : m 1 2 = nI e) (he : e ≤ T.1) (hP : PR (blk m 5) D) (hp : D 0 2 < 6) : ∃ m1, F_X4_readPerson 1 5 (KS, m, q) = some ((), (KS, m1, q)) ∧ FrP m m1 ∧ m1 1 3 = nI (rPe T e D).1 ∧ (rPe T e D).1 < 100000 ∧ (rPe T e D).2.1 ≤ T.1 ∧ ((rPe T e D).1 = 0 → m1 1 2 = nI (rPe T e D).2.1 ∧ PR (blk m1 5) (rPe T e D).2.2) := by
  have hl := hT.2.1
  obtain ⟨g0, g1, g2, g3, g4⟩ := hP.at
  have hsq := hP.sq
  have hc : nI (D 0 0 * D 0 0) - nI 1 = nI (D 0 0 * D 0 0 - 1) := pk_sub (by omega)
  simp only [rPe]
  obtain ⟨ma, v1, a1, a2, a3, a4⟩ := nxC (q := q) (lo := 0) (hi := D 0 0 * D 0 0 - 1) hT h3 (by omega) (fun _ => h2) he (by omega) (by omega)
  obtain ⟨x1, x2, x3⟩ := amt_ok (T := T) (lo := 0) (hi := D 0 0 * D 0 0 - 1) (x := (0, e)) he hl (by show 0 < 100000; omega)
  generalize amt T 0 (D 0 0 * D 0 0 - 1) (0, e) = x at *
  have f1 : FrP m (mk_u2 ma 6 (D 0 2) (nI v1)) := (FrP.rf.tg a2).up (by omega) (by omega)
  obtain ⟨mb, v2, b1, b2, b3, b4⟩ := nxC (m := mk_u2 ma 6 (D 0 2) (nI v1)) (q := q) (lo := 0) (hi := 20) (hT.fp f1) (by rw [u2_a (by omega)]; exact a3) x1 (fun h => by rw [u2_a (by omega)]; exact (a4 h).1) x2 (by omega) (by omega)
  obtain ⟨y1, y2, y3⟩ := amt_ok (T := T) (lo := 0) (hi := 20) (x := (x.1, x.2.1)) x2 hl x1
  generalize amt T 0 20 (x.1, x.2.1) = y at *
  have f2 : FrP m (mk_u2 mb 7 (D 0 2) (nI v2)) := (f1.tg b2).up (by omega) (by omega)
  obtain ⟨mc, v3, c1, c2, c3, c4⟩ := nxC (m := mk_u2 mb 7 (D 0 2) (nI v2)) (q := q) (lo := 0) (hi := 3) (hT.fp f2) (by rw [u2_a (by omega)]; exact b3) y1 (fun h => by rw [u2_a (by omega)]; exact (b4 h).1) y2 (by omega) (by omega)
  obtain ⟨z1, z2, z3⟩ := amt_ok (T := T) (lo := 0) (hi := 3) (x := (y.1, y.2.1)) y2 hl y1
  generalize amt T 0 3 (y.1, y.2.1) = z at *
  have ha : ∀ j, j ≠ 1 → ma j = m j := a2.1
  have hb : ∀ j, j ≠ 1 → mb j = mk_u2 ma 6 (D 0 2) (nI v1) j := b2.1
  have hcc : ∀ j, j ≠ 1 → mc j = mk_u2 mb 7 (D 0 2) (nI v2) j := c2.1
  have c52 : mc 5 2 = nI (D 0 2) := by rw [hcc 5 (by omega), u2_a (by omega), hb 5 (by omega), u2_a (by omega), ha 5 (by omega)]; exact g2
  refine ⟨mk_u2 (mk_u2 mc 8 (D 0 2) (nI v3)) 5 2 (nI (D 0 2 + 1)), ?_, ((f2.tg c2).up (by omega) (by omega)).up (by omega) (by omega), by rw [u2_a (by omega), u2_a (by omega)]; exact c3, z1, z2, fun h => ⟨by rw [u2_a (by omega), u2_a (by omega)]; exact (c4 h).1, ?_⟩⟩
  · unfold F_X4_readPerson F_X3_cells
    simp (disch := omega) only [ob_some, reduceIte, lit, le_T, le_F, lt_T, lt_F, eq_T, eq_F, nI_add, gac_0_0, gac_0_1, gac_0_2, gac_0_3, gac_0_4, gac_0_5, gac_0_6, gac_1_0, gic_1_1, gic_1_2, gic_1_3, gic_1_4, gic_1_5, gic_1_6, gac_3_0, gic_3_1, gic_3_2, gic_3_3, gic_3_4, gic_3_5, gic_3_6, gic_3_7, gic_5_0, gic_5_1, gic_5_2, gic_5_3, gic_5_4, gac_5_5, gac_5_6, gac_5_7, gac_5_8, gac_5_9, gac_5_10, gac_5_11, gac_13_0, gac_13_1, gic_13_2, gac_13_3, gac_13_4, gac_13_5, gac_13_6, gac_13_7, gac_13_8, gac_13_9, gic_13_10, gic_13_11, gic_13_12, gic_13_13, gac_14_0, gac_14_1, gac_14_2, gac_14_3, gic_14_4, gic_14_5, gic_15_0, gic_15_1, gic_15_2, gic_15_3, gic_15_4, gac_15_5, gac_15_6, gac_15_7, gac_15_8, gac_15_9, gac_15_10, gac_15_11, gac_23_0, gac_23_1, gac_23_2, gac_23_3, gac_23_4, gac_23_5, gac_23_6, gic_23_7, gic_23_8, gac_31_0, gic_31_1, gic_31_2, gac_193_0, gac_193_1, gac_193_2, gic_193_3, gac_198_0, gac_200_0, gac_200_1, gac_200_2, gac_200_3, gac_200_4, gac_200_5, gac_200_6, gic_200_7, gic_200_8, pic_1_1, pic_1_2, pic_1_3, pic_1_4, pic_1_5, pic_1_6, pic_3_1, pic_3_2, pic_3_3, pic_3_4, pic_3_5, pic_3_6, pic_3_7, pic_5_0, pic_5_1, pic_5_2, pic_5_3, pic_5_4, pic_13_2, pic_13_10, pic_13_11, pic_13_12, pic_13_13, pic_14_4, pic_14_5, pic_15_0, pic_15_1, pic_15_2, pic_15_3, pic_15_4, pic_23_7, pic_23_8, pic_31_1, pic_31_2, pic_193_3, pic_200_7, pic_200_8, gdc_0, gdc_1, gdc_3, gdc_5, gdc_13, gdc_14, gdc_15, gdc_23, gdc_31, gdc_193, gdc_198, gdc_200, ldc_2, stc_2, ldc_4, stc_4, ldc_6, stc_6, ldc_7, stc_7, ldc_8, stc_8, ldc_9, stc_9, ldc_10, stc_10, ldc_11, stc_11, ldc_12, stc_12, ldc_16, stc_16, ldc_17, stc_17, ldc_18, stc_18, ldc_19, stc_19, ldc_20, stc_20, ldc_21, stc_21, ldc_22, stc_22, ldc_24, stc_24, ldc_25, stc_25, ldc_26, stc_26, ldc_27, stc_27, ldc_28, stc_28, ldc_29, stc_29, ldc_30, stc_30, ldc_194, stc_194, ldc_195, stc_195, ldc_196, stc_196, ldc_199, stc_199, ldc_201, stc_201, ldc_202, stc_202, ldc_203, stc_203, ldc_204, stc_204, ldc_205, stc_205, ldc_206, stc_206, ldc_207, stc_207, ldc_208, stc_208, ldc_209, stc_209, ldc_210, stc_210, ldc_211, stc_211, ldc_213, stc_213, ldc_214, stc_214, ldc_215, stc_215, ldc_216, stc_216, ldc_217, stc_217, ldc_218, stc_218, ldc_219, stc_219, ldc_263, stc_263, lda_197, lda_262, lda_212, lda_32, u2_s, u2_a, u2_b, g0, g2, pk_mul, hc, a1, b1, c1, c52, pb_pi (show 5 ∈ PB by decide)]
  · obtain ⟨hy, r5, r6⟩ := z3 h
    obtain ⟨hx, r3, r4⟩ := y3 hy
    obtain ⟨-, r1, r2⟩ := x3 hx
    obtain ⟨-, rfl⟩ := c4 h
    obtain ⟨-, rfl⟩ := b4 hy
    obtain ⟨-, rfl⟩ := a4 hx
    refine hP.person hp (by omega) (by omega) (by omega) (fun k => ?_) (fun k => ?_) (fun k => ?_) (fun k => ?_) (fun j k h4 h7 => ?_)
    · show mk_u2 (mk_u2 mc 8 (D 0 2) _) 5 2 _ 5 k = if k = 2 then _ else m 5 k
      rw [u2_at]
      by_cases c : k = 2
      · rw [if_pos ⟨rfl, c⟩, if_pos c]
      · rw [if_neg (fun h => c h.2), if_neg c, u2_a (by omega), hcc 5 (by omega), u2_a (by omega), hb 5 (by omega), u2_a (by omega), ha 5 (by omega)]
    · show mk_u2 (mk_u2 mc 8 (D 0 2) _) 5 2 _ 6 k = if k = D 0 2 then _ else m 6 k
      rw [u2_a (by omega), u2_a (by omega), hcc 6 (by omega), u2_a (by omega), hb 6 (by omega), u2_at]
      by_cases c : k = D 0 2
      · rw [if_pos ⟨rfl, c⟩, if_pos c]
      · rw [if_neg (fun h => c h.2), if_neg c, ha 6 (by omega)]
    · show mk_u2 (mk_u2 mc 8 (D 0 2) _) 5 2 _ 7 k = if k = D 0 2 then _ else m 7 k
      rw [u2_a (by omega), u2_a (by omega), hcc 7 (by omega), u2_at]
      by_cases c : k = D 0 2
      · rw [if_pos ⟨rfl, c⟩, if_pos c]
      · rw [if_neg (fun h => c h.2), if_neg c, hb 7 (by omega), u2_a (by omega), ha 7 (by omega)]
    · show mk_u2 (mk_u2 mc 8 (D 0 2) _) 5 2 _ 8 k = if k = D 0 2 then _ else m 8 k
      rw [u2_a (by omega), u2_at]
      by_cases c : k = D 0 2
      · rw [if_pos ⟨rfl, c⟩, if_pos c]
      · rw [if_neg (fun h => c h.2), if_neg c, hcc 8 (by omega), u2_a (by omega), hb 8 (by omega), u2_a (by omega), ha 8 (by omega)]
    · show mk_u2 (mk_u2 mc 8 (D 0 2) _) 5 2 _ (5 + j) k = m (5 + j) k
      rw [u2_a (by omega), u2_a (by omega), hcc _ (by omega), u2_a (by omega), hb _ (by omega), u2_a (by omega), ha _ (by omega)]
set_option maxRecDepth 4000 in
theorem miC {T : TT} {m : Nat → Nat → Int32} {q : Nat → Nat → Int64} {D : Nat → Nat → Nat} {e : Nat} (hT : TC T m) (h3 : m 1 3 = nI 0) (h2 : m 1 2 = nI e) (he : e ≤ T.1) (hP : PR (blk m 5) D) (hp : D 0 3 < 4) : ∃ m1, F_X4_readMill 1 5 (KS, m, q) = some ((), (KS, m1, q)) ∧ FrP m m1 ∧ m1 1 3 = nI (rMi T e D).1 ∧ (rMi T e D).1 < 100000 ∧ (rMi T e D).2.1 ≤ T.1 ∧ ((rMi T e D).1 = 0 → m1 1 2 = nI (rMi T e D).2.1 ∧ PR (blk m1 5) (rMi T e D).2.2) := by
  have hl := hT.2.1
  obtain ⟨g0, g1, g2, g3, g4⟩ := hP.at
  have hsq := hP.sq
  have hc : nI (D 0 0 * D 0 0) - nI 1 = nI (D 0 0 * D 0 0 - 1) := pk_sub (by omega)
  simp only [rMi]
  obtain ⟨ma, v1, a1, a2, a3, a4⟩ := nxC (q := q) (lo := 0) (hi := D 0 0 * D 0 0 - 1) hT h3 (by omega) (fun _ => h2) he (by omega) (by omega)
  obtain ⟨x1, x2, x3⟩ := amt_ok (T := T) (lo := 0) (hi := D 0 0 * D 0 0 - 1) (x := (0, e)) he hl (by show 0 < 100000; omega)
  generalize amt T 0 (D 0 0 * D 0 0 - 1) (0, e) = x at *
  have f1 : FrP m (mk_u2 ma 9 (D 0 3) (nI v1)) := (FrP.rf.tg a2).up (by omega) (by omega)
  obtain ⟨mb, v2, b1, b2, b3, b4⟩ := nxC (m := mk_u2 ma 9 (D 0 3) (nI v1)) (q := q) (lo := 1) (hi := 20) (hT.fp f1) (by rw [u2_a (by omega)]; exact a3) x1 (fun h => by rw [u2_a (by omega)]; exact (a4 h).1) x2 (by omega) (by omega)
  obtain ⟨y1, y2, y3⟩ := amt_ok (T := T) (lo := 1) (hi := 20) (x := (x.1, x.2.1)) x2 hl x1
  generalize amt T 1 20 (x.1, x.2.1) = y at *
  have ha : ∀ j, j ≠ 1 → ma j = m j := a2.1
  have hb : ∀ j, j ≠ 1 → mb j = mk_u2 ma 9 (D 0 3) (nI v1) j := b2.1
  have c53 : mb 5 3 = nI (D 0 3) := by rw [hb 5 (by omega), u2_a (by omega), ha 5 (by omega)]; exact g3
  refine ⟨mk_u2 (mk_u2 mb 10 (D 0 3) (nI v2)) 5 3 (nI (D 0 3 + 1)), ?_, ((f1.tg b2).up (by omega) (by omega)).up (by omega) (by omega), by rw [u2_a (by omega), u2_a (by omega)]; exact b3, y1, y2, fun h => ⟨by rw [u2_a (by omega), u2_a (by omega)]; exact (b4 h).1, ?_⟩⟩
  · unfold F_X4_readMill F_X3_cells
    simp (disch := omega) only [ob_some, reduceIte, lit, le_T, le_F, lt_T, lt_F, eq_T, eq_F, nI_add, gac_0_0, gac_0_1, gac_0_2, gac_0_3, gac_0_4, gac_0_5, gac_0_6, gac_1_0, gic_1_1, gic_1_2, gic_1_3, gic_1_4, gic_1_5, gic_1_6, gac_3_0, gic_3_1, gic_3_2, gic_3_3, gic_3_4, gic_3_5, gic_3_6, gic_3_7, gic_5_0, gic_5_1, gic_5_2, gic_5_3, gic_5_4, gac_5_5, gac_5_6, gac_5_7, gac_5_8, gac_5_9, gac_5_10, gac_5_11, gac_13_0, gac_13_1, gic_13_2, gac_13_3, gac_13_4, gac_13_5, gac_13_6, gac_13_7, gac_13_8, gac_13_9, gic_13_10, gic_13_11, gic_13_12, gic_13_13, gac_14_0, gac_14_1, gac_14_2, gac_14_3, gic_14_4, gic_14_5, gic_15_0, gic_15_1, gic_15_2, gic_15_3, gic_15_4, gac_15_5, gac_15_6, gac_15_7, gac_15_8, gac_15_9, gac_15_10, gac_15_11, gac_23_0, gac_23_1, gac_23_2, gac_23_3, gac_23_4, gac_23_5, gac_23_6, gic_23_7, gic_23_8, gac_31_0, gic_31_1, gic_31_2, gac_193_0, gac_193_1, gac_193_2, gic_193_3, gac_198_0, gac_200_0, gac_200_1, gac_200_2, gac_200_3, gac_200_4, gac_200_5, gac_200_6, gic_200_7, gic_200_8, pic_1_1, pic_1_2, pic_1_3, pic_1_4, pic_1_5, pic_1_6, pic_3_1, pic_3_2, pic_3_3, pic_3_4, pic_3_5, pic_3_6, pic_3_7, pic_5_0, pic_5_1, pic_5_2, pic_5_3, pic_5_4, pic_13_2, pic_13_10, pic_13_11, pic_13_12, pic_13_13, pic_14_4, pic_14_5, pic_15_0, pic_15_1, pic_15_2, pic_15_3, pic_15_4, pic_23_7, pic_23_8, pic_31_1, pic_31_2, pic_193_3, pic_200_7, pic_200_8, gdc_0, gdc_1, gdc_3, gdc_5, gdc_13, gdc_14, gdc_15, gdc_23, gdc_31, gdc_193, gdc_198, gdc_200, ldc_2, stc_2, ldc_4, stc_4, ldc_6, stc_6, ldc_7, stc_7, ldc_8, stc_8, ldc_9, stc_9, ldc_10, stc_10, ldc_11, stc_11, ldc_12, stc_12, ldc_16, stc_16, ldc_17, stc_17, ldc_18, stc_18, ldc_19, stc_19, ldc_20, stc_20, ldc_21, stc_21, ldc_22, stc_22, ldc_24, stc_24, ldc_25, stc_25, ldc_26, stc_26, ldc_27, stc_27, ldc_28, stc_28, ldc_29, stc_29, ldc_30, stc_30, ldc_194, stc_194, ldc_195, stc_195, ldc_196, stc_196, ldc_199, stc_199, ldc_201, stc_201, ldc_202, stc_202, ldc_203, stc_203, ldc_204, stc_204, ldc_205, stc_205, ldc_206, stc_206, ldc_207, stc_207, ldc_208, stc_208, ldc_209, stc_209, ldc_210, stc_210, ldc_211, stc_211, ldc_213, stc_213, ldc_214, stc_214, ldc_215, stc_215, ldc_216, stc_216, ldc_217, stc_217, ldc_218, stc_218, ldc_219, stc_219, ldc_263, stc_263, lda_197, lda_262, lda_212, lda_32, u2_s, u2_a, u2_b, g0, g3, pk_mul, hc, a1, b1, c53, pb_pi (show 5 ∈ PB by decide)]
  · obtain ⟨hx, r3, r4⟩ := y3 h
    obtain ⟨-, r1, r2⟩ := x3 hx
    obtain ⟨-, rfl⟩ := b4 h
    obtain ⟨-, rfl⟩ := a4 hx
    refine hP.mill hp (by omega) (by omega) (fun k => ?_) (fun k => ?_) (fun k => ?_) (fun j k h4 => ?_)
    · show mk_u2 (mk_u2 mb 10 (D 0 3) _) 5 3 _ 5 k = if k = 3 then _ else m 5 k
      rw [u2_at]
      by_cases c : k = 3
      · rw [if_pos ⟨rfl, c⟩, if_pos c]
      · rw [if_neg (fun h => c h.2), if_neg c, u2_a (by omega), hb 5 (by omega), u2_a (by omega), ha 5 (by omega)]
    · show mk_u2 (mk_u2 mb 10 (D 0 3) _) 5 3 _ 9 k = if k = D 0 3 then _ else m 9 k
      rw [u2_a (by omega), u2_a (by omega), hb 9 (by omega), u2_at]
      by_cases c : k = D 0 3
      · rw [if_pos ⟨rfl, c⟩, if_pos c]
      · rw [if_neg (fun h => c h.2), if_neg c, ha 9 (by omega)]
    · show mk_u2 (mk_u2 mb 10 (D 0 3) _) 5 3 _ 10 k = if k = D 0 3 then _ else m 10 k
      rw [u2_a (by omega), u2_at]
      by_cases c : k = D 0 3
      · rw [if_pos ⟨rfl, c⟩, if_pos c]
      · rw [if_neg (fun h => c h.2), if_neg c, hb 10 (by omega), u2_a (by omega), ha 10 (by omega)]
    · show mk_u2 (mk_u2 mb 10 (D 0 3) _) 5 3 _ (5 + j) k = m (5 + j) k
      rw [u2_a (by omega), u2_a (by omega), hb _ (by omega), u2_a (by omega), ha _ (by omega)]
set_option maxRecDepth 4000 in
theorem roC {T : TT} {m : Nat → Nat → Int32} {q : Nat → Nat → Int64} {D : Nat → Nat → Nat} {e : Nat} (hT : TC T m) (h3 : m 1 3 = nI 0) (h2 : m 1 2 = nI e) (he : e ≤ T.1) (hP : PR (blk m 5) D) (hp : D 0 4 < 4) : ∃ m1, F_X4_readRoof 1 5 (KS, m, q) = some ((), (KS, m1, q)) ∧ FrP m m1 ∧ m1 1 3 = nI (rRo T e D).1 ∧ (rRo T e D).1 < 100000 ∧ (rRo T e D).2.1 ≤ T.1 ∧ ((rRo T e D).1 = 0 → m1 1 2 = nI (rRo T e D).2.1 ∧ PR (blk m1 5) (rRo T e D).2.2) := by
  have hl := hT.2.1
  obtain ⟨g0, g1, g2, g3, g4⟩ := hP.at
  have hsq := hP.sq
  have hc : nI (D 0 0 * D 0 0) - nI 1 = nI (D 0 0 * D 0 0 - 1) := pk_sub (by omega)
  simp only [rRo]
  obtain ⟨ma, v1, a1, a2, a3, a4⟩ := nxC (q := q) (lo := 0) (hi := D 0 0 * D 0 0 - 1) hT h3 (by omega) (fun _ => h2) he (by omega) (by omega)
  obtain ⟨x1, x2, x3⟩ := amt_ok (T := T) (lo := 0) (hi := D 0 0 * D 0 0 - 1) (x := (0, e)) he hl (by show 0 < 100000; omega)
  generalize amt T 0 (D 0 0 * D 0 0 - 1) (0, e) = x at *
  have f1 : FrP m (mk_u2 ma 11 (D 0 4) (nI v1)) := (FrP.rf.tg a2).up (by omega) (by omega)
  obtain ⟨mb, v2, b1, b2, b3, b4⟩ := nxC (m := mk_u2 ma 11 (D 0 4) (nI v1)) (q := q) (lo := 0) (hi := 40) (hT.fp f1) (by rw [u2_a (by omega)]; exact a3) x1 (fun h => by rw [u2_a (by omega)]; exact (a4 h).1) x2 (by omega) (by omega)
  obtain ⟨y1, y2, y3⟩ := amt_ok (T := T) (lo := 0) (hi := 40) (x := (x.1, x.2.1)) x2 hl x1
  generalize amt T 0 40 (x.1, x.2.1) = y at *
  have ha : ∀ j, j ≠ 1 → ma j = m j := a2.1
  have hb : ∀ j, j ≠ 1 → mb j = mk_u2 ma 11 (D 0 4) (nI v1) j := b2.1
  have c54 : mb 5 4 = nI (D 0 4) := by rw [hb 5 (by omega), u2_a (by omega), ha 5 (by omega)]; exact g4
  refine ⟨mk_u2 (mk_u2 mb 12 (D 0 4) (nI v2)) 5 4 (nI (D 0 4 + 1)), ?_, ((f1.tg b2).up (by omega) (by omega)).up (by omega) (by omega), by rw [u2_a (by omega), u2_a (by omega)]; exact b3, y1, y2, fun h => ⟨by rw [u2_a (by omega), u2_a (by omega)]; exact (b4 h).1, ?_⟩⟩
  · unfold F_X4_readRoof F_X3_cells
    simp (disch := omega) only [ob_some, reduceIte, lit, le_T, le_F, lt_T, lt_F, eq_T, eq_F, nI_add, gac_0_0, gac_0_1, gac_0_2, gac_0_3, gac_0_4, gac_0_5, gac_0_6, gac_1_0, gic_1_1, gic_1_2, gic_1_3, gic_1_4, gic_1_5, gic_1_6, gac_3_0, gic_3_1, gic_3_2, gic_3_3, gic_3_4, gic_3_5, gic_3_6, gic_3_7, gic_5_0, gic_5_1, gic_5_2, gic_5_3, gic_5_4, gac_5_5, gac_5_6, gac_5_7, gac_5_8, gac_5_9, gac_5_10, gac_5_11, gac_13_0, gac_13_1, gic_13_2, gac_13_3, gac_13_4, gac_13_5, gac_13_6, gac_13_7, gac_13_8, gac_13_9, gic_13_10, gic_13_11, gic_13_12, gic_13_13, gac_14_0, gac_14_1, gac_14_2, gac_14_3, gic_14_4, gic_14_5, gic_15_0, gic_15_1, gic_15_2, gic_15_3, gic_15_4, gac_15_5, gac_15_6, gac_15_7, gac_15_8, gac_15_9, gac_15_10, gac_15_11, gac_23_0, gac_23_1, gac_23_2, gac_23_3, gac_23_4, gac_23_5, gac_23_6, gic_23_7, gic_23_8, gac_31_0, gic_31_1, gic_31_2, gac_193_0, gac_193_1, gac_193_2, gic_193_3, gac_198_0, gac_200_0, gac_200_1, gac_200_2, gac_200_3, gac_200_4, gac_200_5, gac_200_6, gic_200_7, gic_200_8, pic_1_1, pic_1_2, pic_1_3, pic_1_4, pic_1_5, pic_1_6, pic_3_1, pic_3_2, pic_3_3, pic_3_4, pic_3_5, pic_3_6, pic_3_7, pic_5_0, pic_5_1, pic_5_2, pic_5_3, pic_5_4, pic_13_2, pic_13_10, pic_13_11, pic_13_12, pic_13_13, pic_14_4, pic_14_5, pic_15_0, pic_15_1, pic_15_2, pic_15_3, pic_15_4, pic_23_7, pic_23_8, pic_31_1, pic_31_2, pic_193_3, pic_200_7, pic_200_8, gdc_0, gdc_1, gdc_3, gdc_5, gdc_13, gdc_14, gdc_15, gdc_23, gdc_31, gdc_193, gdc_198, gdc_200, ldc_2, stc_2, ldc_4, stc_4, ldc_6, stc_6, ldc_7, stc_7, ldc_8, stc_8, ldc_9, stc_9, ldc_10, stc_10, ldc_11, stc_11, ldc_12, stc_12, ldc_16, stc_16, ldc_17, stc_17, ldc_18, stc_18, ldc_19, stc_19, ldc_20, stc_20, ldc_21, stc_21, ldc_22, stc_22, ldc_24, stc_24, ldc_25, stc_25, ldc_26, stc_26, ldc_27, stc_27, ldc_28, stc_28, ldc_29, stc_29, ldc_30, stc_30, ldc_194, stc_194, ldc_195, stc_195, ldc_196, stc_196, ldc_199, stc_199, ldc_201, stc_201, ldc_202, stc_202, ldc_203, stc_203, ldc_204, stc_204, ldc_205, stc_205, ldc_206, stc_206, ldc_207, stc_207, ldc_208, stc_208, ldc_209, stc_209, ldc_210, stc_210, ldc_211, stc_211, ldc_213, stc_213, ldc_214, stc_214, ldc_215, stc_215, ldc_216, stc_216, ldc_217, stc_217, ldc_218, stc_218, ldc_219, stc_219, ldc_263, stc_263, lda_197, lda_262, lda_212, lda_32, u2_s, u2_a, u2_b, g0, g4, pk_mul, hc, a1, b1, c54, pb_pi (show 5 ∈ PB by decide)]
  · obtain ⟨hx, r3, r4⟩ := y3 h
    obtain ⟨-, r1, r2⟩ := x3 hx
    obtain ⟨-, rfl⟩ := b4 h
    obtain ⟨-, rfl⟩ := a4 hx
    refine hP.roof hp (by omega) (by omega) (fun k => ?_) (fun k => ?_) (fun k => ?_) (fun j k h4 h5 => ?_)
    · show mk_u2 (mk_u2 mb 12 (D 0 4) _) 5 4 _ 5 k = if k = 4 then _ else m 5 k
      rw [u2_at]
      by_cases c : k = 4
      · rw [if_pos ⟨rfl, c⟩, if_pos c]
      · rw [if_neg (fun h => c h.2), if_neg c, u2_a (by omega), hb 5 (by omega), u2_a (by omega), ha 5 (by omega)]
    · show mk_u2 (mk_u2 mb 12 (D 0 4) _) 5 4 _ 11 k = if k = D 0 4 then _ else m 11 k
      rw [u2_a (by omega), u2_a (by omega), hb 11 (by omega), u2_at]
      by_cases c : k = D 0 4
      · rw [if_pos ⟨rfl, c⟩, if_pos c]
      · rw [if_neg (fun h => c h.2), if_neg c, ha 11 (by omega)]
    · show mk_u2 (mk_u2 mb 12 (D 0 4) _) 5 4 _ 12 k = if k = D 0 4 then _ else m 12 k
      rw [u2_a (by omega), u2_at]
      by_cases c : k = D 0 4
      · rw [if_pos ⟨rfl, c⟩, if_pos c]
      · rw [if_neg (fun h => c h.2), if_neg c, hb 12 (by omega), u2_a (by omega), ha 12 (by omega)]
    · show mk_u2 (mk_u2 mb 12 (D 0 4) _) 5 4 _ (5 + j) k = m (5 + j) k
      rw [u2_a (by omega), u2_a (by omega), hb _ (by omega), u2_a (by omega), ha _ (by omega)]
