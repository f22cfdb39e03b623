/-! PLATEAUS told: the class's text -/
set_option maxRecDepth 4000 in
theorem rcC {T : TT} {m : Nat → Nat → Int32} {q : Nat → Nat → Int64} {D : Nat → Nat → Nat} {n s a : Nat} (hT : TC T m) (h3 : m 1 3 = nI 0) (hs : s = sp isB T a) (ha : a ≤ T.1) (h2 : m 1 2 = nI (end1 T s)) (h5 : m 1 5 = nI s) (h4 : m 1 4 = sI (sgn1 T s)) (hn : n ≤ 40) (hG : GP n (blk m 5) D) : ∃ m1, F_X4_readClause 1 5 (nI n) (KS, m, q) = some ((), (KS, m1, q)) ∧ FrP m m1 ∧ m1 1 3 = nI (clz T n a D).1 ∧ (clz T n a D).1 < 100000 ∧ (clz T n a D).2.1 ≤ T.1 ∧ ((clz T n a D).1 = 0 → m1 1 2 = nI (clz T n a D).2.1 ∧ n < 40 ∧ PR (blk m1 5) (clz T n a D).2.2) := by
  have hl := hT.2.1
  have hsl : s ≤ T.1 := by rw [hs]; exact sp_le hB ha
  have hb := hT.b s
  have hel := (end1_le hsl).2.1
  unfold clz
  rw [← hs]
  have fl : ∀ c, c < 10 → F_X8_fail 1 (nI c) (KS, m, q) = some ((), (KS, mk_u2 m 1 3 (nI (1 + 8 * s + c)), q)) := fun c hc => flC h3 h5 (by omega)
  have fl4 := fl 4 (by omega)
  have fl0 := fl 0 (by omega)
  have bad : ∀ c, c < 10 → F_X4_readClause 1 5 (nI n) (KS, m, q) = some ((), (KS, mk_u2 m 1 3 (nI (1 + 8 * s + c)), q)) → ∃ m1, F_X4_readClause 1 5 (nI n) (KS, m, q) = some ((), (KS, m1, q)) ∧ FrP m m1 ∧ m1 1 3 = nI (1 + 8 * s + c, a, D).1 ∧ (1 + 8 * s + c, a, D).1 < 100000 ∧ (1 + 8 * s + c, a, D).2.1 ≤ T.1 ∧ ((1 + 8 * s + c, a, D).1 = 0 → m1 1 2 = nI (1 + 8 * s + c, a, D).2.1 ∧ n < 40 ∧ PR (blk m1 5) (1 + 8 * s + c, a, D).2.2) := fun c hc h => ⟨_, h, ⟨fun j h1 _ => mk_u2_ne h1, u2_b (by omega)⟩, u2_s, by show 1 + 8 * s + c < 100000; omega, ha, fun h => by have : 1 + 8 * s + c = 0 := h; omega⟩
  by_cases k17 : wix T s = 17
  · have e1 : sgn1 T s = 317 := (sg_w hb (by omega)).mpr k17
    rw [e1, sI_n (by omega)] at h4
    have e2 := end_w (T := T) (s := s) (by omega)
    have e3 : (wd 17).length = 7 := rfl
    rw [k17, e3] at e2
    rw [e2] at h2 hel
    rw [if_pos k17]
    have r1 : F_X4_readClause 1 5 (nI n) (KS, m, q) = B_X4_readClause_41 1 5 (nI n) (nI 317) (KS, m, q) := by
      unfold F_X4_readClause
      simp (disch := omega) only [gic_1_4, gic_5_0, gic_5_1, gic_5_2, gic_5_3, gic_5_4, ob_some, lit, eq_T, eq_F, le_T, le_F, reduceIte, h4]
    have rb : B_X4_readClause_64 1 (KS, m, q) = some ((), (KS, mk_u2 m 1 3 (nI (1 + 8 * s + 4)), q)) := by
      unfold B_X4_readClause_64
      simp only [lit, fl4, ob_some]
    have r40 : 40 ≤ n → F_X4_readClause 1 5 (nI n) (KS, m, q) = some ((), (KS, mk_u2 m 1 3 (nI (1 + 8 * s + 4)), q)) := fun h => by
      rw [r1, ← rb]
      unfold B_X4_readClause_41
      simp (disch := omega) only [gic_1_4, gic_5_0, gic_5_1, gic_5_2, gic_5_3, gic_5_4, ob_some, lit, eq_T, eq_F, le_T, le_F, reduceIte]
    have r2 : n < 40 → F_X4_readClause 1 5 (nI n) (KS, m, q) = B_X4_readClause_58 1 5 (nI 317) (nI 317) 5 (if n = 0 then nI 1 else nI 0) (KS, m, q) := fun h => by
      rw [r1]
      unfold B_X4_readClause_41
      by_cases z : n = 0
      · subst z
        simp (disch := omega) only [gic_1_4, gic_5_0, gic_5_1, gic_5_2, gic_5_3, gic_5_4, ob_some, lit, eq_T, eq_F, le_T, le_F, reduceIte]
      · simp (disch := omega) only [gic_1_4, gic_5_0, gic_5_1, gic_5_2, gic_5_3, gic_5_4, ob_some, lit, eq_T, eq_F, le_T, le_F, reduceIte, z]
    have r3 : ∀ x, F_X4_mayStand (nI 317) 5 x (KS, m, q) = some (nI 0, (KS, m, q)) → B_X4_readClause_58 1 5 (nI 317) (nI 317) 5 x (KS, m, q) = some ((), (KS, mk_u2 m 1 3 (nI (1 + 8 * s + 4)), q)) := fun x h => by
      rw [← rb]
      unfold B_X4_readClause_58
      rw [h]
      simp (disch := omega) only [gic_1_4, gic_5_0, gic_5_1, gic_5_2, gic_5_3, gic_5_4, ob_some, lit, eq_T, eq_F, le_T, le_F, reduceIte]
    have r4 : ∀ x, F_X4_mayStand (nI 317) 5 x (KS, m, q) = some (nI 1, (KS, m, q)) → B_X4_readClause_58 1 5 (nI 317) (nI 317) 5 x (KS, m, q) = (F_X4_readPlateau 1 5 (KS, m, q)).bind fun z => some ((), z.2) := fun x h => by
      unfold B_X4_readClause_58
      rw [h]
      simp (disch := omega) only [gic_1_4, gic_5_0, gic_5_1, gic_5_2, gic_5_3, gic_5_4, ob_some, lit, eq_T, eq_F, le_T, le_F, reduceIte]
    by_cases c : n = 0
    · rw [if_pos c]
      subst c
      rcases hG with ⟨-, hZ⟩ | ⟨h, -⟩
      · obtain ⟨m1, a1, a2, a3, a4, a5, a6⟩ := plC (q := q) hT h3 h2 hel hZ
        refine ⟨m1, ?_, a2, a3, a4, a5, fun h => ⟨(a6 h).1, by omega, (a6 h).2⟩⟩
        rw [r2 (by omega), if_pos rfl, r4, a1]
        · rfl
        · unfold F_X4_mayStand
          simp (disch := omega) only [gic_1_4, gic_5_0, gic_5_1, gic_5_2, gic_5_3, gic_5_4, ob_some, lit, eq_T, eq_F, le_T, le_F, reduceIte, rz1]
      · omega
    · rw [if_neg c]
      refine bad 4 (by omega) ?_
      by_cases d : n < 40
      · rw [r2 d, if_neg c, r3]
        unfold F_X4_mayStand
        simp (disch := omega) only [gic_1_4, gic_5_0, gic_5_1, gic_5_2, gic_5_3, gic_5_4, ob_some, lit, eq_T, eq_F, le_T, le_F, reduceIte, rz0]
      · exact r40 (by omega)
  by_cases k0 : wix T s = 0
  · have e1 : sgn1 T s = 300 := (sg_w hb (by omega)).mpr k0
    rw [e1, sI_n (by omega)] at h4
    have e2 := end_w (T := T) (s := s) (by omega)
    have e3 : (wd 0).length = 6 := rfl
    rw [k0, e3] at e2
    rw [e2] at h2 hel
    rw [if_neg k17, if_pos k0]
    have r1 : F_X4_readClause 1 5 (nI n) (KS, m, q) = B_X4_readClause_41 1 5 (nI n) (nI 300) (KS, m, q) := by
      unfold F_X4_readClause
      simp (disch := omega) only [gic_1_4, gic_5_0, gic_5_1, gic_5_2, gic_5_3, gic_5_4, ob_some, lit, eq_T, eq_F, le_T, le_F, reduceIte, h4]
    have rb : B_X4_readClause_64 1 (KS, m, q) = some ((), (KS, mk_u2 m 1 3 (nI (1 + 8 * s + 4)), q)) := by
      unfold B_X4_readClause_64
      simp only [lit, fl4, ob_some]
    have r40 : 40 ≤ n → F_X4_readClause 1 5 (nI n) (KS, m, q) = some ((), (KS, mk_u2 m 1 3 (nI (1 + 8 * s + 4)), q)) := fun h => by
      rw [r1, ← rb]
      unfold B_X4_readClause_41
      simp (disch := omega) only [gic_1_4, gic_5_0, gic_5_1, gic_5_2, gic_5_3, gic_5_4, ob_some, lit, eq_T, eq_F, le_T, le_F, reduceIte]
    have r2 : n < 40 → F_X4_readClause 1 5 (nI n) (KS, m, q) = B_X4_readClause_58 1 5 (nI 300) (nI 300) 5 (if n = 0 then nI 1 else nI 0) (KS, m, q) := fun h => by
      rw [r1]
      unfold B_X4_readClause_41
      by_cases z : n = 0
      · subst z
        simp (disch := omega) only [gic_1_4, gic_5_0, gic_5_1, gic_5_2, gic_5_3, gic_5_4, ob_some, lit, eq_T, eq_F, le_T, le_F, reduceIte]
      · simp (disch := omega) only [gic_1_4, gic_5_0, gic_5_1, gic_5_2, gic_5_3, gic_5_4, ob_some, lit, eq_T, eq_F, le_T, le_F, reduceIte, z]
    have r3 : ∀ x, F_X4_mayStand (nI 300) 5 x (KS, m, q) = some (nI 0, (KS, m, q)) → B_X4_readClause_58 1 5 (nI 300) (nI 300) 5 x (KS, m, q) = some ((), (KS, mk_u2 m 1 3 (nI (1 + 8 * s + 4)), q)) := fun x h => by
      rw [← rb]
      unfold B_X4_readClause_58
      rw [h]
      simp (disch := omega) only [gic_1_4, gic_5_0, gic_5_1, gic_5_2, gic_5_3, gic_5_4, ob_some, lit, eq_T, eq_F, le_T, le_F, reduceIte]
    have r4 : ∀ x, F_X4_mayStand (nI 300) 5 x (KS, m, q) = some (nI 1, (KS, m, q)) → B_X4_readClause_58 1 5 (nI 300) (nI 300) 5 x (KS, m, q) = (F_X4_readPerson 1 5 (KS, m, q)).bind fun z => some ((), z.2) := fun x h => by
      unfold B_X4_readClause_58
      rw [h]
      simp (disch := omega) only [gic_1_4, gic_5_0, gic_5_1, gic_5_2, gic_5_3, gic_5_4, ob_some, lit, eq_T, eq_F, le_T, le_F, reduceIte]
    by_cases c : n ≠ 0 ∧ n < 40 ∧ D 0 2 < 6
    · rw [if_pos c]
      obtain ⟨c0, c1, c2⟩ := c
      rcases hG with ⟨h, -⟩ | ⟨-, hP⟩
      · omega
      · obtain ⟨g0, g1, g2, g3, g4⟩ := hP.at
        obtain ⟨m1, a1, a2, a3, a4, a5, a6⟩ := peC (q := q) hT h3 h2 hel hP c2
        refine ⟨m1, ?_, a2, a3, a4, a5, fun h => ⟨(a6 h).1, by omega, (a6 h).2⟩⟩
        rw [r2 (by omega), if_neg c0, r4, a1]
        · rfl
        · unfold F_X4_mayStand
          simp (disch := omega) only [gic_1_4, gic_5_0, gic_5_1, gic_5_2, gic_5_3, gic_5_4, ob_some, lit, eq_T, eq_F, le_T, le_F, reduceIte, g2, g3, g4, rz1]
    · rw [if_neg c]
      refine bad 4 (by omega) ?_
      by_cases d : n < 40
      · rcases hG with ⟨h, -⟩ | ⟨h, hP⟩
        · rw [r2 d, if_pos h, r3]
          unfold F_X4_mayStand B_X4_mayStand_55
          simp (disch := omega) only [gic_1_4, gic_5_0, gic_5_1, gic_5_2, gic_5_3, gic_5_4, ob_some, lit, eq_T, eq_F, le_T, le_F, reduceIte, rz0]
        · obtain ⟨g0, g1, g2, g3, g4⟩ := hP.at
          have h6 : 6 ≤ D 0 2 := by omega
          have h7 := hP.2.1
          rw [r2 d, if_neg (by omega), r3]
          unfold F_X4_mayStand B_X4_mayStand_55
          simp (disch := omega) only [gic_1_4, gic_5_0, gic_5_1, gic_5_2, gic_5_3, gic_5_4, ob_some, lit, eq_T, eq_F, le_T, le_F, reduceIte, g2, g3, g4, rz0]
      · exact r40 (by omega)
  by_cases k18 : wix T s = 18
  · have e1 : sgn1 T s = 318 := (sg_w hb (by omega)).mpr k18
    rw [e1, sI_n (by omega)] at h4
    have e2 := end_w (T := T) (s := s) (by omega)
    have e3 : (wd 18).length = 4 := rfl
    rw [k18, e3] at e2
    rw [e2] at h2 hel
    rw [if_neg k17, if_neg k0, if_pos k18]
    have r1 : F_X4_readClause 1 5 (nI n) (KS, m, q) = B_X4_readClause_41 1 5 (nI n) (nI 318) (KS, m, q) := by
      unfold F_X4_readClause
      simp (disch := omega) only [gic_1_4, gic_5_0, gic_5_1, gic_5_2, gic_5_3, gic_5_4, ob_some, lit, eq_T, eq_F, le_T, le_F, reduceIte, h4]
    have rb : B_X4_readClause_64 1 (KS, m, q) = some ((), (KS, mk_u2 m 1 3 (nI (1 + 8 * s + 4)), q)) := by
      unfold B_X4_readClause_64
      simp only [lit, fl4, ob_some]
    have r40 : 40 ≤ n → F_X4_readClause 1 5 (nI n) (KS, m, q) = some ((), (KS, mk_u2 m 1 3 (nI (1 + 8 * s + 4)), q)) := fun h => by
      rw [r1, ← rb]
      unfold B_X4_readClause_41
      simp (disch := omega) only [gic_1_4, gic_5_0, gic_5_1, gic_5_2, gic_5_3, gic_5_4, ob_some, lit, eq_T, eq_F, le_T, le_F, reduceIte]
    have r2 : n < 40 → F_X4_readClause 1 5 (nI n) (KS, m, q) = B_X4_readClause_58 1 5 (nI 318) (nI 318) 5 (if n = 0 then nI 1 else nI 0) (KS, m, q) := fun h => by
      rw [r1]
      unfold B_X4_readClause_41
      by_cases z : n = 0
      · subst z
        simp (disch := omega) only [gic_1_4, gic_5_0, gic_5_1, gic_5_2, gic_5_3, gic_5_4, ob_some, lit, eq_T, eq_F, le_T, le_F, reduceIte]
      · simp (disch := omega) only [gic_1_4, gic_5_0, gic_5_1, gic_5_2, gic_5_3, gic_5_4, ob_some, lit, eq_T, eq_F, le_T, le_F, reduceIte, z]
    have r3 : ∀ x, F_X4_mayStand (nI 318) 5 x (KS, m, q) = some (nI 0, (KS, m, q)) → B_X4_readClause_58 1 5 (nI 318) (nI 318) 5 x (KS, m, q) = some ((), (KS, mk_u2 m 1 3 (nI (1 + 8 * s + 4)), q)) := fun x h => by
      rw [← rb]
      unfold B_X4_readClause_58
      rw [h]
      simp (disch := omega) only [gic_1_4, gic_5_0, gic_5_1, gic_5_2, gic_5_3, gic_5_4, ob_some, lit, eq_T, eq_F, le_T, le_F, reduceIte]
    have r4 : ∀ x, F_X4_mayStand (nI 318) 5 x (KS, m, q) = some (nI 1, (KS, m, q)) → B_X4_readClause_58 1 5 (nI 318) (nI 318) 5 x (KS, m, q) = (F_X4_readMill 1 5 (KS, m, q)).bind fun z => some ((), z.2) := fun x h => by
      unfold B_X4_readClause_58
      rw [h]
      simp (disch := omega) only [gic_1_4, gic_5_0, gic_5_1, gic_5_2, gic_5_3, gic_5_4, ob_some, lit, eq_T, eq_F, le_T, le_F, reduceIte]
    by_cases c : n ≠ 0 ∧ n < 40 ∧ D 0 3 < 4
    · rw [if_pos c]
      obtain ⟨c0, c1, c2⟩ := c
      rcases hG with ⟨h, -⟩ | ⟨-, hP⟩
      · omega
      · obtain ⟨g0, g1, g2, g3, g4⟩ := hP.at
        obtain ⟨m1, a1, a2, a3, a4, a5, a6⟩ := miC (q := q) hT h3 h2 hel hP c2
        refine ⟨m1, ?_, a2, a3, a4, a5, fun h => ⟨(a6 h).1, by omega, (a6 h).2⟩⟩
        rw [r2 (by omega), if_neg c0, r4, a1]
        · rfl
        · unfold F_X4_mayStand
          simp (disch := omega) only [gic_1_4, gic_5_0, gic_5_1, gic_5_2, gic_5_3, gic_5_4, ob_some, lit, eq_T, eq_F, le_T, le_F, reduceIte, g2, g3, g4, rz1]
    · rw [if_neg c]
      refine bad 4 (by omega) ?_
      by_cases d : n < 40
      · rcases hG with ⟨h, -⟩ | ⟨h, hP⟩
        · rw [r2 d, if_pos h, r3]
          unfold F_X4_mayStand B_X4_mayStand_73
          simp (disch := omega) only [gic_1_4, gic_5_0, gic_5_1, gic_5_2, gic_5_3, gic_5_4, ob_some, lit, eq_T, eq_F, le_T, le_F, reduceIte, rz0]
        · obtain ⟨g0, g1, g2, g3, g4⟩ := hP.at
          have h6 : 4 ≤ D 0 3 := by omega
          have h7 := hP.2.1
          rw [r2 d, if_neg (by omega), r3]
          unfold F_X4_mayStand B_X4_mayStand_73
          simp (disch := omega) only [gic_1_4, gic_5_0, gic_5_1, gic_5_2, gic_5_3, gic_5_4, ob_some, lit, eq_T, eq_F, le_T, le_F, reduceIte, g2, g3, g4, rz0]
      · exact r40 (by omega)
  by_cases k19 : wix T s = 19
  · have e1 : sgn1 T s = 319 := (sg_w hb (by omega)).mpr k19
    rw [e1, sI_n (by omega)] at h4
    have e2 := end_w (T := T) (s := s) (by omega)
    have e3 : (wd 19).length = 4 := rfl
    rw [k19, e3] at e2
    rw [e2] at h2 hel
    rw [if_neg k17, if_neg k0, if_neg k18, if_pos k19]
    have r1 : F_X4_readClause 1 5 (nI n) (KS, m, q) = B_X4_readClause_41 1 5 (nI n) (nI 319) (KS, m, q) := by
      unfold F_X4_readClause
      simp (disch := omega) only [gic_1_4, gic_5_0, gic_5_1, gic_5_2, gic_5_3, gic_5_4, ob_some, lit, eq_T, eq_F, le_T, le_F, reduceIte, h4]
    have rb : B_X4_readClause_64 1 (KS, m, q) = some ((), (KS, mk_u2 m 1 3 (nI (1 + 8 * s + 4)), q)) := by
      unfold B_X4_readClause_64
      simp only [lit, fl4, ob_some]
    have r40 : 40 ≤ n → F_X4_readClause 1 5 (nI n) (KS, m, q) = some ((), (KS, mk_u2 m 1 3 (nI (1 + 8 * s + 4)), q)) := fun h => by
      rw [r1, ← rb]
      unfold B_X4_readClause_41
      simp (disch := omega) only [gic_1_4, gic_5_0, gic_5_1, gic_5_2, gic_5_3, gic_5_4, ob_some, lit, eq_T, eq_F, le_T, le_F, reduceIte]
    have r2 : n < 40 → F_X4_readClause 1 5 (nI n) (KS, m, q) = B_X4_readClause_58 1 5 (nI 319) (nI 319) 5 (if n = 0 then nI 1 else nI 0) (KS, m, q) := fun h => by
      rw [r1]
      unfold B_X4_readClause_41
      by_cases z : n = 0
      · subst z
        simp (disch := omega) only [gic_1_4, gic_5_0, gic_5_1, gic_5_2, gic_5_3, gic_5_4, ob_some, lit, eq_T, eq_F, le_T, le_F, reduceIte]
      · simp (disch := omega) only [gic_1_4, gic_5_0, gic_5_1, gic_5_2, gic_5_3, gic_5_4, ob_some, lit, eq_T, eq_F, le_T, le_F, reduceIte, z]
    have r3 : ∀ x, F_X4_mayStand (nI 319) 5 x (KS, m, q) = some (nI 0, (KS, m, q)) → B_X4_readClause_58 1 5 (nI 319) (nI 319) 5 x (KS, m, q) = some ((), (KS, mk_u2 m 1 3 (nI (1 + 8 * s + 4)), q)) := fun x h => by
      rw [← rb]
      unfold B_X4_readClause_58
      rw [h]
      simp (disch := omega) only [gic_1_4, gic_5_0, gic_5_1, gic_5_2, gic_5_3, gic_5_4, ob_some, lit, eq_T, eq_F, le_T, le_F, reduceIte]
    have r4 : ∀ x, F_X4_mayStand (nI 319) 5 x (KS, m, q) = some (nI 1, (KS, m, q)) → B_X4_readClause_58 1 5 (nI 319) (nI 319) 5 x (KS, m, q) = (F_X4_readRoof 1 5 (KS, m, q)).bind fun z => some ((), z.2) := fun x h => by
      unfold B_X4_readClause_58
      rw [h]
      simp (disch := omega) only [gic_1_4, gic_5_0, gic_5_1, gic_5_2, gic_5_3, gic_5_4, ob_some, lit, eq_T, eq_F, le_T, le_F, reduceIte]
    by_cases c : n ≠ 0 ∧ n < 40 ∧ D 0 4 < 4
    · rw [if_pos c]
      obtain ⟨c0, c1, c2⟩ := c
      rcases hG with ⟨h, -⟩ | ⟨-, hP⟩
      · omega
      · obtain ⟨g0, g1, g2, g3, g4⟩ := hP.at
        obtain ⟨m1, a1, a2, a3, a4, a5, a6⟩ := roC (q := q) hT h3 h2 hel hP c2
        refine ⟨m1, ?_, a2, a3, a4, a5, fun h => ⟨(a6 h).1, by omega, (a6 h).2⟩⟩
        rw [r2 (by omega), if_neg c0, r4, a1]
        · rfl
        · unfold F_X4_mayStand
          simp (disch := omega) only [gic_1_4, gic_5_0, gic_5_1, gic_5_2, gic_5_3, gic_5_4, ob_some, lit, eq_T, eq_F, le_T, le_F, reduceIte, g2, g3, g4, rz1]
    · rw [if_neg c]
      refine bad 4 (by omega) ?_
      by_cases d : n < 40
      · rcases hG with ⟨h, -⟩ | ⟨h, hP⟩
        · rw [r2 d, if_pos h, r3]
          unfold F_X4_mayStand B_X4_mayStand_91
          simp (disch := omega) only [gic_1_4, gic_5_0, gic_5_1, gic_5_2, gic_5_3, gic_5_4, ob_some, lit, eq_T, eq_F, le_T, le_F, reduceIte, rz0]
        · obtain ⟨g0, g1, g2, g3, g4⟩ := hP.at
          have h6 : 4 ≤ D 0 4 := by omega
          have h7 := hP.2.1
          rw [r2 d, if_neg (by omega), r3]
          unfold F_X4_mayStand B_X4_mayStand_91
          simp (disch := omega) only [gic_1_4, gic_5_0, gic_5_1, gic_5_2, gic_5_3, gic_5_4, ob_some, lit, eq_T, eq_F, le_T, le_F, reduceIte, g2, g3, g4, rz0]
      · exact r40 (by omega)
  rw [if_neg k17, if_neg k0, if_neg k18, if_neg k19]
  refine bad 0 (by omega) ?_
  have n17 : sgn1 T s ≠ 317 := fun h => k17 ((sg_w hb (by omega)).mp h)
  have n0 : sgn1 T s ≠ 300 := fun h => k0 ((sg_w hb (by omega)).mp h)
  have n18 : sgn1 T s ≠ 318 := fun h => k18 ((sg_w hb (by omega)).mp h)
  have n19 : sgn1 T s ≠ 319 := fun h => k19 ((sg_w hb (by omega)).mp h)
  have hsg := sg_lt (T := T) (s := s) hb
  unfold F_X4_readClause
  simp (disch := omega) only [ob_some, reduceIte, lit, le_T, le_F, lt_T, lt_F, eq_T, eq_F, nI_add, gac_0_0, gac_0_1, gac_0_2, gac_0_3, gac_0_4, gac_0_5, gac_0_6, gac_1_0, gic_1_1, gic_1_2, gic_1_3, gic_1_4, gic_1_5, gic_1_6, gac_3_0, gic_3_1, gic_3_2, gic_3_3, gic_3_4, gic_3_5, gic_3_6, gic_3_7, gic_5_0, gic_5_1, gic_5_2, gic_5_3, gic_5_4, gac_5_5, gac_5_6, gac_5_7, gac_5_8, gac_5_9, gac_5_10, gac_5_11, gac_13_0, gac_13_1, gic_13_2, gac_13_3, gac_13_4, gac_13_5, gac_13_6, gac_13_7, gac_13_8, gac_13_9, gic_13_10, gic_13_11, gic_13_12, gic_13_13, gac_14_0, gac_14_1, gac_14_2, gac_14_3, gic_14_4, gic_14_5, gic_15_0, gic_15_1, gic_15_2, gic_15_3, gic_15_4, gac_15_5, gac_15_6, gac_15_7, gac_15_8, gac_15_9, gac_15_10, gac_15_11, gac_23_0, gac_23_1, gac_23_2, gac_23_3, gac_23_4, gac_23_5, gac_23_6, gic_23_7, gic_23_8, gac_31_0, gic_31_1, gic_31_2, gac_193_0, gac_193_1, gac_193_2, gic_193_3, gac_198_0, gac_200_0, gac_200_1, gac_200_2, gac_200_3, gac_200_4, gac_200_5, gac_200_6, gic_200_7, gic_200_8, pic_1_1, pic_1_2, pic_1_3, pic_1_4, pic_1_5, pic_1_6, pic_3_1, pic_3_2, pic_3_3, pic_3_4, pic_3_5, pic_3_6, pic_3_7, pic_5_0, pic_5_1, pic_5_2, pic_5_3, pic_5_4, pic_13_2, pic_13_10, pic_13_11, pic_13_12, pic_13_13, pic_14_4, pic_14_5, pic_15_0, pic_15_1, pic_15_2, pic_15_3, pic_15_4, pic_23_7, pic_23_8, pic_31_1, pic_31_2, pic_193_3, pic_200_7, pic_200_8, gdc_0, gdc_1, gdc_3, gdc_5, gdc_13, gdc_14, gdc_15, gdc_23, gdc_31, gdc_193, gdc_198, gdc_200, ldc_2, stc_2, ldc_4, stc_4, ldc_6, stc_6, ldc_7, stc_7, ldc_8, stc_8, ldc_9, stc_9, ldc_10, stc_10, ldc_11, stc_11, ldc_12, stc_12, ldc_16, stc_16, ldc_17, stc_17, ldc_18, stc_18, ldc_19, stc_19, ldc_20, stc_20, ldc_21, stc_21, ldc_22, stc_22, ldc_24, stc_24, ldc_25, stc_25, ldc_26, stc_26, ldc_27, stc_27, ldc_28, stc_28, ldc_29, stc_29, ldc_30, stc_30, ldc_194, stc_194, ldc_195, stc_195, ldc_196, stc_196, ldc_199, stc_199, ldc_201, stc_201, ldc_202, stc_202, ldc_203, stc_203, ldc_204, stc_204, ldc_205, stc_205, ldc_206, stc_206, ldc_207, stc_207, ldc_208, stc_208, ldc_209, stc_209, ldc_210, stc_210, ldc_211, stc_211, ldc_213, stc_213, ldc_214, stc_214, ldc_215, stc_215, ldc_216, stc_216, ldc_217, stc_217, ldc_218, stc_218, ldc_219, stc_219, ldc_263, stc_263, lda_197, lda_262, lda_212, lda_32, u2_s, u2_a, u2_b, h4, sI_eqc, n17, n0, n18, n19, fl0]
/-- a PLATEAU's text from a clause on: the fault, and what is told -/
def plz (T : TT) : Nat → Nat → Nat → (Nat → Nat → Nat) → Nat × (Nat → Nat → Nat)
  | 0, _, _, D => (1, D)
  | f + 1, n, a, D => if (clz T n a D).1 = 0 then (if bt T (sp isB T (clz T n a D).2.1) = 59 then plz T f (n + 1) (sp isB T (clz T n a D).2.1 + 1) (clz T n a D).2.2 else if bt T (sp isB T (clz T n a D).2.1) = 1000 then (0, (clz T n a D).2.2) else (1 + 8 * sp isB T (clz T n a D).2.1 + 0, D)) else ((clz T n a D).1, D)
set_option maxRecDepth 4000 in
theorem plL {T : TT} {q : Nat → Nat → Int64} : ∀ (d n a f : Nat) (m : Nat → Nat → Int32) (D : Nat → Nat → Nat), n + d = 40 → d + 2 < f → TC T m → m 1 3 = nI 0 → m 1 2 = nI a → a ≤ T.1 → GP n (blk m 5) D → ∃ m1, B_X4_read_12 f 1 5 (nI 1) (nI n) (KS, m, q) = some (nI (plz T (d + 1) n a D).1, (KS, m1, q)) ∧ FrP m m1 ∧ (plz T (d + 1) n a D).1 < 100000 ∧ ((plz T (d + 1) n a D).1 = 0 → PR (blk m1 5) (plz T (d + 1) n a D).2) := by
  intro d
  induction d with
  | zero =>
    intro n a f m D hn hf hT h3 h2 ha hG
    obtain ⟨f, rfl⟩ : ∃ g, f = g + 1 := ⟨f - 1, by omega⟩
    obtain ⟨f, rfl⟩ : ∃ g, f = g + 1 := ⟨f - 1, by omega⟩
    have hn : n = 40 := by omega
    subst hn
    obtain ⟨ma, a1, a2, a3, a4, a5, a6⟩ := advC (q := q) hT h2 ha rfl
    obtain ⟨mb, b1, b2, b3, b4, b5, b6⟩ := rcC (q := q) (m := ma) (n := 40) (D := D) (hT.tf a2) (by rw [a2.2.2]; exact h3) rfl ha a3 a4 a5 (by omega) (by
      rcases hG with ⟨h, -⟩ | ⟨h, hP⟩
      · omega
      · exact .inr ⟨h, hP.keep (fun j _ => a2.1 _ (by omega))⟩)
    have c0 : (clz T 40 a D).1 ≠ 0 := fun h => by have := (b6 h).2.1; omega
    have ep : plz T (0 + 1) 40 a D = ((clz T 40 a D).1, D) := by unfold plz; rw [if_neg c0]
    rw [ep]
    have sd := sdC (q := q) b3 b4
    rw [decide_eq_false c0, bI_F] at sd
    refine ⟨mb, ?_, (FrP.rf.tg a2.g).trans b2, b4, fun h => absurd h c0⟩
    rw [B_X4_read_12]
    simp (disch := omega) only [ob_some, reduceIte, lit, le_T, le_F, lt_T, lt_F, eq_T, eq_F, nI_add, gac_0_0, gac_0_1, gac_0_2, gac_0_3, gac_0_4, gac_0_5, gac_0_6, gac_1_0, gic_1_1, gic_1_2, gic_1_3, gic_1_4, gic_1_5, gic_1_6, gac_3_0, gic_3_1, gic_3_2, gic_3_3, gic_3_4, gic_3_5, gic_3_6, gic_3_7, gic_5_0, gic_5_1, gic_5_2, gic_5_3, gic_5_4, gac_5_5, gac_5_6, gac_5_7, gac_5_8, gac_5_9, gac_5_10, gac_5_11, gac_13_0, gac_13_1, gic_13_2, gac_13_3, gac_13_4, gac_13_5, gac_13_6, gac_13_7, gac_13_8, gac_13_9, gic_13_10, gic_13_11, gic_13_12, gic_13_13, gac_14_0, gac_14_1, gac_14_2, gac_14_3, gic_14_4, gic_14_5, gic_15_0, gic_15_1, gic_15_2, gic_15_3, gic_15_4, gac_15_5, gac_15_6, gac_15_7, gac_15_8, gac_15_9, gac_15_10, gac_15_11, gac_23_0, gac_23_1, gac_23_2, gac_23_3, gac_23_4, gac_23_5, gac_23_6, gic_23_7, gic_23_8, gac_31_0, gic_31_1, gic_31_2, gac_193_0, gac_193_1, gac_193_2, gic_193_3, gac_198_0, gac_200_0, gac_200_1, gac_200_2, gac_200_3, gac_200_4, gac_200_5, gac_200_6, gic_200_7, gic_200_8, pic_1_1, pic_1_2, pic_1_3, pic_1_4, pic_1_5, pic_1_6, pic_3_1, pic_3_2, pic_3_3, pic_3_4, pic_3_5, pic_3_6, pic_3_7, pic_5_0, pic_5_1, pic_5_2, pic_5_3, pic_5_4, pic_13_2, pic_13_10, pic_13_11, pic_13_12, pic_13_13, pic_14_4, pic_14_5, pic_15_0, pic_15_1, pic_15_2, pic_15_3, pic_15_4, pic_23_7, pic_23_8, pic_31_1, pic_31_2, pic_193_3, pic_200_7, pic_200_8, gdc_0, gdc_1, gdc_3, gdc_5, gdc_13, gdc_14, gdc_15, gdc_23, gdc_31, gdc_193, gdc_198, gdc_200, ldc_2, stc_2, ldc_4, stc_4, ldc_6, stc_6, ldc_7, stc_7, ldc_8, stc_8, ldc_9, stc_9, ldc_10, stc_10, ldc_11, stc_11, ldc_12, stc_12, ldc_16, stc_16, ldc_17, stc_17, ldc_18, stc_18, ldc_19, stc_19, ldc_20, stc_20, ldc_21, stc_21, ldc_22, stc_22, ldc_24, stc_24, ldc_25, stc_25, ldc_26, stc_26, ldc_27, stc_27, ldc_28, stc_28, ldc_29, stc_29, ldc_30, stc_30, ldc_194, stc_194, ldc_195, stc_195, ldc_196, stc_196, ldc_199, stc_199, ldc_201, stc_201, ldc_202, stc_202, ldc_203, stc_203, ldc_204, stc_204, ldc_205, stc_205, ldc_206, stc_206, ldc_207, stc_207, ldc_208, stc_208, ldc_209, stc_209, ldc_210, stc_210, ldc_211, stc_211, ldc_213, stc_213, ldc_214, stc_214, ldc_215, stc_215, ldc_216, stc_216, ldc_217, stc_217, ldc_218, stc_218, ldc_219, stc_219, ldc_263, stc_263, lda_197, lda_262, lda_212, lda_32, u2_s, u2_a, u2_b, a1, b1, sd, B_X4_read_43, B_X4_read_63, B_X4_read_64]
    rw [B_X4_read_12]
    simp (disch := omega) only [ob_some, reduceIte, lit, le_T, le_F, lt_T, lt_F, eq_T, eq_F, nI_add, gac_0_0, gac_0_1, gac_0_2, gac_0_3, gac_0_4, gac_0_5, gac_0_6, gac_1_0, gic_1_1, gic_1_2, gic_1_3, gic_1_4, gic_1_5, gic_1_6, gac_3_0, gic_3_1, gic_3_2, gic_3_3, gic_3_4, gic_3_5, gic_3_6, gic_3_7, gic_5_0, gic_5_1, gic_5_2, gic_5_3, gic_5_4, gac_5_5, gac_5_6, gac_5_7, gac_5_8, gac_5_9, gac_5_10, gac_5_11, gac_13_0, gac_13_1, gic_13_2, gac_13_3, gac_13_4, gac_13_5, gac_13_6, gac_13_7, gac_13_8, gac_13_9, gic_13_10, gic_13_11, gic_13_12, gic_13_13, gac_14_0, gac_14_1, gac_14_2, gac_14_3, gic_14_4, gic_14_5, gic_15_0, gic_15_1, gic_15_2, gic_15_3, gic_15_4, gac_15_5, gac_15_6, gac_15_7, gac_15_8, gac_15_9, gac_15_10, gac_15_11, gac_23_0, gac_23_1, gac_23_2, gac_23_3, gac_23_4, gac_23_5, gac_23_6, gic_23_7, gic_23_8, gac_31_0, gic_31_1, gic_31_2, gac_193_0, gac_193_1, gac_193_2, gic_193_3, gac_198_0, gac_200_0, gac_200_1, gac_200_2, gac_200_3, gac_200_4, gac_200_5, gac_200_6, gic_200_7, gic_200_8, pic_1_1, pic_1_2, pic_1_3, pic_1_4, pic_1_5, pic_1_6, pic_3_1, pic_3_2, pic_3_3, pic_3_4, pic_3_5, pic_3_6, pic_3_7, pic_5_0, pic_5_1, pic_5_2, pic_5_3, pic_5_4, pic_13_2, pic_13_10, pic_13_11, pic_13_12, pic_13_13, pic_14_4, pic_14_5, pic_15_0, pic_15_1, pic_15_2, pic_15_3, pic_15_4, pic_23_7, pic_23_8, pic_31_1, pic_31_2, pic_193_3, pic_200_7, pic_200_8, gdc_0, gdc_1, gdc_3, gdc_5, gdc_13, gdc_14, gdc_15, gdc_23, gdc_31, gdc_193, gdc_198, gdc_200, ldc_2, stc_2, ldc_4, stc_4, ldc_6, stc_6, ldc_7, stc_7, ldc_8, stc_8, ldc_9, stc_9, ldc_10, stc_10, ldc_11, stc_11, ldc_12, stc_12, ldc_16, stc_16, ldc_17, stc_17, ldc_18, stc_18, ldc_19, stc_19, ldc_20, stc_20, ldc_21, stc_21, ldc_22, stc_22, ldc_24, stc_24, ldc_25, stc_25, ldc_26, stc_26, ldc_27, stc_27, ldc_28, stc_28, ldc_29, stc_29, ldc_30, stc_30, ldc_194, stc_194, ldc_195, stc_195, ldc_196, stc_196, ldc_199, stc_199, ldc_201, stc_201, ldc_202, stc_202, ldc_203, stc_203, ldc_204, stc_204, ldc_205, stc_205, ldc_206, stc_206, ldc_207, stc_207, ldc_208, stc_208, ldc_209, stc_209, ldc_210, stc_210, ldc_211, stc_211, ldc_213, stc_213, ldc_214, stc_214, ldc_215, stc_215, ldc_216, stc_216, ldc_217, stc_217, ldc_218, stc_218, ldc_219, stc_219, ldc_263, stc_263, lda_197, lda_262, lda_212, lda_32, u2_s, u2_a, u2_b, sd, B_X4_read_71, b3]
  | succ d ih =>
    intro n a f m D hn hf hT h3 h2 ha hG
    obtain ⟨f, rfl⟩ : ∃ g, f = g + 1 := ⟨f - 1, by omega⟩
    obtain ⟨ma, a1, a2, a3, a4, a5, a6⟩ := advC (q := q) hT h2 ha rfl
    obtain ⟨mb, b1, b2, b3, b4, b5, b6⟩ := rcC (q := q) (m := ma) (n := n) (D := D) (hT.tf a2) (by rw [a2.2.2]; exact h3) rfl ha a3 a4 a5 (by omega) (by
      rcases hG with ⟨h, hZ⟩ | ⟨h, hP⟩
      · refine .inl ⟨h, hZ.1, ?_⟩
        show ma 5 2 = nI 0 ∧ ma 5 3 = nI 0 ∧ ma 5 4 = nI 0
        rw [a2.1 5 (by omega)]; exact hZ.2
      · exact .inr ⟨h, hP.keep (fun j _ => a2.1 _ (by omega))⟩)
    have fB : FrP m mb := (FrP.rf.tg a2.g).trans b2
    unfold plz
    by_cases c0 : (clz T n a D).1 = 0
    · rw [if_pos c0]
      obtain ⟨b7, b8, b9⟩ := b6 c0
      rw [c0] at b3
      have sd := sdC (q := q) b3 (by omega)
      rw [decide_eq_true rfl, bI_T] at sd
      have hTb := hT.fp fB
      have hl := hT.2.1
      obtain ⟨mc, c1, c2, c3, c4, c5, c6⟩ := advC (q := q) hTb b7 b5 rfl
      have hbs := hT.b (sp isB T (clz T n a D).2.1)
      have hsl : sp isB T (clz T n a D).2.1 ≤ T.1 := sp_le hB b5
      generalize sp isB T (clz T n a D).2.1 = s at *
      have hPc : PR (blk mc 5) (clz T n a D).2.2 := b9.keep (fun j _ => c2.1 _ (by omega))
      generalize (clz T n a D).2.2 = D1 at *
      have c33 : mc 1 3 = nI 0 := by rw [c2.2.2]; exact b3
      have sdc := sdC (q := q) c33 (by omega)
      rw [decide_eq_true rfl, bI_T] at sdc
      have fC : FrP m mc := fB.tg c2.g
      have hsg := sg_lt (T := T) (s := s) hbs
      by_cases d59 : bt T s = 59
      · rw [if_pos d59]
        have e1 : sgn1 T s = 59 := (sg_b hbs (by omega) rfl rfl (by omega) (by omega)).mpr d59
        have e2 : end1 T s = s + 1 := end_b (by rw [d59]; rfl) (by rw [d59]; rfl) (by omega) (by omega) (by omega)
        have hel := (end1_le hsl).2.1
        rw [e1, sI_n (by omega)] at c5
        rw [e2] at c3 hel
        obtain ⟨m1, r1, r2, r3, r4⟩ := ih (n + 1) (s + 1) f mc D1 (by omega) (by omega) (hT.fp fC) c33 c3 hel (.inr ⟨by omega, hPc⟩)
        refine ⟨m1, ?_, fC.trans r2, r3, r4⟩
        rw [← r1, B_X4_read_12]
        simp (disch := omega) only [ob_some, reduceIte, lit, le_T, le_F, lt_T, lt_F, eq_T, eq_F, nI_add, gac_0_0, gac_0_1, gac_0_2, gac_0_3, gac_0_4, gac_0_5, gac_0_6, gac_1_0, gic_1_1, gic_1_2, gic_1_3, gic_1_4, gic_1_5, gic_1_6, gac_3_0, gic_3_1, gic_3_2, gic_3_3, gic_3_4, gic_3_5, gic_3_6, gic_3_7, gic_5_0, gic_5_1, gic_5_2, gic_5_3, gic_5_4, gac_5_5, gac_5_6, gac_5_7, gac_5_8, gac_5_9, gac_5_10, gac_5_11, gac_13_0, gac_13_1, gic_13_2, gac_13_3, gac_13_4, gac_13_5, gac_13_6, gac_13_7, gac_13_8, gac_13_9, gic_13_10, gic_13_11, gic_13_12, gic_13_13, gac_14_0, gac_14_1, gac_14_2, gac_14_3, gic_14_4, gic_14_5, gic_15_0, gic_15_1, gic_15_2, gic_15_3, gic_15_4, gac_15_5, gac_15_6, gac_15_7, gac_15_8, gac_15_9, gac_15_10, gac_15_11, gac_23_0, gac_23_1, gac_23_2, gac_23_3, gac_23_4, gac_23_5, gac_23_6, gic_23_7, gic_23_8, gac_31_0, gic_31_1, gic_31_2, gac_193_0, gac_193_1, gac_193_2, gic_193_3, gac_198_0, gac_200_0, gac_200_1, gac_200_2, gac_200_3, gac_200_4, gac_200_5, gac_200_6, gic_200_7, gic_200_8, pic_1_1, pic_1_2, pic_1_3, pic_1_4, pic_1_5, pic_1_6, pic_3_1, pic_3_2, pic_3_3, pic_3_4, pic_3_5, pic_3_6, pic_3_7, pic_5_0, pic_5_1, pic_5_2, pic_5_3, pic_5_4, pic_13_2, pic_13_10, pic_13_11, pic_13_12, pic_13_13, pic_14_4, pic_14_5, pic_15_0, pic_15_1, pic_15_2, pic_15_3, pic_15_4, pic_23_7, pic_23_8, pic_31_1, pic_31_2, pic_193_3, pic_200_7, pic_200_8, gdc_0, gdc_1, gdc_3, gdc_5, gdc_13, gdc_14, gdc_15, gdc_23, gdc_31, gdc_193, gdc_198, gdc_200, ldc_2, stc_2, ldc_4, stc_4, ldc_6, stc_6, ldc_7, stc_7, ldc_8, stc_8, ldc_9, stc_9, ldc_10, stc_10, ldc_11, stc_11, ldc_12, stc_12, ldc_16, stc_16, ldc_17, stc_17, ldc_18, stc_18, ldc_19, stc_19, ldc_20, stc_20, ldc_21, stc_21, ldc_22, stc_22, ldc_24, stc_24, ldc_25, stc_25, ldc_26, stc_26, ldc_27, stc_27, ldc_28, stc_28, ldc_29, stc_29, ldc_30, stc_30, ldc_194, stc_194, ldc_195, stc_195, ldc_196, stc_196, ldc_199, stc_199, ldc_201, stc_201, ldc_202, stc_202, ldc_203, stc_203, ldc_204, stc_204, ldc_205, stc_205, ldc_206, stc_206, ldc_207, stc_207, ldc_208, stc_208, ldc_209, stc_209, ldc_210, stc_210, ldc_211, stc_211, ldc_213, stc_213, ldc_214, stc_214, ldc_215, stc_215, ldc_216, stc_216, ldc_217, stc_217, ldc_218, stc_218, ldc_219, stc_219, ldc_263, stc_263, lda_197, lda_262, lda_212, lda_32, u2_s, u2_a, u2_b, a1, b1, sd, c1, sdc, c5, B_X4_read_43, B_X4_read_63, B_X4_read_64]
      · rw [if_neg d59]
        have e1 : sgn1 T s ≠ 59 := fun h => d59 ((sg_b hbs (by omega) rfl rfl (by omega) (by omega)).mp h)
        obtain ⟨f, rfl⟩ : ∃ g, f = g + 1 := ⟨f - 1, by omega⟩
        by_cases dE : bt T s = 1000
        · rw [if_pos dE]
          have e2 : sgn1 T s = 1000 := (sg_b hbs (by omega) rfl rfl (by omega) (by omega)).mpr dE
          rw [e2] at c5
          have z0 : ((1000 : Nat) = 59) = False := eq_false (by omega)
          refine ⟨mc, ?_, fC, by show 0 < 100000; omega, fun _ => hPc⟩
          rw [B_X4_read_12]
          simp (disch := omega) only [ob_some, reduceIte, lit, le_T, le_F, lt_T, lt_F, eq_T, eq_F, nI_add, gac_0_0, gac_0_1, gac_0_2, gac_0_3, gac_0_4, gac_0_5, gac_0_6, gac_1_0, gic_1_1, gic_1_2, gic_1_3, gic_1_4, gic_1_5, gic_1_6, gac_3_0, gic_3_1, gic_3_2, gic_3_3, gic_3_4, gic_3_5, gic_3_6, gic_3_7, gic_5_0, gic_5_1, gic_5_2, gic_5_3, gic_5_4, gac_5_5, gac_5_6, gac_5_7, gac_5_8, gac_5_9, gac_5_10, gac_5_11, gac_13_0, gac_13_1, gic_13_2, gac_13_3, gac_13_4, gac_13_5, gac_13_6, gac_13_7, gac_13_8, gac_13_9, gic_13_10, gic_13_11, gic_13_12, gic_13_13, gac_14_0, gac_14_1, gac_14_2, gac_14_3, gic_14_4, gic_14_5, gic_15_0, gic_15_1, gic_15_2, gic_15_3, gic_15_4, gac_15_5, gac_15_6, gac_15_7, gac_15_8, gac_15_9, gac_15_10, gac_15_11, gac_23_0, gac_23_1, gac_23_2, gac_23_3, gac_23_4, gac_23_5, gac_23_6, gic_23_7, gic_23_8, gac_31_0, gic_31_1, gic_31_2, gac_193_0, gac_193_1, gac_193_2, gic_193_3, gac_198_0, gac_200_0, gac_200_1, gac_200_2, gac_200_3, gac_200_4, gac_200_5, gac_200_6, gic_200_7, gic_200_8, pic_1_1, pic_1_2, pic_1_3, pic_1_4, pic_1_5, pic_1_6, pic_3_1, pic_3_2, pic_3_3, pic_3_4, pic_3_5, pic_3_6, pic_3_7, pic_5_0, pic_5_1, pic_5_2, pic_5_3, pic_5_4, pic_13_2, pic_13_10, pic_13_11, pic_13_12, pic_13_13, pic_14_4, pic_14_5, pic_15_0, pic_15_1, pic_15_2, pic_15_3, pic_15_4, pic_23_7, pic_23_8, pic_31_1, pic_31_2, pic_193_3, pic_200_7, pic_200_8, gdc_0, gdc_1, gdc_3, gdc_5, gdc_13, gdc_14, gdc_15, gdc_23, gdc_31, gdc_193, gdc_198, gdc_200, ldc_2, stc_2, ldc_4, stc_4, ldc_6, stc_6, ldc_7, stc_7, ldc_8, stc_8, ldc_9, stc_9, ldc_10, stc_10, ldc_11, stc_11, ldc_12, stc_12, ldc_16, stc_16, ldc_17, stc_17, ldc_18, stc_18, ldc_19, stc_19, ldc_20, stc_20, ldc_21, stc_21, ldc_22, stc_22, ldc_24, stc_24, ldc_25, stc_25, ldc_26, stc_26, ldc_27, stc_27, ldc_28, stc_28, ldc_29, stc_29, ldc_30, stc_30, ldc_194, stc_194, ldc_195, stc_195, ldc_196, stc_196, ldc_199, stc_199, ldc_201, stc_201, ldc_202, stc_202, ldc_203, stc_203, ldc_204, stc_204, ldc_205, stc_205, ldc_206, stc_206, ldc_207, stc_207, ldc_208, stc_208, ldc_209, stc_209, ldc_210, stc_210, ldc_211, stc_211, ldc_213, stc_213, ldc_214, stc_214, ldc_215, stc_215, ldc_216, stc_216, ldc_217, stc_217, ldc_218, stc_218, ldc_219, stc_219, ldc_263, stc_263, lda_197, lda_262, lda_212, lda_32, u2_s, u2_a, u2_b, a1, b1, sd, c1, sdc, c5, sI_eqc, z0, B_X4_read_43, B_X4_read_63, B_X4_read_64]
          rw [B_X4_read_12]
          simp (disch := omega) only [ob_some, reduceIte, lit, le_T, le_F, lt_T, lt_F, eq_T, eq_F, nI_add, gac_0_0, gac_0_1, gac_0_2, gac_0_3, gac_0_4, gac_0_5, gac_0_6, gac_1_0, gic_1_1, gic_1_2, gic_1_3, gic_1_4, gic_1_5, gic_1_6, gac_3_0, gic_3_1, gic_3_2, gic_3_3, gic_3_4, gic_3_5, gic_3_6, gic_3_7, gic_5_0, gic_5_1, gic_5_2, gic_5_3, gic_5_4, gac_5_5, gac_5_6, gac_5_7, gac_5_8, gac_5_9, gac_5_10, gac_5_11, gac_13_0, gac_13_1, gic_13_2, gac_13_3, gac_13_4, gac_13_5, gac_13_6, gac_13_7, gac_13_8, gac_13_9, gic_13_10, gic_13_11, gic_13_12, gic_13_13, gac_14_0, gac_14_1, gac_14_2, gac_14_3, gic_14_4, gic_14_5, gic_15_0, gic_15_1, gic_15_2, gic_15_3, gic_15_4, gac_15_5, gac_15_6, gac_15_7, gac_15_8, gac_15_9, gac_15_10, gac_15_11, gac_23_0, gac_23_1, gac_23_2, gac_23_3, gac_23_4, gac_23_5, gac_23_6, gic_23_7, gic_23_8, gac_31_0, gic_31_1, gic_31_2, gac_193_0, gac_193_1, gac_193_2, gic_193_3, gac_198_0, gac_200_0, gac_200_1, gac_200_2, gac_200_3, gac_200_4, gac_200_5, gac_200_6, gic_200_7, gic_200_8, pic_1_1, pic_1_2, pic_1_3, pic_1_4, pic_1_5, pic_1_6, pic_3_1, pic_3_2, pic_3_3, pic_3_4, pic_3_5, pic_3_6, pic_3_7, pic_5_0, pic_5_1, pic_5_2, pic_5_3, pic_5_4, pic_13_2, pic_13_10, pic_13_11, pic_13_12, pic_13_13, pic_14_4, pic_14_5, pic_15_0, pic_15_1, pic_15_2, pic_15_3, pic_15_4, pic_23_7, pic_23_8, pic_31_1, pic_31_2, pic_193_3, pic_200_7, pic_200_8, gdc_0, gdc_1, gdc_3, gdc_5, gdc_13, gdc_14, gdc_15, gdc_23, gdc_31, gdc_193, gdc_198, gdc_200, ldc_2, stc_2, ldc_4, stc_4, ldc_6, stc_6, ldc_7, stc_7, ldc_8, stc_8, ldc_9, stc_9, ldc_10, stc_10, ldc_11, stc_11, ldc_12, stc_12, ldc_16, stc_16, ldc_17, stc_17, ldc_18, stc_18, ldc_19, stc_19, ldc_20, stc_20, ldc_21, stc_21, ldc_22, stc_22, ldc_24, stc_24, ldc_25, stc_25, ldc_26, stc_26, ldc_27, stc_27, ldc_28, stc_28, ldc_29, stc_29, ldc_30, stc_30, ldc_194, stc_194, ldc_195, stc_195, ldc_196, stc_196, ldc_199, stc_199, ldc_201, stc_201, ldc_202, stc_202, ldc_203, stc_203, ldc_204, stc_204, ldc_205, stc_205, ldc_206, stc_206, ldc_207, stc_207, ldc_208, stc_208, ldc_209, stc_209, ldc_210, stc_210, ldc_211, stc_211, ldc_213, stc_213, ldc_214, stc_214, ldc_215, stc_215, ldc_216, stc_216, ldc_217, stc_217, ldc_218, stc_218, ldc_219, stc_219, ldc_263, stc_263, lda_197, lda_262, lda_212, lda_32, u2_s, u2_a, u2_b, sdc, B_X4_read_71, c5, sI_end, c33]
        · rw [if_neg dE]
          have e2 : sgn1 T s ≠ 1000 := fun h => dE ((sg_b hbs (by omega) rfl rfl (by omega) (by omega)).mp h)
          have fl := flC (q := q) (c := 0) c33 c4 (by omega)
          rw [if_pos rfl] at fl
          refine ⟨mk_u2 mc 1 3 (nI (1 + 8 * s + 0)), ?_, fC.tg (TG.rf.up (by omega)), by show 1 + 8 * s + 0 < 100000; omega, fun h => by have : 1 + 8 * s + 0 = 0 := h; omega⟩
          rw [B_X4_read_12]
          simp (disch := omega) only [ob_some, reduceIte, lit, le_T, le_F, lt_T, lt_F, eq_T, eq_F, nI_add, gac_0_0, gac_0_1, gac_0_2, gac_0_3, gac_0_4, gac_0_5, gac_0_6, gac_1_0, gic_1_1, gic_1_2, gic_1_3, gic_1_4, gic_1_5, gic_1_6, gac_3_0, gic_3_1, gic_3_2, gic_3_3, gic_3_4, gic_3_5, gic_3_6, gic_3_7, gic_5_0, gic_5_1, gic_5_2, gic_5_3, gic_5_4, gac_5_5, gac_5_6, gac_5_7, gac_5_8, gac_5_9, gac_5_10, gac_5_11, gac_13_0, gac_13_1, gic_13_2, gac_13_3, gac_13_4, gac_13_5, gac_13_6, gac_13_7, gac_13_8, gac_13_9, gic_13_10, gic_13_11, gic_13_12, gic_13_13, gac_14_0, gac_14_1, gac_14_2, gac_14_3, gic_14_4, gic_14_5, gic_15_0, gic_15_1, gic_15_2, gic_15_3, gic_15_4, gac_15_5, gac_15_6, gac_15_7, gac_15_8, gac_15_9, gac_15_10, gac_15_11, gac_23_0, gac_23_1, gac_23_2, gac_23_3, gac_23_4, gac_23_5, gac_23_6, gic_23_7, gic_23_8, gac_31_0, gic_31_1, gic_31_2, gac_193_0, gac_193_1, gac_193_2, gic_193_3, gac_198_0, gac_200_0, gac_200_1, gac_200_2, gac_200_3, gac_200_4, gac_200_5, gac_200_6, gic_200_7, gic_200_8, pic_1_1, pic_1_2, pic_1_3, pic_1_4, pic_1_5, pic_1_6, pic_3_1, pic_3_2, pic_3_3, pic_3_4, pic_3_5, pic_3_6, pic_3_7, pic_5_0, pic_5_1, pic_5_2, pic_5_3, pic_5_4, pic_13_2, pic_13_10, pic_13_11, pic_13_12, pic_13_13, pic_14_4, pic_14_5, pic_15_0, pic_15_1, pic_15_2, pic_15_3, pic_15_4, pic_23_7, pic_23_8, pic_31_1, pic_31_2, pic_193_3, pic_200_7, pic_200_8, gdc_0, gdc_1, gdc_3, gdc_5, gdc_13, gdc_14, gdc_15, gdc_23, gdc_31, gdc_193, gdc_198, gdc_200, ldc_2, stc_2, ldc_4, stc_4, ldc_6, stc_6, ldc_7, stc_7, ldc_8, stc_8, ldc_9, stc_9, ldc_10, stc_10, ldc_11, stc_11, ldc_12, stc_12, ldc_16, stc_16, ldc_17, stc_17, ldc_18, stc_18, ldc_19, stc_19, ldc_20, stc_20, ldc_21, stc_21, ldc_22, stc_22, ldc_24, stc_24, ldc_25, stc_25, ldc_26, stc_26, ldc_27, stc_27, ldc_28, stc_28, ldc_29, stc_29, ldc_30, stc_30, ldc_194, stc_194, ldc_195, stc_195, ldc_196, stc_196, ldc_199, stc_199, ldc_201, stc_201, ldc_202, stc_202, ldc_203, stc_203, ldc_204, stc_204, ldc_205, stc_205, ldc_206, stc_206, ldc_207, stc_207, ldc_208, stc_208, ldc_209, stc_209, ldc_210, stc_210, ldc_211, stc_211, ldc_213, stc_213, ldc_214, stc_214, ldc_215, stc_215, ldc_216, stc_216, ldc_217, stc_217, ldc_218, stc_218, ldc_219, stc_219, ldc_263, stc_263, lda_197, lda_262, lda_212, lda_32, u2_s, u2_a, u2_b, a1, b1, sd, c1, sdc, c5, sI_eqc, e1, B_X4_read_43, B_X4_read_63, B_X4_read_64]
          rw [B_X4_read_12]
          simp (disch := omega) only [ob_some, reduceIte, lit, le_T, le_F, lt_T, lt_F, eq_T, eq_F, nI_add, gac_0_0, gac_0_1, gac_0_2, gac_0_3, gac_0_4, gac_0_5, gac_0_6, gac_1_0, gic_1_1, gic_1_2, gic_1_3, gic_1_4, gic_1_5, gic_1_6, gac_3_0, gic_3_1, gic_3_2, gic_3_3, gic_3_4, gic_3_5, gic_3_6, gic_3_7, gic_5_0, gic_5_1, gic_5_2, gic_5_3, gic_5_4, gac_5_5, gac_5_6, gac_5_7, gac_5_8, gac_5_9, gac_5_10, gac_5_11, gac_13_0, gac_13_1, gic_13_2, gac_13_3, gac_13_4, gac_13_5, gac_13_6, gac_13_7, gac_13_8, gac_13_9, gic_13_10, gic_13_11, gic_13_12, gic_13_13, gac_14_0, gac_14_1, gac_14_2, gac_14_3, gic_14_4, gic_14_5, gic_15_0, gic_15_1, gic_15_2, gic_15_3, gic_15_4, gac_15_5, gac_15_6, gac_15_7, gac_15_8, gac_15_9, gac_15_10, gac_15_11, gac_23_0, gac_23_1, gac_23_2, gac_23_3, gac_23_4, gac_23_5, gac_23_6, gic_23_7, gic_23_8, gac_31_0, gic_31_1, gic_31_2, gac_193_0, gac_193_1, gac_193_2, gic_193_3, gac_198_0, gac_200_0, gac_200_1, gac_200_2, gac_200_3, gac_200_4, gac_200_5, gac_200_6, gic_200_7, gic_200_8, pic_1_1, pic_1_2, pic_1_3, pic_1_4, pic_1_5, pic_1_6, pic_3_1, pic_3_2, pic_3_3, pic_3_4, pic_3_5, pic_3_6, pic_3_7, pic_5_0, pic_5_1, pic_5_2, pic_5_3, pic_5_4, pic_13_2, pic_13_10, pic_13_11, pic_13_12, pic_13_13, pic_14_4, pic_14_5, pic_15_0, pic_15_1, pic_15_2, pic_15_3, pic_15_4, pic_23_7, pic_23_8, pic_31_1, pic_31_2, pic_193_3, pic_200_7, pic_200_8, gdc_0, gdc_1, gdc_3, gdc_5, gdc_13, gdc_14, gdc_15, gdc_23, gdc_31, gdc_193, gdc_198, gdc_200, ldc_2, stc_2, ldc_4, stc_4, ldc_6, stc_6, ldc_7, stc_7, ldc_8, stc_8, ldc_9, stc_9, ldc_10, stc_10, ldc_11, stc_11, ldc_12, stc_12, ldc_16, stc_16, ldc_17, stc_17, ldc_18, stc_18, ldc_19, stc_19, ldc_20, stc_20, ldc_21, stc_21, ldc_22, stc_22, ldc_24, stc_24, ldc_25, stc_25, ldc_26, stc_26, ldc_27, stc_27, ldc_28, stc_28, ldc_29, stc_29, ldc_30, stc_30, ldc_194, stc_194, ldc_195, stc_195, ldc_196, stc_196, ldc_199, stc_199, ldc_201, stc_201, ldc_202, stc_202, ldc_203, stc_203, ldc_204, stc_204, ldc_205, stc_205, ldc_206, stc_206, ldc_207, stc_207, ldc_208, stc_208, ldc_209, stc_209, ldc_210, stc_210, ldc_211, stc_211, ldc_213, stc_213, ldc_214, stc_214, ldc_215, stc_215, ldc_216, stc_216, ldc_217, stc_217, ldc_218, stc_218, ldc_219, stc_219, ldc_263, stc_263, lda_197, lda_262, lda_212, lda_32, u2_s, u2_a, u2_b, sdc, B_X4_read_71, c5, sI_end, e2, fl]
    · rw [if_neg c0]
      obtain ⟨f, rfl⟩ : ∃ g, f = g + 1 := ⟨f - 1, by omega⟩
      have sd := sdC (q := q) b3 b4
      rw [decide_eq_false c0, bI_F] at sd
      refine ⟨mb, ?_, fB, b4, fun h => absurd h c0⟩
      rw [B_X4_read_12]
      simp (disch := omega) only [ob_some, reduceIte, lit, le_T, le_F, lt_T, lt_F, eq_T, eq_F, nI_add, gac_0_0, gac_0_1, gac_0_2, gac_0_3, gac_0_4, gac_0_5, gac_0_6, gac_1_0, gic_1_1, gic_1_2, gic_1_3, gic_1_4, gic_1_5, gic_1_6, gac_3_0, gic_3_1, gic_3_2, gic_3_3, gic_3_4, gic_3_5, gic_3_6, gic_3_7, gic_5_0, gic_5_1, gic_5_2, gic_5_3, gic_5_4, gac_5_5, gac_5_6, gac_5_7, gac_5_8, gac_5_9, gac_5_10, gac_5_11, gac_13_0, gac_13_1, gic_13_2, gac_13_3, gac_13_4, gac_13_5, gac_13_6, gac_13_7, gac_13_8, gac_13_9, gic_13_10, gic_13_11, gic_13_12, gic_13_13, gac_14_0, gac_14_1, gac_14_2, gac_14_3, gic_14_4, gic_14_5, gic_15_0, gic_15_1, gic_15_2, gic_15_3, gic_15_4, gac_15_5, gac_15_6, gac_15_7, gac_15_8, gac_15_9, gac_15_10, gac_15_11, gac_23_0, gac_23_1, gac_23_2, gac_23_3, gac_23_4, gac_23_5, gac_23_6, gic_23_7, gic_23_8, gac_31_0, gic_31_1, gic_31_2, gac_193_0, gac_193_1, gac_193_2, gic_193_3, gac_198_0, gac_200_0, gac_200_1, gac_200_2, gac_200_3, gac_200_4, gac_200_5, gac_200_6, gic_200_7, gic_200_8, pic_1_1, pic_1_2, pic_1_3, pic_1_4, pic_1_5, pic_1_6, pic_3_1, pic_3_2, pic_3_3, pic_3_4, pic_3_5, pic_3_6, pic_3_7, pic_5_0, pic_5_1, pic_5_2, pic_5_3, pic_5_4, pic_13_2, pic_13_10, pic_13_11, pic_13_12, pic_13_13, pic_14_4, pic_14_5, pic_15_0, pic_15_1, pic_15_2, pic_15_3, pic_15_4, pic_23_7, pic_23_8, pic_31_1, pic_31_2, pic_193_3, pic_200_7, pic_200_8, gdc_0, gdc_1, gdc_3, gdc_5, gdc_13, gdc_14, gdc_15, gdc_23, gdc_31, gdc_193, gdc_198, gdc_200, ldc_2, stc_2, ldc_4, stc_4, ldc_6, stc_6, ldc_7, stc_7, ldc_8, stc_8, ldc_9, stc_9, ldc_10, stc_10, ldc_11, stc_11, ldc_12, stc_12, ldc_16, stc_16, ldc_17, stc_17, ldc_18, stc_18, ldc_19, stc_19, ldc_20, stc_20, ldc_21, stc_21, ldc_22, stc_22, ldc_24, stc_24, ldc_25, stc_25, ldc_26, stc_26, ldc_27, stc_27, ldc_28, stc_28, ldc_29, stc_29, ldc_30, stc_30, ldc_194, stc_194, ldc_195, stc_195, ldc_196, stc_196, ldc_199, stc_199, ldc_201, stc_201, ldc_202, stc_202, ldc_203, stc_203, ldc_204, stc_204, ldc_205, stc_205, ldc_206, stc_206, ldc_207, stc_207, ldc_208, stc_208, ldc_209, stc_209, ldc_210, stc_210, ldc_211, stc_211, ldc_213, stc_213, ldc_214, stc_214, ldc_215, stc_215, ldc_216, stc_216, ldc_217, stc_217, ldc_218, stc_218, ldc_219, stc_219, ldc_263, stc_263, lda_197, lda_262, lda_212, lda_32, u2_s, u2_a, u2_b, a1, b1, sd, B_X4_read_43, B_X4_read_63, B_X4_read_64]
      rw [B_X4_read_12]
      simp (disch := omega) only [ob_some, reduceIte, lit, le_T, le_F, lt_T, lt_F, eq_T, eq_F, nI_add, gac_0_0, gac_0_1, gac_0_2, gac_0_3, gac_0_4, gac_0_5, gac_0_6, gac_1_0, gic_1_1, gic_1_2, gic_1_3, gic_1_4, gic_1_5, gic_1_6, gac_3_0, gic_3_1, gic_3_2, gic_3_3, gic_3_4, gic_3_5, gic_3_6, gic_3_7, gic_5_0, gic_5_1, gic_5_2, gic_5_3, gic_5_4, gac_5_5, gac_5_6, gac_5_7, gac_5_8, gac_5_9, gac_5_10, gac_5_11, gac_13_0, gac_13_1, gic_13_2, gac_13_3, gac_13_4, gac_13_5, gac_13_6, gac_13_7, gac_13_8, gac_13_9, gic_13_10, gic_13_11, gic_13_12, gic_13_13, gac_14_0, gac_14_1, gac_14_2, gac_14_3, gic_14_4, gic_14_5, gic_15_0, gic_15_1, gic_15_2, gic_15_3, gic_15_4, gac_15_5, gac_15_6, gac_15_7, gac_15_8, gac_15_9, gac_15_10, gac_15_11, gac_23_0, gac_23_1, gac_23_2, gac_23_3, gac_23_4, gac_23_5, gac_23_6, gic_23_7, gic_23_8, gac_31_0, gic_31_1, gic_31_2, gac_193_0, gac_193_1, gac_193_2, gic_193_3, gac_198_0, gac_200_0, gac_200_1, gac_200_2, gac_200_3, gac_200_4, gac_200_5, gac_200_6, gic_200_7, gic_200_8, pic_1_1, pic_1_2, pic_1_3, pic_1_4, pic_1_5, pic_1_6, pic_3_1, pic_3_2, pic_3_3, pic_3_4, pic_3_5, pic_3_6, pic_3_7, pic_5_0, pic_5_1, pic_5_2, pic_5_3, pic_5_4, pic_13_2, pic_13_10, pic_13_11, pic_13_12, pic_13_13, pic_14_4, pic_14_5, pic_15_0, pic_15_1, pic_15_2, pic_15_3, pic_15_4, pic_23_7, pic_23_8, pic_31_1, pic_31_2, pic_193_3, pic_200_7, pic_200_8, gdc_0, gdc_1, gdc_3, gdc_5, gdc_13, gdc_14, gdc_15, gdc_23, gdc_31, gdc_193, gdc_198, gdc_200, ldc_2, stc_2, ldc_4, stc_4, ldc_6, stc_6, ldc_7, stc_7, ldc_8, stc_8, ldc_9, stc_9, ldc_10, stc_10, ldc_11, stc_11, ldc_12, stc_12, ldc_16, stc_16, ldc_17, stc_17, ldc_18, stc_18, ldc_19, stc_19, ldc_20, stc_20, ldc_21, stc_21, ldc_22, stc_22, ldc_24, stc_24, ldc_25, stc_25, ldc_26, stc_26, ldc_27, stc_27, ldc_28, stc_28, ldc_29, stc_29, ldc_30, stc_30, ldc_194, stc_194, ldc_195, stc_195, ldc_196, stc_196, ldc_199, stc_199, ldc_201, stc_201, ldc_202, stc_202, ldc_203, stc_203, ldc_204, stc_204, ldc_205, stc_205, ldc_206, stc_206, ldc_207, stc_207, ldc_208, stc_208, ldc_209, stc_209, ldc_210, stc_210, ldc_211, stc_211, ldc_213, stc_213, ldc_214, stc_214, ldc_215, stc_215, ldc_216, stc_216, ldc_217, stc_217, ldc_218, stc_218, ldc_219, stc_219, ldc_263, stc_263, lda_197, lda_262, lda_212, lda_32, u2_s, u2_a, u2_b, sd, B_X4_read_71, b3]
def zD : Nat → Nat → Nat := fun _ _ => 0
set_option maxRecDepth 4000 in
theorem readC {T : TT} {m : Nat → Nat → Int32} {q : Nat → Nat → Int64} (hT : TC T m) : ∃ m1, F_X4_read 1 5 (KS, m, q) = some (nI (plz T 41 0 0 zD).1, (KS, m1, q)) ∧ FrP m m1 ∧ (plz T 41 0 0 zD).1 < 100000 ∧ ((plz T 41 0 0 zD).1 = 0 → PR (blk m1 5) (plz T 41 0 0 zD).2) := by
  have f0 : FrP m (mk_u2 (mk_u2 (mk_u2 (mk_u2 (mk_u2 (mk_u2 (mk_u2 m 1 2 (nI 0)) 1 3 (nI 0)) 5 0 (nI 0)) 5 1 (nI 0)) 5 2 (nI 0)) 5 3 (nI 0)) 5 4 (nI 0)) := (((((FrP.rf.tg ((TG.rf.up (by omega)).up (by omega))).up (by omega) (by omega)).up (by omega) (by omega)).up (by omega) (by omega)).up (by omega) (by omega)).up (by omega) (by omega)
  obtain ⟨m1, r1, r2, r3, r4⟩ := plL (q := q) 40 0 0 mk_fu _ zD (by omega) (by rw [mk_fu_eq]; omega) (hT.fp f0) (by simp (disch := omega) only [u2_s, u2_a, u2_b]) (by simp (disch := omega) only [u2_s, u2_a, u2_b]) (by omega) (.inl ⟨rfl, ⟨rfl, rfl, rfl⟩, by show mk_u2 _ 5 4 _ 5 2 = _; simp (disch := omega) only [u2_s, u2_a, u2_b], by show mk_u2 _ 5 4 _ 5 3 = _; simp (disch := omega) only [u2_s, u2_a, u2_b], by show mk_u2 _ 5 4 _ 5 4 = _; simp (disch := omega) only [u2_s, u2_a, u2_b]⟩)
  refine ⟨m1, ?_, f0.trans r2, r3, r4⟩
  unfold F_X4_read F_X8_open F_X3_clear
  simp (disch := omega) only [ob_some, reduceIte, lit, le_T, le_F, lt_T, lt_F, eq_T, eq_F, nI_add, gac_0_0, gac_0_1, gac_0_2, gac_0_3, gac_0_4, gac_0_5, gac_0_6, gac_1_0, gic_1_1, gic_1_2, gic_1_3, gic_1_4, gic_1_5, gic_1_6, gac_3_0, gic_3_1, gic_3_2, gic_3_3, gic_3_4, gic_3_5, gic_3_6, gic_3_7, gic_5_0, gic_5_1, gic_5_2, gic_5_3, gic_5_4, gac_5_5, gac_5_6, gac_5_7, gac_5_8, gac_5_9, gac_5_10, gac_5_11, gac_13_0, gac_13_1, gic_13_2, gac_13_3, gac_13_4, gac_13_5, gac_13_6, gac_13_7, gac_13_8, gac_13_9, gic_13_10, gic_13_11, gic_13_12, gic_13_13, gac_14_0, gac_14_1, gac_14_2, gac_14_3, gic_14_4, gic_14_5, gic_15_0, gic_15_1, gic_15_2, gic_15_3, gic_15_4, gac_15_5, gac_15_6, gac_15_7, gac_15_8, gac_15_9, gac_15_10, gac_15_11, gac_23_0, gac_23_1, gac_23_2, gac_23_3, gac_23_4, gac_23_5, gac_23_6, gic_23_7, gic_23_8, gac_31_0, gic_31_1, gic_31_2, gac_193_0, gac_193_1, gac_193_2, gic_193_3, gac_198_0, gac_200_0, gac_200_1, gac_200_2, gac_200_3, gac_200_4, gac_200_5, gac_200_6, gic_200_7, gic_200_8, pic_1_1, pic_1_2, pic_1_3, pic_1_4, pic_1_5, pic_1_6, pic_3_1, pic_3_2, pic_3_3, pic_3_4, pic_3_5, pic_3_6, pic_3_7, pic_5_0, pic_5_1, pic_5_2, pic_5_3, pic_5_4, pic_13_2, pic_13_10, pic_13_11, pic_13_12, pic_13_13, pic_14_4, pic_14_5, pic_15_0, pic_15_1, pic_15_2, pic_15_3, pic_15_4, pic_23_7, pic_23_8, pic_31_1, pic_31_2, pic_193_3, pic_200_7, pic_200_8, gdc_0, gdc_1, gdc_3, gdc_5, gdc_13, gdc_14, gdc_15, gdc_23, gdc_31, gdc_193, gdc_198, gdc_200, ldc_2, stc_2, ldc_4, stc_4, ldc_6, stc_6, ldc_7, stc_7, ldc_8, stc_8, ldc_9, stc_9, ldc_10, stc_10, ldc_11, stc_11, ldc_12, stc_12, ldc_16, stc_16, ldc_17, stc_17, ldc_18, stc_18, ldc_19, stc_19, ldc_20, stc_20, ldc_21, stc_21, ldc_22, stc_22, ldc_24, stc_24, ldc_25, stc_25, ldc_26, stc_26, ldc_27, stc_27, ldc_28, stc_28, ldc_29, stc_29, ldc_30, stc_30, ldc_194, stc_194, ldc_195, stc_195, ldc_196, stc_196, ldc_199, stc_199, ldc_201, stc_201, ldc_202, stc_202, ldc_203, stc_203, ldc_204, stc_204, ldc_205, stc_205, ldc_206, stc_206, ldc_207, stc_207, ldc_208, stc_208, ldc_209, stc_209, ldc_210, stc_210, ldc_211, stc_211, ldc_213, stc_213, ldc_214, stc_214, ldc_215, stc_215, ldc_216, stc_216, ldc_217, stc_217, ldc_218, stc_218, ldc_219, stc_219, ldc_263, stc_263, lda_197, lda_262, lda_212, lda_32, u2_s, u2_a, u2_b, pb_pi (show 5 ∈ PB by decide)]
  exact r1
