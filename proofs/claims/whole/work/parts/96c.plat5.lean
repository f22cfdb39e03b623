set_option maxRecDepth 4000 in
theorem clz_lt {T : TT} {n a : Nat} {D : Nat → Nat → Nat} (ha : a ≤ T.1) (hl : T.1 ≤ 400) : (clz T n a D).1 < 100000 := by
  have hsl : sp isB T a ≤ T.1 := sp_le hB ha
  have hel : wix T (sp isB T a) < 20 → sp isB T a + (wd (wix T (sp isB T a))).length ≤ T.1 := fun h => by rw [← end_w h]; exact (end1_le hsl).2.1
  have am : ∀ lo hi (x : Nat × Nat), x.1 < 100000 → x.2 ≤ T.1 → (amt T lo hi x).1 < 100000 ∧ (amt T lo hi x).2.1 ≤ T.1 := fun lo hi x h1 h2 => ⟨(amt_ok h2 hl h1).1, (amt_ok h2 hl h1).2.1⟩
  unfold clz
  generalize sp isB T a = s at *
  split
  · rename_i c
    have e3 : (wd 17).length = 7 := rfl
    have hel := hel (by omega)
    rw [c, e3] at hel
    split
    · have a1 := am 2 6 (0, s + 7) (by show 0 < 100000; omega) hel
      exact (am 1 9 (_, _) a1.1 a1.2).1
    · show 1 + 8 * s + 4 < 100000; omega
  · split
    · rename_i c
      have e3 : (wd 0).length = 6 := rfl
      have hel := hel (by omega)
      rw [c, e3] at hel
      split
      · have a1 := am 0 (D 0 0 * D 0 0 - 1) (0, s + 6) (by show 0 < 100000; omega) hel
        have a2 := am 0 20 (_, _) a1.1 a1.2
        exact (am 0 3 (_, _) a2.1 a2.2).1
      · show 1 + 8 * s + 4 < 100000; omega
    · split
      · rename_i c
        have e3 : (wd 18).length = 4 := rfl
        have hel := hel (by omega)
        rw [c, e3] at hel
        split
        · have a1 := am 0 (D 0 0 * D 0 0 - 1) (0, s + 4) (by show 0 < 100000; omega) hel
          exact (am 1 20 (_, _) a1.1 a1.2).1
        · show 1 + 8 * s + 4 < 100000; omega
      · split
        · rename_i c
          have e3 : (wd 19).length = 4 := rfl
          have hel := hel (by omega)
          rw [c, e3] at hel
          split
          · have a1 := am 0 (D 0 0 * D 0 0 - 1) (0, s + 4) (by show 0 < 100000; omega) hel
            exact (am 0 40 (_, _) a1.1 a1.2).1
          · show 1 + 8 * s + 4 < 100000; omega
        · show 1 + 8 * s + 0 < 100000; omega
set_option maxRecDepth 4000 in
theorem pcL {T : TT} {m : Nat → Nat → Int32} {q : Nat → Nat → Int64} {s : Nat} {x1 x2 : Int32} (hT : TM T m) (h2 : m 996 28 = nI s) (hs : s < 10000) : B_X12_plateauClause_11 mk_fu 996 x1 x2 (nI 0) (KS, m, q) = B_X12_plateauClause_33 996 x1 x2 (nI (if wix T s = 17 then 0 else if wix T s = 0 then 1 else if wix T s = 18 then 2 else if wix T s = 19 then 3 else 4)) (KS, m, q) := by
  have s0 : F_X12_stood 996 1000036 (KS, m, q) = some (bI (decide (wix T s = 17)), (KS, m, q)) := stMw (k := 36) (j := 17) (by omega) (by omega) (by omega) rfl hT h2 hs
  have s1 : F_X12_stood 996 1000021 (KS, m, q) = some (bI (decide (wix T s = 0)), (KS, m, q)) := stMw (k := 21) (j := 0) (by omega) (by omega) (by omega) rfl hT h2 hs
  have s2 : F_X12_stood 996 1000037 (KS, m, q) = some (bI (decide (wix T s = 18)), (KS, m, q)) := stMw (k := 37) (j := 18) (by omega) (by omega) (by omega) rfl hT h2 hs
  have s3 : F_X12_stood 996 1000038 (KS, m, q) = some (bI (decide (wix T s = 19)), (KS, m, q)) := stMw (k := 38) (j := 19) (by omega) (by omega) (by omega) rfl hT h2 hs
  obtain ⟨g, hg⟩ : ∃ g, mk_fu = g + 1 + 1 + 1 + 1 + 1 := ⟨99995, rfl⟩
  rw [hg]
  by_cases c17 : wix T s = 17
  · rw [if_pos c17]
    rw [decide_eq_true c17, bI_T] at s0
    rw [B_X12_plateauClause_11]
    unfold F_X12_plateauWord
    simp (disch := omega) only [lit, eq_T, eq_F, le_T, le_F, reduceIte, ob_some, s0]
  rw [decide_eq_false c17, bI_F] at s0
  have w0 : ∀ f, B_X12_plateauClause_11 (f + 1) 996 x1 x2 (nI 0) (KS, m, q) = B_X12_plateauClause_11 f 996 x1 x2 (nI 1) (KS, m, q) := fun f => by
    rw [B_X12_plateauClause_11]
    unfold F_X12_plateauWord
    simp (disch := omega) only [lit, eq_T, eq_F, le_T, le_F, reduceIte, ob_some, s0, nI_add]
  rw [w0]
  by_cases c0 : wix T s = 0
  · rw [if_neg c17, if_pos c0]
    rw [decide_eq_true c0, bI_T] at s1
    rw [B_X12_plateauClause_11]
    unfold F_X12_plateauWord
    simp (disch := omega) only [lit, eq_T, eq_F, le_T, le_F, reduceIte, ob_some, s1]
  rw [decide_eq_false c0, bI_F] at s1
  have w1 : ∀ f, B_X12_plateauClause_11 (f + 1) 996 x1 x2 (nI 1) (KS, m, q) = B_X12_plateauClause_11 f 996 x1 x2 (nI 2) (KS, m, q) := fun f => by
    rw [B_X12_plateauClause_11]
    unfold F_X12_plateauWord
    simp (disch := omega) only [lit, eq_T, eq_F, le_T, le_F, reduceIte, ob_some, s1, nI_add]
  rw [w1]
  by_cases c18 : wix T s = 18
  · rw [if_neg c17, if_neg c0, if_pos c18]
    rw [decide_eq_true c18, bI_T] at s2
    rw [B_X12_plateauClause_11]
    unfold F_X12_plateauWord
    simp (disch := omega) only [lit, eq_T, eq_F, le_T, le_F, reduceIte, ob_some, s2]
  rw [decide_eq_false c18, bI_F] at s2
  have w2 : ∀ f, B_X12_plateauClause_11 (f + 1) 996 x1 x2 (nI 2) (KS, m, q) = B_X12_plateauClause_11 f 996 x1 x2 (nI 3) (KS, m, q) := fun f => by
    rw [B_X12_plateauClause_11]
    unfold F_X12_plateauWord
    simp (disch := omega) only [lit, eq_T, eq_F, le_T, le_F, reduceIte, ob_some, s2, nI_add]
  rw [w2]
  by_cases c19 : wix T s = 19
  · rw [if_neg c17, if_neg c0, if_neg c18, if_pos c19]
    rw [decide_eq_true c19, bI_T] at s3
    rw [B_X12_plateauClause_11]
    unfold F_X12_plateauWord
    simp (disch := omega) only [lit, eq_T, eq_F, le_T, le_F, reduceIte, ob_some, s3]
  rw [decide_eq_false c19, bI_F] at s3
  have w3 : ∀ f, B_X12_plateauClause_11 (f + 1) 996 x1 x2 (nI 3) (KS, m, q) = B_X12_plateauClause_11 f 996 x1 x2 (nI 4) (KS, m, q) := fun f => by
    rw [B_X12_plateauClause_11]
    unfold F_X12_plateauWord
    simp (disch := omega) only [lit, eq_T, eq_F, le_T, le_F, reduceIte, ob_some, s3, nI_add]
  rw [w3]
  rw [if_neg c17, if_neg c0, if_neg c18, if_neg c19, B_X12_plateauClause_11]
  simp (disch := omega) only [lit, le_T, reduceIte]
set_option maxRecDepth 4000 in
theorem rcM {T : TT} {m : Nat → Nat → Int32} {q : Nat → Nat → Int64} {D : Nat → Nat → Nat} {n a : Nat} (hT : TM T m) (h3 : m 996 29 = nI 0) (h2 : m 996 28 = nI a) (ha : a ≤ T.1) (hn : n ≤ 40) (hG : GP n (vq m) D) : ∃ m1 p, F_X12_plateauClause 996 (nI n) (KS, m, q) = some ((), (KS, m1, q)) ∧ FrN m m1 ∧ m1 996 29 = nI (clz T n a D).1 ∧ m1 996 28 = nI p ∧ p ≤ T.1 ∧ ((clz T n a D).1 = 0 → p = (clz T n a D).2.1 ∧ n < 40 ∧ PR (vq m1) (clz T n a D).2.2) := by
  have hl := hT.2.1
  have hbl := blkM (q := q) hT h2 (by omega)
  have hsl : sp isB T a ≤ T.1 := sp_le hB ha
  have hw20 := wix_le T (sp isB T a)
  unfold clz
  generalize sp isB T a = s at *
  have hTs : TM T ((mk_u2 m 996 28 (nI s))) := hT.up (by omega)
  have e28 : (mk_u2 m 996 28 (nI s)) 996 28 = nI s := u2_s
  have e29 : (mk_u2 m 996 28 (nI s)) 996 29 = nI 0 := by rw [u2_b (by omega)]; exact h3
  have hel : wix T s < 20 → s + (wd (wix T s)).length ≤ T.1 := fun h => by rw [← end_w h]; exact (end1_le hsl).2.1
  have st : ∀ r, B_X12_plateauClause_33 996 (nI n) (nI s) (nI (if wix T s = 17 then 0 else if wix T s = 0 then 1 else if wix T s = 18 then 2 else if wix T s = 19 then 3 else 4)) (KS, (mk_u2 m 996 28 (nI s)), q) = r → F_X12_plateauClause 996 (nI n) (KS, m, q) = r := fun r h => by
    unfold F_X12_plateauClause
    simp (disch := omega) only [gdm, hbl, ob_some, gim_28, e28, lit]
    exact (pcL hTs e28 (by omega)).trans h
  have fl : ∀ c, F_X12_fails 996 (nI c) (nI s) (KS, (mk_u2 m 996 28 (nI s)), q) = some ((), (KS, mk_u2 ((mk_u2 m 996 28 (nI s))) 996 29 (nI (1 + 8 * s + c)), q)) := fun c => flM (q := q) e29 (by omega) (by omega)
  have hGs : GP n (vq ((mk_u2 m 996 28 (nI s)))) D := by
    rcases hG with ⟨h, hZ⟩ | ⟨h, hP⟩
    · exact .inl ⟨h, hZ⟩
    · exact .inr ⟨h, hP⟩
  have bad : ∀ c, F_X12_plateauClause 996 (nI n) (KS, m, q) = some ((), (KS, mk_u2 ((mk_u2 m 996 28 (nI s))) 996 29 (nI (1 + 8 * s + c)), q)) → ∃ m1 p, F_X12_plateauClause 996 (nI n) (KS, m, q) = some ((), (KS, m1, q)) ∧ FrN m m1 ∧ m1 996 29 = nI (1 + 8 * s + c, a, D).1 ∧ m1 996 28 = nI p ∧ p ≤ T.1 ∧ ((1 + 8 * s + c, a, D).1 = 0 → p = (1 + 8 * s + c, a, D).2.1 ∧ n < 40 ∧ PR (vq m1) (1 + 8 * s + c, a, D).2.2) := fun c h => ⟨_, s, h, FrN.rf.mg ((MG.rf.up (by omega)).up (by omega)), u2_s, by rw [u2_b (by omega), u2_s], hsl, fun h => by have : 1 + 8 * s + c = 0 := h; omega⟩
  by_cases k17 : wix T s = 17
  · rw [if_pos k17]
    have hel := hel (by omega)
    have e3 : (wd 17).length = 7 := rfl
    rw [k17, e3] at hel
    rw [if_pos k17] at st
    have hf := ifM (q := q) (k := 0) hn (by omega) hGs
    by_cases c : n = 0
    · rw [if_pos c]
      rw [if_pos (by omega)] at hf
      have sl : mk_sln 1000036 (KS, (mk_u2 m 996 28 (nI s)), q) = some (nI 7, (KS, (mk_u2 m 996 28 (nI s)), q)) := wsln (k := 36) (by omega) _
      have pw : F_X12_plateauWord (nI 0) (KS, (mk_u2 m 996 28 (nI s)), q) = some (1000036, (KS, (mk_u2 m 996 28 (nI s)), q)) := by
        unfold F_X12_plateauWord
        simp (disch := omega) only [lit, eq_T, eq_F, reduceIte]
      have hZ : Zd (vq ((mk_u2 m 996 28 (nI (s + 7))))) D := by
        rcases hG with ⟨h, hZ⟩ | ⟨h, hP⟩
        · exact hZ
        · omega
      obtain ⟨m1, p, a1, a2, a3, a4, a5, a6⟩ := plM (m := (mk_u2 m 996 28 (nI (s + 7)))) (q := q) (hT.up (by omega)) (by rw [u2_b (by omega)]; exact h3) u2_s hel hZ
      refine ⟨m1, p, st _ ?_, (FrN.rf.mg (MG.rf.up (by omega))).trans a2, a3, a4, a5, fun h => ⟨(a6 h).1, by omega, (a6 h).2⟩⟩
      unfold B_X12_plateauClause_33
      simp (disch := omega) only [lit, eq_F, reduceIte, hf, ob_some, eq_T, gim_28, e28, pw, sl, pim_28, nI_add, u2_u2, a1]
    · rw [if_neg c]
      rw [if_neg (by omega)] at hf
      refine bad 4 (st _ ?_)
      unfold B_X12_plateauClause_33
      simp (disch := omega) only [lit, eq_F, reduceIte, hf, ob_some, fl]
  by_cases k0 : wix T s = 0
  · rw [if_neg k17, if_pos k0]
    have hel := hel (by omega)
    have e3 : (wd 0).length = 6 := rfl
    rw [k0, e3] at hel
    rw [if_neg k17, if_pos k0] at st
    have hf := ifM (q := q) (k := 1) hn (by omega) hGs
    by_cases c : n ≠ 0 ∧ n < 40 ∧ D 0 2 < 6
    · rw [if_pos c]
      rw [if_pos (by omega)] at hf
      have sl : mk_sln 1000021 (KS, (mk_u2 m 996 28 (nI s)), q) = some (nI 6, (KS, (mk_u2 m 996 28 (nI s)), q)) := wsln (k := 21) (by omega) _
      have pw : F_X12_plateauWord (nI 1) (KS, (mk_u2 m 996 28 (nI s)), q) = some (1000021, (KS, (mk_u2 m 996 28 (nI s)), q)) := by
        unfold F_X12_plateauWord
        simp (disch := omega) only [lit, eq_T, eq_F, reduceIte]
      have hP : PR (vq ((mk_u2 m 996 28 (nI (s + 6))))) D := by
        rcases hG with ⟨h, hZ⟩ | ⟨h, hP⟩
        · omega
        · exact hP
      obtain ⟨m1, p, a1, a2, a3, a4, a5, a6⟩ := peM (m := (mk_u2 m 996 28 (nI (s + 6)))) (q := q) (hT.up (by omega)) (by rw [u2_b (by omega)]; exact h3) u2_s hel hP (by omega)
      refine ⟨m1, p, st _ ?_, (FrN.rf.mg (MG.rf.up (by omega))).trans a2, a3, a4, a5, fun h => ⟨(a6 h).1, by omega, (a6 h).2⟩⟩
      unfold B_X12_plateauClause_33
      simp (disch := omega) only [lit, eq_F, reduceIte, hf, ob_some, eq_T, gim_28, e28, pw, sl, pim_28, nI_add, u2_u2, a1]
    · rw [if_neg c]
      rw [if_neg (by omega)] at hf
      refine bad 4 (st _ ?_)
      unfold B_X12_plateauClause_33
      simp (disch := omega) only [lit, eq_F, reduceIte, hf, ob_some, fl]
  by_cases k18 : wix T s = 18
  · rw [if_neg k17, if_neg k0, if_pos k18]
    have hel := hel (by omega)
    have e3 : (wd 18).length = 4 := rfl
    rw [k18, e3] at hel
    rw [if_neg k17, if_neg k0, if_pos k18] at st
    have hf := ifM (q := q) (k := 2) hn (by omega) hGs
    by_cases c : n ≠ 0 ∧ n < 40 ∧ D 0 3 < 4
    · rw [if_pos c]
      rw [if_pos (by omega)] at hf
      have sl : mk_sln 1000037 (KS, (mk_u2 m 996 28 (nI s)), q) = some (nI 4, (KS, (mk_u2 m 996 28 (nI s)), q)) := wsln (k := 37) (by omega) _
      have pw : F_X12_plateauWord (nI 2) (KS, (mk_u2 m 996 28 (nI s)), q) = some (1000037, (KS, (mk_u2 m 996 28 (nI s)), q)) := by
        unfold F_X12_plateauWord
        simp (disch := omega) only [lit, eq_T, eq_F, reduceIte]
      have hP : PR (vq ((mk_u2 m 996 28 (nI (s + 4))))) D := by
        rcases hG with ⟨h, hZ⟩ | ⟨h, hP⟩
        · omega
        · exact hP
      obtain ⟨m1, p, a1, a2, a3, a4, a5, a6⟩ := miM (m := (mk_u2 m 996 28 (nI (s + 4)))) (q := q) (hT.up (by omega)) (by rw [u2_b (by omega)]; exact h3) u2_s hel hP (by omega)
      refine ⟨m1, p, st _ ?_, (FrN.rf.mg (MG.rf.up (by omega))).trans a2, a3, a4, a5, fun h => ⟨(a6 h).1, by omega, (a6 h).2⟩⟩
      unfold B_X12_plateauClause_33
      simp (disch := omega) only [lit, eq_F, reduceIte, hf, ob_some, eq_T, gim_28, e28, pw, sl, pim_28, nI_add, u2_u2, a1]
    · rw [if_neg c]
      rw [if_neg (by omega)] at hf
      refine bad 4 (st _ ?_)
      unfold B_X12_plateauClause_33
      simp (disch := omega) only [lit, eq_F, reduceIte, hf, ob_some, fl]
  by_cases k19 : wix T s = 19
  · rw [if_neg k17, if_neg k0, if_neg k18, if_pos k19]
    have hel := hel (by omega)
    have e3 : (wd 19).length = 4 := rfl
    rw [k19, e3] at hel
    rw [if_neg k17, if_neg k0, if_neg k18, if_pos k19] at st
    have hf := ifM (q := q) (k := 3) hn (by omega) hGs
    by_cases c : n ≠ 0 ∧ n < 40 ∧ D 0 4 < 4
    · rw [if_pos c]
      rw [if_pos (by omega)] at hf
      have sl : mk_sln 1000038 (KS, (mk_u2 m 996 28 (nI s)), q) = some (nI 4, (KS, (mk_u2 m 996 28 (nI s)), q)) := wsln (k := 38) (by omega) _
      have pw : F_X12_plateauWord (nI 3) (KS, (mk_u2 m 996 28 (nI s)), q) = some (1000038, (KS, (mk_u2 m 996 28 (nI s)), q)) := by
        unfold F_X12_plateauWord
        simp (disch := omega) only [lit, eq_T, eq_F, reduceIte]
      have hP : PR (vq ((mk_u2 m 996 28 (nI (s + 4))))) D := by
        rcases hG with ⟨h, hZ⟩ | ⟨h, hP⟩
        · omega
        · exact hP
      obtain ⟨m1, p, a1, a2, a3, a4, a5, a6⟩ := roM (m := (mk_u2 m 996 28 (nI (s + 4)))) (q := q) (hT.up (by omega)) (by rw [u2_b (by omega)]; exact h3) u2_s hel hP (by omega)
      refine ⟨m1, p, st _ ?_, (FrN.rf.mg (MG.rf.up (by omega))).trans a2, a3, a4, a5, fun h => ⟨(a6 h).1, by omega, (a6 h).2⟩⟩
      unfold B_X12_plateauClause_33
      simp (disch := omega) only [lit, eq_F, reduceIte, hf, ob_some, eq_T, gim_28, e28, pw, sl, pim_28, nI_add, u2_u2, a1]
    · rw [if_neg c]
      rw [if_neg (by omega)] at hf
      refine bad 4 (st _ ?_)
      unfold B_X12_plateauClause_33
      simp (disch := omega) only [lit, eq_F, reduceIte, hf, ob_some, fl]
  rw [if_neg k17, if_neg k0, if_neg k18, if_neg k19]
  rw [if_neg k17, if_neg k0, if_neg k18, if_neg k19] at st
  refine bad 0 (st _ ?_)
  unfold B_X12_plateauClause_33
  simp (disch := omega) only [lit, eq_T, reduceIte, ob_some, fl]
def FrL (m m1 : Nat → Nat → Int32) : Prop := (∀ j, j ≠ 996 → j < 1015 ∨ 1022 < j → m1 j = m j) ∧ ∀ k, k ≠ 27 → k ≠ 28 → k ≠ 29 → m1 996 k = m 996 k
set_option maxRecDepth 4000 in
theorem FrN.l {m m1 m2 : Nat → Nat → Int32} (h : FrN m m1) (h2 : FrL m1 m2) : FrL m m2 := ⟨fun j h3 h4 => (h2.1 j h3 h4).trans (h.1 j h3 h4), fun k h3 h4 h5 => (h2.2 k h3 h4 h5).trans (h.2 k h4 h5)⟩
set_option maxRecDepth 4000 in
theorem FrN.l0 {m m1 : Nat → Nat → Int32} {v : Int32} (h : FrN m m1) : FrL m (mk_u2 m1 996 27 v) := ⟨fun j h3 h4 => (mk_u2_ne h3).trans (h.1 j h3 h4), fun k h3 h4 h5 => (u2_b h3).trans (h.2 k h4 h5)⟩
set_option maxRecDepth 4000 in
theorem plN {T : TT} {q : Nat → Nat → Int64} : ∀ (d n a f : Nat) (m : Nat → Nat → Int32) (D : Nat → Nat → Nat), n + d = 40 → d + 2 < f → TM T m → m 996 29 = nI 0 → m 996 28 = nI a → a ≤ T.1 → GP n (vq m) D → ∃ m1, B_X12_readsAll_28 f 996 (nI n) (nI 1) (KS, m, q) = some ((), (KS, m1, q)) ∧ FrL m m1 ∧ m1 996 27 = nI 0 ∧ m1 996 29 = nI (plz T (d + 1) n a D).1 ∧ ((plz T (d + 1) n a D).1 = 0 → PR (vq m1) (plz T (d + 1) n a D).2) := by
  intro d
  induction d with
  | zero =>
    intro n a f m D hn hf hT h3 h2 ha hG
    have hl := hT.2.1
    obtain ⟨f, rfl⟩ : ∃ g, f = g + 1 := ⟨f - 1, by omega⟩
    obtain ⟨f, rfl⟩ : ∃ g, f = g + 1 := ⟨f - 1, by omega⟩
    have hn : n = 40 := by omega
    subst hn
    obtain ⟨mb, p, b1, b2, b3, b4, b5, b6⟩ := rcM (q := q) (n := 40) (D := D) hT h3 h2 ha (by omega) hG
    have c0 : (clz T 40 a D).1 ≠ 0 := fun h => by have := (b6 h).2.1; omega
    have cl : (clz T 40 a D).1 < 100000 := clz_lt ha hl
    have ep : plz T (0 + 1) 40 a D = ((clz T 40 a D).1, D) := by unfold plz; rw [if_neg c0]
    rw [ep]
    have go := goM (q := q) (hT.fn b2) b4 (by omega) b3 cl rfl
    rw [if_neg (fun h => c0 h.1), if_neg (fun h => c0 h.1), u2_id b3] at go
    refine ⟨mk_u2 ((mk_u2 mb 996 28 (nI (sp isB T p + 1)))) 996 27 (nI 0), ?_, (b2.mg (MG.rf.up (by omega))).l0, u2_s, by rw [u2_b (by omega), u2_b (by omega)]; exact b3, fun h => absurd h c0⟩
    rw [B_X12_readsAll_28]
    simp (disch := omega) only [gdm, gam_1, gam_2, gam_3, gam_4, gam_5, gam_6, gam_7, gam_8, gam_9, gam_10, gam_11, gam_12, gam_13, gam_14, gam_15, gam_16, gam_17, gam_18, gam_19, gam_20, gam_21, gam_22, gam_23, gam_24, gam_25, gam_26, gam_37, gam_38, gam_39, gam_40, gam_41, gam_42, gam_43, gam_44, gam_45, gam_46, gam_48, gam_49, gam_56, gam_57, gam_58, gam_59, gam_60, gam_61, gim_27, gim_28, gim_29, gim_30, gim_31, gim_32, gim_33, gim_34, gim_35, gim_36, gim_47, gim_50, gim_51, gim_52, gim_53, gim_54, gim_55, gim_62, gim_63, ob_some, reduceIte, lit, le_T, le_F, lt_T, lt_F, eq_T, eq_F, nI_add, ldm_997, stm_997, ldm_998, stm_998, ldm_999, stm_999, ldm_1000, stm_1000, ldm_1001, stm_1001, ldm_1002, stm_1002, ldm_1003, stm_1003, ldm_1004, stm_1004, ldm_1005, stm_1005, ldm_1006, stm_1006, ldm_1007, stm_1007, ldm_1008, stm_1008, ldm_1009, stm_1009, ldm_1010, stm_1010, ldm_1011, stm_1011, ldm_1012, stm_1012, ldm_1013, stm_1013, ldm_1014, stm_1014, ldm_1015, stm_1015, ldm_1016, stm_1016, ldm_1017, stm_1017, ldm_1018, stm_1018, ldm_1019, stm_1019, ldm_1020, stm_1020, ldm_1021, stm_1021, ldm_1022, stm_1022, u2_s, u2_a, u2_b, not_true, not_false_iff, b1, go]
    rw [B_X12_readsAll_28]
    simp (disch := omega) only [gdm, gam_1, gam_2, gam_3, gam_4, gam_5, gam_6, gam_7, gam_8, gam_9, gam_10, gam_11, gam_12, gam_13, gam_14, gam_15, gam_16, gam_17, gam_18, gam_19, gam_20, gam_21, gam_22, gam_23, gam_24, gam_25, gam_26, gam_37, gam_38, gam_39, gam_40, gam_41, gam_42, gam_43, gam_44, gam_45, gam_46, gam_48, gam_49, gam_56, gam_57, gam_58, gam_59, gam_60, gam_61, gim_27, gim_28, gim_29, gim_30, gim_31, gim_32, gim_33, gim_34, gim_35, gim_36, gim_47, gim_50, gim_51, gim_52, gim_53, gim_54, gim_55, gim_62, gim_63, ob_some, reduceIte, lit, le_T, le_F, lt_T, lt_F, eq_T, eq_F, nI_add, ldm_997, stm_997, ldm_998, stm_998, ldm_999, stm_999, ldm_1000, stm_1000, ldm_1001, stm_1001, ldm_1002, stm_1002, ldm_1003, stm_1003, ldm_1004, stm_1004, ldm_1005, stm_1005, ldm_1006, stm_1006, ldm_1007, stm_1007, ldm_1008, stm_1008, ldm_1009, stm_1009, ldm_1010, stm_1010, ldm_1011, stm_1011, ldm_1012, stm_1012, ldm_1013, stm_1013, ldm_1014, stm_1014, ldm_1015, stm_1015, ldm_1016, stm_1016, ldm_1017, stm_1017, ldm_1018, stm_1018, ldm_1019, stm_1019, ldm_1020, stm_1020, ldm_1021, stm_1021, ldm_1022, stm_1022, u2_s, u2_a, u2_b, not_true, not_false_iff, pim_27, pim_28, pim_29, pim_30, pim_31, pim_32, pim_33, pim_34, pim_35, pim_36, pim_47, pim_50, pim_51, pim_52, pim_53, pim_54, pim_55, pim_62, pim_63]
  | succ d ih =>
    intro n a f m D hn hf hT h3 h2 ha hG
    have hl := hT.2.1
    obtain ⟨f, rfl⟩ : ∃ g, f = g + 1 := ⟨f - 1, by omega⟩
    obtain ⟨mb, p, b1, b2, b3, b4, b5, b6⟩ := rcM (q := q) (n := n) (D := D) hT h3 h2 ha (by omega) hG
    have cl : (clz T n a D).1 < 100000 := clz_lt ha hl
    have go := goM (q := q) (hT.fn b2) b4 (by omega) b3 cl rfl
    unfold plz
    by_cases c0 : (clz T n a D).1 = 0
    · rw [if_pos c0]
      obtain ⟨rfl, b8, b9⟩ := b6 c0
      have hsl : sp isB T (clz T n a D).2.1 ≤ T.1 := sp_le hB b5
      rw [c0] at b3 go
      have hP' : ∀ v w, PR (vq (mk_u2 (mk_u2 mb 996 29 v) 996 28 w)) (clz T n a D).2.2 := fun v w => b9
      generalize sp isB T (clz T n a D).2.1 = s at *
      generalize (clz T n a D).2.2 = D1 at *
      by_cases d59 : bt T s = 59
      · rw [if_pos d59]
        rw [if_pos ⟨rfl, d59⟩, if_neg (fun h => h.2.1 d59), u2_id b3] at go
        have hlt : s < T.1 := by
          apply Classical.byContradiction
          intro h
          have := bt_end (T := T) (i := s) (by omega)
          omega
        have fr : FrN m ((mk_u2 mb 996 28 (nI (s + 1)))) := b2.mg (MG.rf.up (by omega))
        obtain ⟨m1, r1, r2, r3, r4, r5⟩ := ih (n + 1) (s + 1) f ((mk_u2 mb 996 28 (nI (s + 1)))) D1 (by omega) (by omega) (hT.fn fr) (by rw [u2_b (by omega)]; exact b3) u2_s (by omega) (.inr ⟨by omega, by have := hP' (nI 0) (nI (s + 1)); rwa [u2_id b3] at this⟩)
        refine ⟨m1, ?_, fr.l r2, r3, r4, r5⟩
        rw [← r1, B_X12_readsAll_28]
        simp (disch := omega) only [gdm, gam_1, gam_2, gam_3, gam_4, gam_5, gam_6, gam_7, gam_8, gam_9, gam_10, gam_11, gam_12, gam_13, gam_14, gam_15, gam_16, gam_17, gam_18, gam_19, gam_20, gam_21, gam_22, gam_23, gam_24, gam_25, gam_26, gam_37, gam_38, gam_39, gam_40, gam_41, gam_42, gam_43, gam_44, gam_45, gam_46, gam_48, gam_49, gam_56, gam_57, gam_58, gam_59, gam_60, gam_61, gim_27, gim_28, gim_29, gim_30, gim_31, gim_32, gim_33, gim_34, gim_35, gim_36, gim_47, gim_50, gim_51, gim_52, gim_53, gim_54, gim_55, gim_62, gim_63, ob_some, reduceIte, lit, le_T, le_F, lt_T, lt_F, eq_T, eq_F, nI_add, ldm_997, stm_997, ldm_998, stm_998, ldm_999, stm_999, ldm_1000, stm_1000, ldm_1001, stm_1001, ldm_1002, stm_1002, ldm_1003, stm_1003, ldm_1004, stm_1004, ldm_1005, stm_1005, ldm_1006, stm_1006, ldm_1007, stm_1007, ldm_1008, stm_1008, ldm_1009, stm_1009, ldm_1010, stm_1010, ldm_1011, stm_1011, ldm_1012, stm_1012, ldm_1013, stm_1013, ldm_1014, stm_1014, ldm_1015, stm_1015, ldm_1016, stm_1016, ldm_1017, stm_1017, ldm_1018, stm_1018, ldm_1019, stm_1019, ldm_1020, stm_1020, ldm_1021, stm_1021, ldm_1022, stm_1022, u2_s, u2_a, u2_b, not_true, not_false_iff, b1, go]
      · rw [if_neg d59]
        rw [if_neg (fun h => d59 h.2)] at go
        obtain ⟨f, rfl⟩ : ∃ g, f = g + 1 := ⟨f - 1, by omega⟩
        by_cases dE : bt T s = 1000
        · rw [if_pos dE]
          rw [if_neg (fun h => h.2.2 dE)] at go
          refine ⟨mk_u2 ((mk_u2 (mk_u2 mb 996 29 (nI 0)) 996 28 (nI (s + 1)))) 996 27 (nI 0), ?_, (b2.mg ((MG.rf.up (by omega)).up (by omega))).l0, u2_s, by rw [u2_b (by omega), u2_b (by omega), u2_s], fun _ => hP' (nI 0) (nI (s + 1))⟩
          rw [B_X12_readsAll_28]
          simp (disch := omega) only [gdm, gam_1, gam_2, gam_3, gam_4, gam_5, gam_6, gam_7, gam_8, gam_9, gam_10, gam_11, gam_12, gam_13, gam_14, gam_15, gam_16, gam_17, gam_18, gam_19, gam_20, gam_21, gam_22, gam_23, gam_24, gam_25, gam_26, gam_37, gam_38, gam_39, gam_40, gam_41, gam_42, gam_43, gam_44, gam_45, gam_46, gam_48, gam_49, gam_56, gam_57, gam_58, gam_59, gam_60, gam_61, gim_27, gim_28, gim_29, gim_30, gim_31, gim_32, gim_33, gim_34, gim_35, gim_36, gim_47, gim_50, gim_51, gim_52, gim_53, gim_54, gim_55, gim_62, gim_63, ob_some, reduceIte, lit, le_T, le_F, lt_T, lt_F, eq_T, eq_F, nI_add, ldm_997, stm_997, ldm_998, stm_998, ldm_999, stm_999, ldm_1000, stm_1000, ldm_1001, stm_1001, ldm_1002, stm_1002, ldm_1003, stm_1003, ldm_1004, stm_1004, ldm_1005, stm_1005, ldm_1006, stm_1006, ldm_1007, stm_1007, ldm_1008, stm_1008, ldm_1009, stm_1009, ldm_1010, stm_1010, ldm_1011, stm_1011, ldm_1012, stm_1012, ldm_1013, stm_1013, ldm_1014, stm_1014, ldm_1015, stm_1015, ldm_1016, stm_1016, ldm_1017, stm_1017, ldm_1018, stm_1018, ldm_1019, stm_1019, ldm_1020, stm_1020, ldm_1021, stm_1021, ldm_1022, stm_1022, u2_s, u2_a, u2_b, not_true, not_false_iff, b1, go]
          rw [B_X12_readsAll_28]
          simp (disch := omega) only [gdm, gam_1, gam_2, gam_3, gam_4, gam_5, gam_6, gam_7, gam_8, gam_9, gam_10, gam_11, gam_12, gam_13, gam_14, gam_15, gam_16, gam_17, gam_18, gam_19, gam_20, gam_21, gam_22, gam_23, gam_24, gam_25, gam_26, gam_37, gam_38, gam_39, gam_40, gam_41, gam_42, gam_43, gam_44, gam_45, gam_46, gam_48, gam_49, gam_56, gam_57, gam_58, gam_59, gam_60, gam_61, gim_27, gim_28, gim_29, gim_30, gim_31, gim_32, gim_33, gim_34, gim_35, gim_36, gim_47, gim_50, gim_51, gim_52, gim_53, gim_54, gim_55, gim_62, gim_63, ob_some, reduceIte, lit, le_T, le_F, lt_T, lt_F, eq_T, eq_F, nI_add, ldm_997, stm_997, ldm_998, stm_998, ldm_999, stm_999, ldm_1000, stm_1000, ldm_1001, stm_1001, ldm_1002, stm_1002, ldm_1003, stm_1003, ldm_1004, stm_1004, ldm_1005, stm_1005, ldm_1006, stm_1006, ldm_1007, stm_1007, ldm_1008, stm_1008, ldm_1009, stm_1009, ldm_1010, stm_1010, ldm_1011, stm_1011, ldm_1012, stm_1012, ldm_1013, stm_1013, ldm_1014, stm_1014, ldm_1015, stm_1015, ldm_1016, stm_1016, ldm_1017, stm_1017, ldm_1018, stm_1018, ldm_1019, stm_1019, ldm_1020, stm_1020, ldm_1021, stm_1021, ldm_1022, stm_1022, u2_s, u2_a, u2_b, not_true, not_false_iff, pim_27, pim_28, pim_29, pim_30, pim_31, pim_32, pim_33, pim_34, pim_35, pim_36, pim_47, pim_50, pim_51, pim_52, pim_53, pim_54, pim_55, pim_62, pim_63]
        · rw [if_neg dE]
          rw [if_pos ⟨rfl, d59, dE⟩] at go
          refine ⟨mk_u2 ((mk_u2 (mk_u2 mb 996 29 (nI (1 + 8 * s + 0))) 996 28 (nI (s + 1)))) 996 27 (nI 0), ?_, (b2.mg ((MG.rf.up (by omega)).up (by omega))).l0, u2_s, by rw [u2_b (by omega), u2_b (by omega), u2_s], fun h => by have : 1 + 8 * s + 0 = 0 := h; omega⟩
          rw [B_X12_readsAll_28]
          simp (disch := omega) only [gdm, gam_1, gam_2, gam_3, gam_4, gam_5, gam_6, gam_7, gam_8, gam_9, gam_10, gam_11, gam_12, gam_13, gam_14, gam_15, gam_16, gam_17, gam_18, gam_19, gam_20, gam_21, gam_22, gam_23, gam_24, gam_25, gam_26, gam_37, gam_38, gam_39, gam_40, gam_41, gam_42, gam_43, gam_44, gam_45, gam_46, gam_48, gam_49, gam_56, gam_57, gam_58, gam_59, gam_60, gam_61, gim_27, gim_28, gim_29, gim_30, gim_31, gim_32, gim_33, gim_34, gim_35, gim_36, gim_47, gim_50, gim_51, gim_52, gim_53, gim_54, gim_55, gim_62, gim_63, ob_some, reduceIte, lit, le_T, le_F, lt_T, lt_F, eq_T, eq_F, nI_add, ldm_997, stm_997, ldm_998, stm_998, ldm_999, stm_999, ldm_1000, stm_1000, ldm_1001, stm_1001, ldm_1002, stm_1002, ldm_1003, stm_1003, ldm_1004, stm_1004, ldm_1005, stm_1005, ldm_1006, stm_1006, ldm_1007, stm_1007, ldm_1008, stm_1008, ldm_1009, stm_1009, ldm_1010, stm_1010, ldm_1011, stm_1011, ldm_1012, stm_1012, ldm_1013, stm_1013, ldm_1014, stm_1014, ldm_1015, stm_1015, ldm_1016, stm_1016, ldm_1017, stm_1017, ldm_1018, stm_1018, ldm_1019, stm_1019, ldm_1020, stm_1020, ldm_1021, stm_1021, ldm_1022, stm_1022, u2_s, u2_a, u2_b, not_true, not_false_iff, b1, go]
          rw [B_X12_readsAll_28]
          simp (disch := omega) only [gdm, gam_1, gam_2, gam_3, gam_4, gam_5, gam_6, gam_7, gam_8, gam_9, gam_10, gam_11, gam_12, gam_13, gam_14, gam_15, gam_16, gam_17, gam_18, gam_19, gam_20, gam_21, gam_22, gam_23, gam_24, gam_25, gam_26, gam_37, gam_38, gam_39, gam_40, gam_41, gam_42, gam_43, gam_44, gam_45, gam_46, gam_48, gam_49, gam_56, gam_57, gam_58, gam_59, gam_60, gam_61, gim_27, gim_28, gim_29, gim_30, gim_31, gim_32, gim_33, gim_34, gim_35, gim_36, gim_47, gim_50, gim_51, gim_52, gim_53, gim_54, gim_55, gim_62, gim_63, ob_some, reduceIte, lit, le_T, le_F, lt_T, lt_F, eq_T, eq_F, nI_add, ldm_997, stm_997, ldm_998, stm_998, ldm_999, stm_999, ldm_1000, stm_1000, ldm_1001, stm_1001, ldm_1002, stm_1002, ldm_1003, stm_1003, ldm_1004, stm_1004, ldm_1005, stm_1005, ldm_1006, stm_1006, ldm_1007, stm_1007, ldm_1008, stm_1008, ldm_1009, stm_1009, ldm_1010, stm_1010, ldm_1011, stm_1011, ldm_1012, stm_1012, ldm_1013, stm_1013, ldm_1014, stm_1014, ldm_1015, stm_1015, ldm_1016, stm_1016, ldm_1017, stm_1017, ldm_1018, stm_1018, ldm_1019, stm_1019, ldm_1020, stm_1020, ldm_1021, stm_1021, ldm_1022, stm_1022, u2_s, u2_a, u2_b, not_true, not_false_iff, pim_27, pim_28, pim_29, pim_30, pim_31, pim_32, pim_33, pim_34, pim_35, pim_36, pim_47, pim_50, pim_51, pim_52, pim_53, pim_54, pim_55, pim_62, pim_63]
    · rw [if_neg c0]
      rw [if_neg (fun h => c0 h.1), if_neg (fun h => c0 h.1), u2_id b3] at go
      obtain ⟨f, rfl⟩ : ∃ g, f = g + 1 := ⟨f - 1, by omega⟩
      refine ⟨mk_u2 ((mk_u2 mb 996 28 (nI (sp isB T p + 1)))) 996 27 (nI 0), ?_, (b2.mg (MG.rf.up (by omega))).l0, u2_s, by rw [u2_b (by omega), u2_b (by omega)]; exact b3, fun h => absurd h c0⟩
      rw [B_X12_readsAll_28]
      simp (disch := omega) only [gdm, gam_1, gam_2, gam_3, gam_4, gam_5, gam_6, gam_7, gam_8, gam_9, gam_10, gam_11, gam_12, gam_13, gam_14, gam_15, gam_16, gam_17, gam_18, gam_19, gam_20, gam_21, gam_22, gam_23, gam_24, gam_25, gam_26, gam_37, gam_38, gam_39, gam_40, gam_41, gam_42, gam_43, gam_44, gam_45, gam_46, gam_48, gam_49, gam_56, gam_57, gam_58, gam_59, gam_60, gam_61, gim_27, gim_28, gim_29, gim_30, gim_31, gim_32, gim_33, gim_34, gim_35, gim_36, gim_47, gim_50, gim_51, gim_52, gim_53, gim_54, gim_55, gim_62, gim_63, ob_some, reduceIte, lit, le_T, le_F, lt_T, lt_F, eq_T, eq_F, nI_add, ldm_997, stm_997, ldm_998, stm_998, ldm_999, stm_999, ldm_1000, stm_1000, ldm_1001, stm_1001, ldm_1002, stm_1002, ldm_1003, stm_1003, ldm_1004, stm_1004, ldm_1005, stm_1005, ldm_1006, stm_1006, ldm_1007, stm_1007, ldm_1008, stm_1008, ldm_1009, stm_1009, ldm_1010, stm_1010, ldm_1011, stm_1011, ldm_1012, stm_1012, ldm_1013, stm_1013, ldm_1014, stm_1014, ldm_1015, stm_1015, ldm_1016, stm_1016, ldm_1017, stm_1017, ldm_1018, stm_1018, ldm_1019, stm_1019, ldm_1020, stm_1020, ldm_1021, stm_1021, ldm_1022, stm_1022, u2_s, u2_a, u2_b, not_true, not_false_iff, b1, go]
      rw [B_X12_readsAll_28]
      simp (disch := omega) only [gdm, gam_1, gam_2, gam_3, gam_4, gam_5, gam_6, gam_7, gam_8, gam_9, gam_10, gam_11, gam_12, gam_13, gam_14, gam_15, gam_16, gam_17, gam_18, gam_19, gam_20, gam_21, gam_22, gam_23, gam_24, gam_25, gam_26, gam_37, gam_38, gam_39, gam_40, gam_41, gam_42, gam_43, gam_44, gam_45, gam_46, gam_48, gam_49, gam_56, gam_57, gam_58, gam_59, gam_60, gam_61, gim_27, gim_28, gim_29, gim_30, gim_31, gim_32, gim_33, gim_34, gim_35, gim_36, gim_47, gim_50, gim_51, gim_52, gim_53, gim_54, gim_55, gim_62, gim_63, ob_some, reduceIte, lit, le_T, le_F, lt_T, lt_F, eq_T, eq_F, nI_add, ldm_997, stm_997, ldm_998, stm_998, ldm_999, stm_999, ldm_1000, stm_1000, ldm_1001, stm_1001, ldm_1002, stm_1002, ldm_1003, stm_1003, ldm_1004, stm_1004, ldm_1005, stm_1005, ldm_1006, stm_1006, ldm_1007, stm_1007, ldm_1008, stm_1008, ldm_1009, stm_1009, ldm_1010, stm_1010, ldm_1011, stm_1011, ldm_1012, stm_1012, ldm_1013, stm_1013, ldm_1014, stm_1014, ldm_1015, stm_1015, ldm_1016, stm_1016, ldm_1017, stm_1017, ldm_1018, stm_1018, ldm_1019, stm_1019, ldm_1020, stm_1020, ldm_1021, stm_1021, ldm_1022, stm_1022, u2_s, u2_a, u2_b, not_true, not_false_iff, pim_27, pim_28, pim_29, pim_30, pim_31, pim_32, pim_33, pim_34, pim_35, pim_36, pim_47, pim_50, pim_51, pim_52, pim_53, pim_54, pim_55, pim_62, pim_63]
set_option maxRecDepth 4000 in
theorem readM {T : TT} {m : Nat → Nat → Int32} {q : Nat → Nat → Int64} (hT : TM T m) : ∃ m1, F_X12_readsAll 996 (KS, m, q) = some ((), (KS, m1, q)) ∧ (∀ j, j ≠ 996 → j < 1015 ∨ 1022 < j → m1 j = m j) ∧ (∀ k, k < 27 ∨ k = 30 ∨ k = 31 ∨ 35 ≤ k → m1 996 k = m 996 k) ∧ m1 996 27 = nI 0 ∧ m1 996 29 = nI (plz T 41 0 0 zD).1 ∧ ((plz T 41 0 0 zD).1 = 0 → PR (vq m1) (plz T 41 0 0 zD).2) := by
  obtain ⟨g, hg⟩ : ∃ g, mk_fu = g + 1 + 1 + 1 + 1 + 1 + 1 := ⟨99994, rfl⟩
  obtain ⟨m1, r1, r2, r3, r4, r5⟩ := plN (q := q) 40 0 0 mk_fu (mk_u2 (mk_u2 (mk_u2 (mk_u2 (mk_u2 (mk_u2 (mk_u2 (mk_u2 (mk_u2 (mk_u2 m 996 28 (nI 0)) 996 29 (nI 0)) 996 32 (nI 0)) 996 33 (nI 0)) 996 34 (nI 0)) 1015 0 (nI 0)) 1015 1 (nI 0)) 1015 2 (nI 0)) 1015 3 (nI 0)) 1015 4 (nI 0)) zD (by omega) (by rw [mk_fu_eq]; omega) (hT.eq (by simp (disch := omega) only [u2_s, u2_a, u2_b]) (by simp (disch := omega) only [mk_u2_ne])) (by simp (disch := omega) only [u2_s, u2_a, u2_b]) (by simp (disch := omega) only [u2_s, u2_a, u2_b]) (by omega) (.inl ⟨rfl, ⟨rfl, rfl, rfl⟩, by show mk_u2 _ 1015 4 _ 1015 2 = _; simp (disch := omega) only [u2_s, u2_a, u2_b], by show mk_u2 _ 1015 4 _ 1015 3 = _; simp (disch := omega) only [u2_s, u2_a, u2_b], by show mk_u2 _ 1015 4 _ 1015 4 = _; simp (disch := omega) only [u2_s, u2_a, u2_b]⟩)
  refine ⟨m1, ?_, fun j h1 h2 => ?_, fun k hk => ?_, r3, r4, r5⟩
  · have r6 : ∀ f m, B_X12_readsAll_6 (f + 1) 996 (nI 5) (KS, m, q) = B_X12_readsAll_28 mk_fu 996 (nI 0) (nI 1) (KS, m, q) := fun f m => by
      rw [B_X12_readsAll_6]
      simp (disch := omega) only [gdm, gam_1, gam_2, gam_3, gam_4, gam_5, gam_6, gam_7, gam_8, gam_9, gam_10, gam_11, gam_12, gam_13, gam_14, gam_15, gam_16, gam_17, gam_18, gam_19, gam_20, gam_21, gam_22, gam_23, gam_24, gam_25, gam_26, gam_37, gam_38, gam_39, gam_40, gam_41, gam_42, gam_43, gam_44, gam_45, gam_46, gam_48, gam_49, gam_56, gam_57, gam_58, gam_59, gam_60, gam_61, gim_27, gim_28, gim_29, gim_30, gim_31, gim_32, gim_33, gim_34, gim_35, gim_36, gim_47, gim_50, gim_51, gim_52, gim_53, gim_54, gim_55, gim_62, gim_63, ob_some, reduceIte, lit, le_T, le_F, lt_T, lt_F, eq_T, eq_F, nI_add, ldm_997, stm_997, ldm_998, stm_998, ldm_999, stm_999, ldm_1000, stm_1000, ldm_1001, stm_1001, ldm_1002, stm_1002, ldm_1003, stm_1003, ldm_1004, stm_1004, ldm_1005, stm_1005, ldm_1006, stm_1006, ldm_1007, stm_1007, ldm_1008, stm_1008, ldm_1009, stm_1009, ldm_1010, stm_1010, ldm_1011, stm_1011, ldm_1012, stm_1012, ldm_1013, stm_1013, ldm_1014, stm_1014, ldm_1015, stm_1015, ldm_1016, stm_1016, ldm_1017, stm_1017, ldm_1018, stm_1018, ldm_1019, stm_1019, ldm_1020, stm_1020, ldm_1021, stm_1021, ldm_1022, stm_1022, u2_s, u2_a, u2_b, not_true, not_false_iff]
    have r7 : ∀ f j m, j < 5 → B_X12_readsAll_6 (f + 1) 996 (nI j) (KS, m, q) = B_X12_readsAll_6 f 996 (nI (j + 1)) (KS, mk_u2 m 1015 j (nI 0), q) := fun f j m hj => by
      rw [B_X12_readsAll_6]
      simp (disch := omega) only [gdm, gam_1, gam_2, gam_3, gam_4, gam_5, gam_6, gam_7, gam_8, gam_9, gam_10, gam_11, gam_12, gam_13, gam_14, gam_15, gam_16, gam_17, gam_18, gam_19, gam_20, gam_21, gam_22, gam_23, gam_24, gam_25, gam_26, gam_37, gam_38, gam_39, gam_40, gam_41, gam_42, gam_43, gam_44, gam_45, gam_46, gam_48, gam_49, gam_56, gam_57, gam_58, gam_59, gam_60, gam_61, gim_27, gim_28, gim_29, gim_30, gim_31, gim_32, gim_33, gim_34, gim_35, gim_36, gim_47, gim_50, gim_51, gim_52, gim_53, gim_54, gim_55, gim_62, gim_63, ob_some, reduceIte, lit, le_T, le_F, lt_T, lt_F, eq_T, eq_F, nI_add, ldm_997, stm_997, ldm_998, stm_998, ldm_999, stm_999, ldm_1000, stm_1000, ldm_1001, stm_1001, ldm_1002, stm_1002, ldm_1003, stm_1003, ldm_1004, stm_1004, ldm_1005, stm_1005, ldm_1006, stm_1006, ldm_1007, stm_1007, ldm_1008, stm_1008, ldm_1009, stm_1009, ldm_1010, stm_1010, ldm_1011, stm_1011, ldm_1012, stm_1012, ldm_1013, stm_1013, ldm_1014, stm_1014, ldm_1015, stm_1015, ldm_1016, stm_1016, ldm_1017, stm_1017, ldm_1018, stm_1018, ldm_1019, stm_1019, ldm_1020, stm_1020, ldm_1021, stm_1021, ldm_1022, stm_1022, u2_s, u2_a, u2_b, not_true, not_false_iff]
    unfold F_X12_readsAll F_X12_starts
    simp (disch := omega) only [gdm, gam_1, gam_2, gam_3, gam_4, gam_5, gam_6, gam_7, gam_8, gam_9, gam_10, gam_11, gam_12, gam_13, gam_14, gam_15, gam_16, gam_17, gam_18, gam_19, gam_20, gam_21, gam_22, gam_23, gam_24, gam_25, gam_26, gam_37, gam_38, gam_39, gam_40, gam_41, gam_42, gam_43, gam_44, gam_45, gam_46, gam_48, gam_49, gam_56, gam_57, gam_58, gam_59, gam_60, gam_61, gim_27, gim_28, gim_29, gim_30, gim_31, gim_32, gim_33, gim_34, gim_35, gim_36, gim_47, gim_50, gim_51, gim_52, gim_53, gim_54, gim_55, gim_62, gim_63, ob_some, reduceIte, lit, le_T, le_F, lt_T, lt_F, eq_T, eq_F, nI_add, ldm_997, stm_997, ldm_998, stm_998, ldm_999, stm_999, ldm_1000, stm_1000, ldm_1001, stm_1001, ldm_1002, stm_1002, ldm_1003, stm_1003, ldm_1004, stm_1004, ldm_1005, stm_1005, ldm_1006, stm_1006, ldm_1007, stm_1007, ldm_1008, stm_1008, ldm_1009, stm_1009, ldm_1010, stm_1010, ldm_1011, stm_1011, ldm_1012, stm_1012, ldm_1013, stm_1013, ldm_1014, stm_1014, ldm_1015, stm_1015, ldm_1016, stm_1016, ldm_1017, stm_1017, ldm_1018, stm_1018, ldm_1019, stm_1019, ldm_1020, stm_1020, ldm_1021, stm_1021, ldm_1022, stm_1022, u2_s, u2_a, u2_b, not_true, not_false_iff, pim_27, pim_28, pim_29, pim_30, pim_31, pim_32, pim_33, pim_34, pim_35, pim_36, pim_47, pim_50, pim_51, pim_52, pim_53, pim_54, pim_55, pim_62, pim_63]
    refine Eq.trans (b := B_X12_readsAll_6 (g + 1 + 1 + 1 + 1 + 1 + 1) 996 (nI 0) _) (by rw [hg]) ?_
    rw [r7 _ 0 _ (by omega), r7 _ 1 _ (by omega), r7 _ 2 _ (by omega), r7 _ 3 _ (by omega), r7 _ 4 _ (by omega), r6]
    exact r1
  · rw [r2.1 j h1 h2]
    simp (disch := omega) only [mk_u2_ne]
  · rw [r2.2 k (by omega) (by omega) (by omega)]
    simp (disch := omega) only [u2_s, u2_a, u2_b]
