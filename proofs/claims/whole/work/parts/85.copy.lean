/-! images -/
set_option maxRecDepth 4000 in
theorem cp_step {m : Nat → Nat → Int32} {q : Nat → Nat → Int64} {a b n1 n2 n : Nat} {R1 R2 : List (Option Nat)} {x : Int32} (hK : KS[a]? = some (100, n1, R1)) (hJ : KS[b]? = some (100, n2, R2)) (hx : x = nI n) (hn1 : n ≤ n1) (hn2 : n ≤ n2) (hb : n ≤ 100000) : ∃ m1, mk_cp (KS, m, q) a (nI 0) b (nI 0) x = some (KS, m1, q) ∧ (∀ i, i ≠ b → m1 i = m i) ∧ (∀ k, k < n → m1 b k = m a k) := by
  refine ⟨_, cp_ok hK hJ hx hn1 hn2 hb, fun i hi => ?_, fun k hk => ?_⟩
  · unfold va_up; exact if_neg hi
  · unfold va_up; simp [hk]
set_option maxRecDepth 4000 in
theorem fill_step {m : Nat → Nat → Int32} {q : Nat → Nat → Int64} {a n : Nat} {R : List (Option Nat)} {x : Int32} (h : KS[a]? = some (100, n, R)) (ha : a < 2000000) (hb : n ≤ 1000) : ∃ m1, F_J7_fill_53178 a x (KS, m, q) = some ((), (KS, m1, q)) ∧ (∀ i, i ≠ a → m1 i = m i) ∧ (∀ k, k < n → m1 a k = x) := by
  refine ⟨_, fill_ok h ha hb, fun i hi => ?_, fun k hk => ?_⟩
  · unfold va_up; exact if_neg hi
  · unfold va_up; simp [hk]
set_option maxRecDepth 4000 in
theorem pb_pi {a k : Nat} (ha : a ∈ PB) (m : Nat → Nat → Int32) (q : Nat → Nat → Int64) (v : Int32) (hk : k < 12) : mk_pi (KS, m, q) a 3 k v = some (KS, mk_u2 m a k v, q) := pi_ok (pb_all ha).1 rfl hk
set_option maxRecDepth 4000 in
theorem nb_lt {a : Nat} (h : a ∈ NB) : a + 4 ≤ 1000 := by
  have : ∀ a ∈ NB, a + 4 ≤ 1000 := by decide
  exact this a h
set_option maxRecDepth 4000 in
theorem wb_apart {a b : Nat} (ha : a ∈ WB) (hb : b ∈ WB) : a = b ∨ a + 183 ≤ b ∨ b + 183 ≤ a := by
  have : ∀ a ∈ WB, ∀ b ∈ WB, a = b ∨ a + 183 ≤ b ∨ b + 183 ≤ a := by decide
  exact this a ha b hb
set_option maxRecDepth 4000 in
theorem wb_lt {a : Nat} (ha : a ∈ WB) : 14 ≤ a ∧ a + 183 ≤ 996 := by
  have : ∀ a ∈ WB, 14 ≤ a ∧ a + 183 ≤ 996 := by decide
  exact this a ha
set_option maxRecDepth 4000 in
theorem p_copyFrom {m : Nat → Nat → Int32} {q : Nat → Nat → Int64} {a b : Nat} (ha : a ∈ PB) (hb : b ∈ PB) (hap : a + 8 ≤ b ∨ b + 8 ≤ a) : ∃ m1, F_X3_copyFrom a b (KS, m, q) = some ((), (KS, m1, q)) ∧ Out m m1 a (a + 8) ∧ (∀ k, k < 5 → m1 a k = m b k) ∧ (∀ j k, 1 ≤ j → j ≤ 3 → k < 6 → m1 (a + j) k = m (b + j) k) ∧ (∀ j k, 4 ≤ j → j ≤ 7 → k < 4 → m1 (a + j) k = m (b + j) k) := by
  obtain ⟨h0, h1, h2, h3, h4, h5, h6, h7⟩ := pb_all ha
  obtain ⟨g0, g1, g2, g3, g4, g5, g6, g7⟩ := pb_all hb
  generalize hm0 : mk_u2 (mk_u2 (mk_u2 (mk_u2 (mk_u2 m a 0 (m b 0)) a 1 (m b 1)) a 2 (m b 2)) a 3 (m b 3)) a 4 (m b 4) = m0
  have e0 : ∀ i, i ≠ a → m0 i = m i := fun i hi => by rw [← hm0, mk_u2_ne hi, mk_u2_ne hi, mk_u2_ne hi, mk_u2_ne hi, mk_u2_ne hi]
  have eb : b ≠ a := by omega
  have v0 : ∀ k, k < 5 → m0 a k = m b k := fun k hk => by
    rw [← hm0]
    rcases (show k = 0 ∨ k = 1 ∨ k = 2 ∨ k = 3 ∨ k = 4 by omega) with e | e | e | e | e <;> subst e <;> simp (disch := omega) only [u2_s, u2_b]
  obtain ⟨n1, c1, d1, w1⟩ := cp_step (m := m0) (q := q) (n := 6) (x := nI 6) g1 h1 rfl (by omega) (by omega) (by omega)
  obtain ⟨n2, c2, d2, w2⟩ := cp_step (m := n1) (q := q) (n := 6) (x := nI 6) g2 h2 rfl (by omega) (by omega) (by omega)
  obtain ⟨n3, c3, d3, w3⟩ := cp_step (m := n2) (q := q) (n := 6) (x := nI 6) g3 h3 rfl (by omega) (by omega) (by omega)
  obtain ⟨n4, c4, d4, w4⟩ := cp_step (m := n3) (q := q) (n := 4) (x := nI 4) g4 h4 rfl (by omega) (by omega) (by omega)
  obtain ⟨n5, c5, d5, w5⟩ := cp_step (m := n4) (q := q) (n := 4) (x := nI 4) g5 h5 rfl (by omega) (by omega) (by omega)
  obtain ⟨n6, c6, d6, w6⟩ := cp_step (m := n5) (q := q) (n := 4) (x := nI 4) g6 h6 rfl (by omega) (by omega) (by omega)
  obtain ⟨n7, c7, d7, w7⟩ := cp_step (m := n6) (q := q) (n := 4) (x := nI 4) g7 h7 rfl (by omega) (by omega) (by omega)
  refine ⟨n7, ?_, fun i hi => ?_, fun k hk => ?_, fun j k hj1 hj2 hk => ?_, fun j k hj1 hj2 hk => ?_⟩
  · unfold F_X3_copyFrom
    simp (disch := omega) only [pb_gd ha, pb_g ha, pb_g hb, pb_pi ha, ob_some, lit, u2_a, hm0, c1, c2, c3, c4, c5, c6, c7]
  · rw [d7 i (by omega), d6 i (by omega), d5 i (by omega), d4 i (by omega), d3 i (by omega), d2 i (by omega), d1 i (by omega), e0 i (by omega)]
  · rw [d7 a (by omega), d6 a (by omega), d5 a (by omega), d4 a (by omega), d3 a (by omega), d2 a (by omega), d1 a (by omega)]; exact v0 k hk
  · rcases (show j = 1 ∨ j = 2 ∨ j = 3 by omega) with e | e | e <;> subst e
    · rw [d7 (a + 1) (by omega), d6 (a + 1) (by omega), d5 (a + 1) (by omega), d4 (a + 1) (by omega), d3 (a + 1) (by omega), d2 (a + 1) (by omega), w1 k hk, e0 (b + 1) (by omega)]
    · rw [d7 (a + 2) (by omega), d6 (a + 2) (by omega), d5 (a + 2) (by omega), d4 (a + 2) (by omega), d3 (a + 2) (by omega), w2 k hk, d1 (b + 2) (by omega), e0 (b + 2) (by omega)]
    · rw [d7 (a + 3) (by omega), d6 (a + 3) (by omega), d5 (a + 3) (by omega), d4 (a + 3) (by omega), w3 k hk, d2 (b + 3) (by omega), d1 (b + 3) (by omega), e0 (b + 3) (by omega)]
  · rcases (show j = 4 ∨ j = 5 ∨ j = 6 ∨ j = 7 by omega) with e | e | e | e <;> subst e
    · rw [d7 (a + 4) (by omega), d6 (a + 4) (by omega), d5 (a + 4) (by omega), w4 k hk, d3 (b + 4) (by omega), d2 (b + 4) (by omega), d1 (b + 4) (by omega), e0 (b + 4) (by omega)]
    · rw [d7 (a + 5) (by omega), d6 (a + 5) (by omega), w5 k hk, d4 (b + 5) (by omega), d3 (b + 5) (by omega), d2 (b + 5) (by omega), d1 (b + 5) (by omega), e0 (b + 5) (by omega)]
    · rw [d7 (a + 6) (by omega), w6 k hk, d5 (b + 6) (by omega), d4 (b + 6) (by omega), d3 (b + 6) (by omega), d2 (b + 6) (by omega), d1 (b + 6) (by omega), e0 (b + 6) (by omega)]
    · rw [w7 k hk, d6 (b + 7) (by omega), d5 (b + 7) (by omega), d4 (b + 7) (by omega), d3 (b + 7) (by omega), d2 (b + 7) (by omega), d1 (b + 7) (by omega), e0 (b + 7) (by omega)]
set_option maxRecDepth 4000 in
theorem n_copyFrom {m : Nat → Nat → Int32} {q : Nat → Nat → Int64} {a b : Nat} (ha : a ∈ NB) (hb : b ∈ NB) (hap : a + 4 ≤ b ∨ b + 4 ≤ a) : ∃ m1, F_X1_copyFrom a b (KS, m, q) = some ((), (KS, m1, q)) ∧ Out m m1 a (a + 4) ∧ m1 a 3 = m b 3 ∧ (∀ j k, 1 ≤ j → j ≤ 3 → k < 10 → m1 (a + j) k = m (b + j) k) := by
  obtain ⟨h0, h1, h2, h3⟩ := nb_all ha
  obtain ⟨g0, g1, g2, g3⟩ := nb_all hb
  have ga : ∀ m, (mk_ga (KS, m, q) a 1 0 = some (a + 1)) ∧ (mk_ga (KS, m, q) a 1 1 = some (a + 2)) ∧ (mk_ga (KS, m, q) a 1 2 = some (a + 3)) := fun m => ⟨ga_ok h0 rfl (by show 0 < 4; omega) rfl, ga_ok h0 rfl (by show 1 < 4; omega) rfl, ga_ok h0 rfl (by show 2 < 4; omega) rfl⟩
  have gb : ∀ m, (mk_ga (KS, m, q) b 1 0 = some (b + 1)) ∧ (mk_ga (KS, m, q) b 1 1 = some (b + 2)) ∧ (mk_ga (KS, m, q) b 1 2 = some (b + 3)) := fun m => ⟨ga_ok g0 rfl (by show 0 < 4; omega) rfl, ga_ok g0 rfl (by show 1 < 4; omega) rfl, ga_ok g0 rfl (by show 2 < 4; omega) rfl⟩
  have gi : ∀ m, mk_gi (KS, m, q) b 1 3 = some (m b 3) := fun m => gi_ok g0 rfl (by show 3 < 4; omega)
  have pi : ∀ m v, mk_pi (KS, m, q) a 1 3 v = some (KS, mk_u2 m a 3 v, q) := fun m v => pi_ok h0 rfl (by show 3 < 4; omega)
  have gd : ∀ (m : Nat → Nat → Int32) (o : Option (Unit × mk_S)), mk_gd (KS, m, q) a 1 o = o := fun m o => gd_ok h0 rfl
  obtain ⟨n1, c1, d1, w1⟩ := cp_step (m := m) (q := q) (n := 10) (x := nI 10) g1 h1 rfl (by omega) (by omega) (by omega)
  obtain ⟨n2, c2, d2, w2⟩ := cp_step (m := n1) (q := q) (n := 10) (x := nI 10) g2 h2 rfl (by omega) (by omega) (by omega)
  obtain ⟨n3, c3, d3, w3⟩ := cp_step (m := n2) (q := q) (n := 10) (x := nI 10) g3 h3 rfl (by omega) (by omega) (by omega)
  have e3 : n3 b 3 = m b 3 := by rw [d3 b (by omega), d2 b (by omega), d1 b (by omega)]
  refine ⟨mk_u2 n3 a 3 (m b 3), ?_, fun i hi => ?_, u2_s, fun j k hj1 hj2 hk => ?_⟩
  · unfold F_X1_copyFrom
    simp only [gd, (ga _).1, (ga _).2.1, (ga _).2.2, (gb _).1, (gb _).2.1, (gb _).2.2, ob_some, lit, c1, c2, c3, gi, pi, e3]
  · rw [mk_u2_ne (by omega), d3 i (by omega), d2 i (by omega), d1 i (by omega)]
  · rw [u2_a (by omega)]
    rcases (show j = 1 ∨ j = 2 ∨ j = 3 by omega) with e | e | e <;> subst e
    · rw [d3 (a + 1) (by omega), d2 (a + 1) (by omega), w1 k hk]
    · rw [d3 (a + 2) (by omega), w2 k hk, d1 (b + 2) (by omega)]
    · rw [w3 k hk, d2 (b + 3) (by omega), d1 (b + 3) (by omega)]
set_option maxRecDepth 4000 in
theorem hb_lda {m : Nat → Nat → Int32} {q : Nat → Nat → Int64} {a j : Nat} (ha : a ∈ HB) (hj : j < 20) : mk_lda (100 + 4) (KS, m, q) (a + 1) (nI j) = some (a + 2 + 8 * j) := by
  refine lda_ok (hb_all ha).2 hj (by omega) ?_
  simp [List.getD, hj]
set_option maxRecDepth 4000 in
theorem h_copyFrom {m : Nat → Nat → Int32} {q : Nat → Nat → Int64} {a b : Nat} (ha : a ∈ WB) (hb : b ∈ WB) (hap : a + 183 ≤ b ∨ b + 183 ≤ a) : ∃ m1, F_X0_copyFrom (a + 17) (b + 17) (KS, m, q) = some ((), (KS, m1, q)) ∧ Out m m1 (a + 17) (a + 179) ∧ m1 (a + 17) 1 = m (b + 17) 1 ∧ m1 (a + 17) 2 = m (b + 17) 2 ∧ (∀ s, s < 20 → SEq (blk m1 (a + 19 + 8 * s)) (blk m (b + 19 + 8 * s))) := by
  have hA := (wb_in a ha).2.2.1
  have hB := (wb_in b hb).2.2.1
  obtain ⟨h0, h1⟩ := hb_all hA
  obtain ⟨g0, g1⟩ := hb_all hB
  have ga : ∀ m, mk_ga (KS, m, q) (a + 17) 0 0 = some (a + 17 + 1) := fun m => ga_ok h0 rfl (by show 0 < 3; omega) rfl
  have gb : ∀ m, mk_ga (KS, m, q) (b + 17) 0 0 = some (b + 17 + 1) := fun m => ga_ok g0 rfl (by show 0 < 3; omega) rfl
  have gi : ∀ m, mk_gi (KS, m, q) (b + 17) 0 1 = some (m (b + 17) 1) ∧ mk_gi (KS, m, q) (b + 17) 0 2 = some (m (b + 17) 2) := fun m => ⟨gi_ok g0 rfl (by show 1 < 3; omega), gi_ok g0 rfl (by show 2 < 3; omega)⟩
  have pi : ∀ m v, mk_pi (KS, m, q) (a + 17) 0 1 v = some (KS, mk_u2 m (a + 17) 1 v, q) ∧ mk_pi (KS, m, q) (a + 17) 0 2 v = some (KS, mk_u2 m (a + 17) 2 v, q) := fun m v => ⟨pi_ok h0 rfl (by show 1 < 3; omega), pi_ok h0 rfl (by show 2 < 3; omega)⟩
  have gd : ∀ (m : Nat → Nat → Int32) (o : Option (Unit × mk_S)), mk_gd (KS, m, q) (a + 17) 0 o = o := fun m o => gd_ok h0 rfl
  generalize hm0 : mk_u2 (mk_u2 m (a + 17) 1 (m (b + 17) 1)) (a + 17) 2 (m (b + 17) 2) = m0
  have e0 : ∀ i, i ≠ a + 17 → m0 i = m i := fun i hi => by rw [← hm0, mk_u2_ne hi, mk_u2_ne hi]
  have e1 : m0 (a + 17) 1 = m (b + 17) 1 := by rw [← hm0, u2_b (by omega), u2_s]
  have e2 : m0 (a + 17) 2 = m (b + 17) 2 := by rw [← hm0, u2_s]
  have hr : mk_u2 m (a + 17) 1 (m (b + 17) 1) (b + 17) 2 = m (b + 17) 2 := u2_a (by omega)
  obtain ⟨f1, m1, e, i1, i2, i3⟩ := loop_up (fun f i (m' : Nat → Nat → Int32) => B_X0_copyFrom_18 f (a + 17) (b + 17) (nI i) (KS, m', q)) 20 (fun i m' => (∀ j, j < a + 19 ∨ a + 179 ≤ j → m' j = m0 j) ∧ (∀ s, s < i → SEq (blk m' (a + 19 + 8 * s)) (blk m (b + 19 + 8 * s))) ∧ (∀ j, a + 19 + 8 * i ≤ j → m' j = m0 j)) (by
    intro f i m' hi ⟨i1, i2, i3⟩
    have sa := (wb_in a ha).2.2.2.2 i hi
    have sb := (wb_in b hb).2.2.2.2 i hi
    obtain ⟨m2, z1, z2, z3⟩ := s_copyFrom (m := m') (q := q) sa sb (by omega)
    refine ⟨m2, ?_, fun j hj => (z2 j (by omega)).trans (i1 j hj), fun s hs => ?_, fun j hj => (z2 j (by omega)).trans (i3 j (by omega))⟩
    · simp only [B_X0_copyFrom_18]
      simp (disch := omega) only [lit, le_F, reduceIte, ga, gb, ob_some, hb_lda hA hi, hb_lda hB hi, nI_add]
      rw [show a + 17 + 2 + 8 * i = a + 19 + 8 * i by omega, show b + 17 + 2 + 8 * i = b + 19 + 8 * i by omega, z1]
      rfl
    · by_cases es : s = i
      · subst es
        refine z3.trans (SEq.of (fun j hj => ?_))
        rw [i1 _ (by omega), e0 _ (by omega)]
      · exact SEq.trans (SEq.of (fun j hj => z2 _ (by omega))) (i2 s (by omega))) 20 0 mk_fu m0 (by omega) (by rw [mk_fu_eq]; omega) ⟨fun _ _ => rfl, fun s hs => absurd hs (by omega), fun _ _ => rfl⟩
  refine ⟨m1, ?_, fun i hi => ?_, ?_, ?_, i2⟩
  · unfold F_X0_copyFrom
    simp only [gd, (gi _).1, (gi _).2, (pi _ _).1, (pi _ _).2, ob_some, hr, hm0, lit]
    refine Eq.trans e ?_
    simp only [B_X0_copyFrom_18]
    simp (disch := omega) only [lit, le_T, reduceIte]
  · rw [i1 i (by omega), e0 i (by omega)]
  · rw [i1 _ (by omega)]; exact e1
  · rw [i1 _ (by omega)]; exact e2
set_option maxRecDepth 4000 in
theorem w_copyFrom {m : Nat → Nat → Int32} {q : Nat → Nat → Int64} {a b : Nat} {W : WT} (ha : a ∈ WB) (hb : b ∈ WB) (hap : a + 183 ≤ b ∨ b + 183 ≤ a) (h : CW m b W) : ∃ m1, F_X10_copyFrom a b (KS, m, q) = some ((), (KS, m1, q)) ∧ Out m m1 a (a + 183) ∧ CW m1 a W := by
  obtain ⟨P, A, H, n, N, nn, fo, x⟩ := W
  obtain ⟨cP, ⟨cA, cAh⟩, cH, ⟨cn1, cn2⟩, ⟨cf1, cf2⟩, ⟨cx1, cx2⟩⟩ := h
  obtain ⟨B0, B1, B2, B3, B4, B5⟩ := cP.bd
  obtain ⟨a1, a2, a3, a4, a5⟩ := wb_in a ha
  obtain ⟨b1, b2, b3, b4, b5⟩ := wb_in b hb
  have h0 := wb_all ha
  have g0 := wb_all hb
  have ga : ∀ m, (mk_ga (KS, m, q) a 9 0 = some (a + 1)) ∧ (mk_ga (KS, m, q) a 9 1 = some (a + 9)) ∧ (mk_ga (KS, m, q) a 9 2 = some (a + 17)) ∧ (mk_ga (KS, m, q) a 9 3 = some (a + 179)) := fun m => ⟨ga_ok h0 rfl (by show 0 < 6; omega) rfl, ga_ok h0 rfl (by show 1 < 6; omega) rfl, ga_ok h0 rfl (by show 2 < 6; omega) rfl, ga_ok h0 rfl (by show 3 < 6; omega) rfl⟩
  have gb : ∀ m, (mk_ga (KS, m, q) b 9 0 = some (b + 1)) ∧ (mk_ga (KS, m, q) b 9 1 = some (b + 9)) ∧ (mk_ga (KS, m, q) b 9 2 = some (b + 17)) ∧ (mk_ga (KS, m, q) b 9 3 = some (b + 179)) := fun m => ⟨ga_ok g0 rfl (by show 0 < 6; omega) rfl, ga_ok g0 rfl (by show 1 < 6; omega) rfl, ga_ok g0 rfl (by show 2 < 6; omega) rfl, ga_ok g0 rfl (by show 3 < 6; omega) rfl⟩
  have gi : ∀ m, mk_gi (KS, m, q) b 9 4 = some (m b 4) ∧ mk_gi (KS, m, q) b 9 5 = some (m b 5) := fun m => ⟨gi_ok g0 rfl (by show 4 < 6; omega), gi_ok g0 rfl (by show 5 < 6; omega)⟩
  have pi : ∀ m v, mk_pi (KS, m, q) a 9 4 v = some (KS, mk_u2 m a 4 v, q) ∧ mk_pi (KS, m, q) a 9 5 v = some (KS, mk_u2 m a 5 v, q) := fun m v => ⟨pi_ok h0 rfl (by show 4 < 6; omega), pi_ok h0 rfl (by show 5 < 6; omega)⟩
  have gd : ∀ (m : Nat → Nat → Int32) (o : Option (Unit × mk_S)), mk_gd (KS, m, q) a 9 o = o := fun m o => gd_ok h0 rfl
  obtain ⟨n1, p1, p2, p3, p4, p5⟩ := p_copyFrom (m := m) (q := q) a1 b1 (by omega)
  obtain ⟨n2, s1, s2, s3⟩ := s_copyFrom (m := n1) (q := q) a2 b2 (by omega)
  obtain ⟨n3, t1, t2, t3, t4, t5⟩ := h_copyFrom (m := n2) (q := q) ha hb hap
  obtain ⟨n4, u1, u2, u3, u4⟩ := n_copyFrom (m := n3) (q := q) a4 b4 (by omega)
  have k4 : ∀ i, b ≤ i → i < b + 183 → n4 i = m i := fun i h1 h2 => by rw [u2 i (by omega), t2 i (by omega), s2 i (by omega), p2 i (by omega)]
  generalize hm5 : mk_u2 (mk_u2 n4 a 4 (m b 4)) a 5 (m b 5) = m5
  have e5 : ∀ i, i ≠ a → m5 i = n4 i := fun i hi => by rw [← hm5, mk_u2_ne hi, mk_u2_ne hi]
  refine ⟨m5, ?_, fun i hi => ?_, ?_, ⟨?_, cAh⟩, ?_, ⟨?_, ?_⟩, ⟨?_, cf2⟩, ⟨?_, cx2⟩⟩
  · unfold F_X10_copyFrom
    have r4 : n4 b 4 = m b 4 := by rw [k4 b (by omega) (by omega)]
    have r5 : mk_u2 n4 a 4 (m b 4) b 5 = m b 5 := by rw [u2_a (by omega), k4 b (by omega) (by omega)]
    simp only [gd, (ga _).1, (ga _).2.1, (ga _).2.2.1, (ga _).2.2.2, (gb _).1, (gb _).2.1, (gb _).2.2.1, (gb _).2.2.2, (gi _).1, (gi _).2, (pi _ _).1, (pi _ _).2, ob_some, p1, s1, t1, u1, r4, r5, hm5]
  · rw [e5 i (by omega), u2 i (by omega), t2 i (by omega), s2 i (by omega), p2 i (by omega)]
  · refine cP.congr (fun k hk => ?_) (fun j k h1 h2 hk => ?_) (fun j k h1 h2 hk => ?_)
    · show m5 (a + 1) k = m (b + 1) k
      rw [e5 _ (by omega), u2 _ (by omega), t2 _ (by omega), s2 _ (by omega)]; exact p3 k hk
    · show m5 (a + 1 + j) k = m (b + 1 + j) k
      rw [e5 _ (by omega), u2 _ (by omega), t2 _ (by omega), s2 _ (by omega)]; exact p4 j k h1 h2 hk
    · show m5 (a + 1 + j) k = m (b + 1 + j) k
      rw [e5 _ (by omega), u2 _ (by omega), t2 _ (by omega), s2 _ (by omega)]; exact p5 j k h1 h2 hk
  · refine cA.set (SEq.trans (SEq.of (m := n2) (fun j hj => ?_)) (SEq.trans s3 (SEq.of (fun j hj => ?_)))) B2 B3 B5
    · rw [e5 _ (by omega), u2 _ (by omega), t2 _ (by omega)]
    · exact p2 _ (by omega)
  · obtain ⟨nx, x1, x2, x3, x4, x5⟩ := cH
    refine ⟨nx, x1, ?_, ?_, x4, fun i hi => ⟨(x5 i hi).1.set ?_ B2 B3 B5, (x5 i hi).2⟩⟩
    · rw [e5 _ (by omega), u2 _ (by omega), t3, s2 _ (by omega), p2 _ (by omega)]; exact x2
    · rw [e5 _ (by omega), u2 _ (by omega), t4, s2 _ (by omega), p2 _ (by omega)]; exact x3
    · have hm : (nx + 19 - i) % 20 < 20 := by omega
      generalize (nx + 19 - i) % 20 = s at hm
      rw [show a + 17 + 2 + 8 * s = a + 19 + 8 * s by omega, show b + 17 + 2 + 8 * s = b + 19 + 8 * s by omega]
      refine SEq.trans (SEq.of (m := n3) (fun j hj => ?_)) (SEq.trans (t5 s hm) (SEq.of (fun j hj => ?_)))
      · rw [e5 _ (by omega), u2 _ (by omega)]
      · rw [s2 _ (by omega), p2 _ (by omega)]
  · rw [e5 _ (by omega), u3, t2 _ (by omega), s2 _ (by omega), p2 _ (by omega)]; exact cn1
  · refine cn2.congr (fun k hk => ?_) (fun k hk => ?_) (fun k hk => ?_)
    · show m5 (a + 180) k = m (b + 180) k
      rw [e5 _ (by omega), show a + 180 = a + 179 + 1 from rfl, u4 1 k (by omega) (by omega) hk, t2 _ (by omega), s2 _ (by omega), p2 _ (by omega)]
    · show m5 (a + 181) k = m (b + 181) k
      rw [e5 _ (by omega), show a + 181 = a + 179 + 2 from rfl, u4 2 k (by omega) (by omega) hk, t2 _ (by omega), s2 _ (by omega), p2 _ (by omega)]
    · show m5 (a + 182) k = m (b + 182) k
      rw [e5 _ (by omega), show a + 182 = a + 179 + 3 from rfl, u4 3 k (by omega) (by omega) hk, t2 _ (by omega), s2 _ (by omega), p2 _ (by omega)]
  · rw [← hm5, u2_b (by omega), u2_s]; exact cf1
  · rw [← hm5, u2_s]; exact cx1
