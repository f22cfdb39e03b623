theorem aB_3 {P A : Nat → Nat → Nat} {G : Nat → Bool} {n p : Nat} (h : p < n) : aB P A G n 3 p = if G p then 0 else A 3 p := by simp [aB, h]
theorem aB_4 {P A : Nat → Nat → Nat} {G : Nat → Bool} {n p : Nat} (h : p < n) : aB P A G n 4 p = if G p then A 4 p + 1 else A 4 p := by simp [aB, h]
theorem aB_5 {P A : Nat → Nat → Nat} {G : Nat → Bool} {n p : Nat} (h : p < n) : aB P A G n 5 p = if G p then 1 else min 99 (A 5 p + 1) := by simp [aB, h]
theorem aB_0 {P A : Nat → Nat → Nat} {G : Nat → Bool} {j p : Nat} (h : j ≠ 7) : aB P A G 0 j p = A j p := by simp [aB, h]
/-- an hour of the class -/
theorem pass_ok {m : Nat → Nat → Int32} {q : Nat → Nat → Int64} {P A : Nat → Nat → Nat} {g : Nat → Bool} {R : Option Nat} {kept : Int32} {a b : Nat} (ha : a ∈ PB) (hb : b ∈ SB) (hP : PR (blk m a) P) (hA : SR P (blk m b) A) (hh : A 0 1 < 100000) (hE : EX m)
    (hSay : ∀ m1, (∀ j, j ≠ b + 3 → m1 j = m j) → (∀ p, p < P 0 2 → m1 (b + 3) p = nI (min 99 (A 3 p + 1))) → SayOK R g a b m1 (P 0 2) (fun p => min 99 (A 3 p + 1)) (P 2)) :
    ∃ m1 q1, F_X9_pass 198 a R b kept (KS, m, q) = some (nI (gb (keptG g kept) (P 0 2)), (KS, m1, q1)) ∧ Out m m1 b (b + 8) ∧ SR P (blk m1 b) (aP P A (keptG g kept)) := by
  obtain ⟨h0, h1, h2, h3, h4, h5, h6, h7⟩ := sb_all hb
  have hl := sb_lt hb
  have hla := pb_lt ha
  have hab := pb_sb ha hb
  have hsq := hP.sq
  obtain ⟨B0, B1, B2, B3, B4, B5, B6⟩ := id hP.2.1
  obtain ⟨a1, a2, a3, ⟨a4, a4b⟩, ⟨a5, a5b⟩, a6, a7, a8⟩ := hA
  have a4 : m b 7 = nI (A 0 0) := a4
  have a5 : m b 8 = nI (A 0 1) := a5
  generalize hG : keptG g kept = G
  have hW : ∀ c, aW P A G c ≤ 600 := fun c => aW_le B4
  -- (1)
  obtain ⟨m1, f1, z0, z1, z2, z3⟩ := urge_loop (q := q) (R := R) (kept := kept) (U := A 3) ha hb (fun p hp => (a1 p hp).2.2.1.2) (P 0 2) 0 mk_fu m (by omega) (by rw [mk_fu_eq]; omega) hP (fun p hp => by rw [if_neg (Nat.not_lt_zero p)]; exact (a1 p hp).2.2.1.1)
  have hP1 : PR (blk m1 a) P := hP.keep (fun j hj => z2 _ (by omega))
  -- (2)
  obtain ⟨q1, y1⟩ := givers_loop (q := q) (R := R) (kept := kept) (g := g) (U := fun p => min 99 (A 3 p + 1)) ha hb hP1 (fun p hp => ⟨z3 p hp, by omega⟩) (hSay m1 z2 z3) (P 0 2) 0 mk_fu (by omega) (by rw [mk_fu_eq]; omega)
  -- (3)
  have hE1 : EX m1 := hE.keep (fun j hj => z2 j (by omega))
  obtain ⟨m2, f2, x1⟩ : ∃ m2, F_J7_fill_53178 (b + 7) 0 (KS, m1, q1) = some ((), (KS, m2, q1)) ∧ ∀ i k, m2 i k = if i = b + 7 then (if k < 36 then 0 else m1 (b + 7) k) else m1 i k := by
    refine ⟨_, fill_ok h7 (by omega) (by omega), fun i k => ?_⟩
    unfold va_up
    by_cases e : i = b + 7
    · subst e; simp
    · simp [e]
  have x2 : ∀ i, i ≠ b + 7 → m2 i = m1 i := fun i hi => funext fun k => by rw [x1, if_neg hi]
  have hP2 : PR (blk m2 a) P := hP1.keep (fun j hj => x2 _ (by omega))
  obtain ⟨m3, w1, w2, w3, w4, w5, w6⟩ := blow_loop (q := q1) (G := G) (A := aU A) ha hb (fun p hp => by
      obtain ⟨⟨-, c1⟩, ⟨-, c2⟩, ⟨-, c3⟩, ⟨-, c4⟩, ⟨-, c5⟩⟩ := a1 p hp
      refine ⟨by simp [aU]; exact c1, by simp [aU]; exact c2, by simp only [aU, if_true]; omega, by simp [aU]; exact c4, by simp [aU]; exact c5⟩) (P 0 2) 0 mk_fu m2 (by omega) (by rw [mk_fu_eq]; omega) hP2 (hE1.keep (fun j hj => x2 j (by omega))) (fun p hp => by
      obtain ⟨⟨c1, -⟩, ⟨c2, -⟩, -, ⟨c4, -⟩, ⟨c5, -⟩⟩ := a1 p hp
      refine ⟨?_, ?_, ?_, ?_, ?_⟩
      · rw [x2 _ (by omega), z2 _ (by omega)]; exact c1
      · rw [x2 _ (by omega), z2 _ (by omega)]; exact c2
      · rw [x2 _ (by omega), z3 p hp, aB_0 (by omega)]; simp [aU]
      · rw [x2 _ (by omega), z2 _ (by omega), aB_0 (by omega)]; exact c4
      · rw [x2 _ (by omega), z2 _ (by omega), aB_0 (by omega)]; exact c5) (fun c hc => by
      rw [x1, if_pos rfl, if_pos (by omega)]
      rfl)
  have hP3 : PR (blk m3 a) P := hP2.keep (fun j hj => w2 _ (by omega) (by omega) (by omega) (by omega))
  -- (4)
  obtain ⟨m4, v1, v2, v3, v4⟩ := grind_loop (q := q1) (W := aW P A G) (A6 := A 6) ha hb (fun c _ => hW c) (fun k hk => (a2 k hk).2) (P 0 3) 0 mk_fu m3 (by omega) (by rw [mk_fu_eq]; omega) hP3 w4 (fun k hk => by
      rw [if_neg (Nat.not_lt_zero k), w2 _ (by omega) (by omega) (by omega) (by omega), x2 _ (by omega), z2 _ (by omega)]
      exact (a2 k hk).1)
  have hP4 : PR (blk m4 a) P := hP3.keep (fun j hj => v2 _ (by omega))
  obtain ⟨m5, u1, u2, u3, u4⟩ := unroof_loop (q := q1) (W := aW P A G) (o := A 0 0) ha hb a4b (fun c _ => hW c) (P 0 4) 0 mk_fu m4 (by omega) (by rw [mk_fu_eq]; omega) hP4 (fun c hc => by rw [v2 _ (by omega)]; exact w4 c hc) (by
      rw [v2 _ (by omega), w2 _ (by omega) (by omega) (by omega) (by omega), x2 _ (by omega), z2 _ (by omega)]
      exact a4)
  have hP5 : PR (blk m5 a) P := hP4.keep (fun j hj => u2 _ (by omega))
  -- (5)
  obtain ⟨m6, s1, s2, s3⟩ := spread_loop (q := q1) (W := aW P A G) (U := fun p => if G p then 0 else aU A 3 p) (A1 := A 1) ha hb (fun c _ => hW c) (fun p hp => ⟨by simp only [aU, if_true]; split <;> omega, (a1 p hp).1.2⟩) (P 0 2) 0 mk_fu m5 (by omega) (by rw [mk_fu_eq]; omega) hP5 (fun c hc => by rw [u2 _ (by omega), v2 _ (by omega)]; exact w4 c hc) (fun p hp => by
      rw [if_neg (Nat.not_lt_zero p), u2 _ (by omega), u2 _ (by omega), v2 _ (by omega), v2 _ (by omega)]
      refine ⟨?_, (w3 p hp).1.trans (by rw [aB_3 hp])⟩
      rw [w2 _ (by omega) (by omega) (by omega) (by omega), x2 _ (by omega), z2 _ (by omega)]
      exact (a1 p hp).1.1)
  have hC5 : m5 a 1 = nI (P 0 1) := hP5.1.2.1
  have hb8 : m6 b 8 = nI (A 0 1) := by
    rw [s2 _ (by omega), u4, v2 _ (by omega), w2 _ (by omega) (by omega) (by omega) (by omega), x2 _ (by omega), z2 _ (by omega)]
    exact a5
  refine ⟨mk_u2 m6 b 8 (nI (A 0 1 + 1)), q1, ?_, ?_, ?_⟩
  · unfold F_X9_pass
    rw [gd_ok kk_198 rfl]
    obtain ⟨f1, rfl⟩ : ∃ f, f1 = f + 1 := ⟨f1 - 1, by omega⟩
    refine z1.trans ?_
    have hN : m1 a 2 = nI (P 0 2) := hP1.1.2.2.1
    rw [B_X9_pass_3]
    simp only [pb_g ha, Option.bind_some, hN]
    rw [if_pos (nI_le (Nat.le_refl _) (by omega))]
    unfold F_X9_giversOf
    rw [gd_ok kk_198 rfl]
    have y1' : B_X9_giversOf_6 mk_fu 198 a R b kept 0 0 (KS, m1, q) = some (nI (gb G (P 0 2)), (KS, m1, q1)) := by rw [← hG]; exact y1
    rw [y1', Option.bind_some]
    unfold F_X9_blow F_X9_grind F_X9_unroof F_X9_spread
    simp only [sb_g hb, Option.bind_some]
    rw [f2, Option.bind_some]
    have w1' : B_X9_blow_10 mk_fu a b (nI (gb G (P 0 2))) 0 (KS, m2, q1) = some ((), (KS, m3, q1)) := w1
    have v1' : B_X9_grind_2 mk_fu a b 0 (KS, m3, q1) = some ((), (KS, m4, q1)) := v1
    have u1' : B_X9_unroof_2 mk_fu a b 0 (KS, m4, q1) = some ((), (KS, m5, q1)) := u1
    have s1' : B_X9_spread_10 mk_fu a b 0 (KS, m5, q1) = some ((), (KS, m6, q1)) := s1
    rw [w1', Option.bind_some, v1', Option.bind_some, u1', Option.bind_some]
    simp only [pb_g ha, Option.bind_some, hC5]
    rw [if_pos (show (0 : Int32) < nI (P 0 1) from nI_lt (a := 0) (by omega) (by omega)), s1', Option.bind_some]
    simp only [sb_g hb, sb_pi hb, Option.bind_some, hb8, nI_1]
  · intro i hi
    rw [mk_u2_ne (by omega), s2 _ (by omega), u2 _ (by omega), v2 _ (by omega), w2 _ (by omega) (by omega) (by omega) (by omega), x2 _ (by omega), z2 _ (by omega)]
  · refine ⟨fun p hp => ?_, fun k hk => ?_, fun c hc => ?_, ⟨?_, ?_⟩, ⟨?_, ?_⟩, fun p hp hp2 => ?_, fun k hk hk2 => ?_, fun c hc hc2 => ?_⟩ <;> try unfold blk
    · obtain ⟨⟨c1, d1⟩, ⟨c2, d2⟩, -, ⟨c4, d4⟩, ⟨c5, d5⟩⟩ := a1 p hp
      refine ⟨⟨?_, d1⟩, ⟨?_, d2⟩, ⟨?_, ?_⟩, ⟨?_, ?_⟩, ⟨?_, ?_⟩⟩
      · rw [mk_u2_ne (by omega), s2 _ (by omega), u2 _ (by omega), v2 _ (by omega), w2 _ (by omega) (by omega) (by omega) (by omega), x2 _ (by omega), z2 _ (by omega)]
        exact c1
      · rw [mk_u2_ne (by omega), s2 _ (by omega), u2 _ (by omega), v2 _ (by omega), w2 _ (by omega) (by omega) (by omega) (by omega), x2 _ (by omega), z2 _ (by omega)]
        exact c2
      · rw [mk_u2_ne (by omega), s3 p hp]
        rfl
      · simp only [aP]; omega
      · rw [mk_u2_ne (by omega), s2 _ (by omega), u2 _ (by omega), v2 _ (by omega), (w3 p hp).2.1, aB_4 hp]
        rfl
      · simp only [aP]
        simp only [Nat.one_ne_zero, if_false]
        split <;> omega
      · rw [mk_u2_ne (by omega), s2 _ (by omega), u2 _ (by omega), v2 _ (by omega), (w3 p hp).2.2, aB_5 hp]
        rfl
      · simp only [aP]
        split <;> omega
    · refine ⟨?_, by simp only [aP]; omega⟩
      rw [mk_u2_ne (by omega), s2 _ (by omega), u2 _ (by omega), v3 k hk]
      rfl
    · refine ⟨?_, hW c⟩
      rw [mk_u2_ne (by omega), s2 _ (by omega), u2 _ (by omega), v2 _ (by omega), w4 c hc]
      rfl
    · show mk_u2 m6 b 8 _ b 7 = _
      rw [u2_at, if_neg (by omega), s2 _ (by omega), u3]
      rfl
    · exact offN_lt a4b _ B6
    · show mk_u2 m6 b 8 _ b 8 = _
      rw [u2_at, if_pos ⟨rfl, rfl⟩]
      rfl
    · simp only [aP]
      simp only [Nat.one_ne_zero, if_false]
      omega
    · rw [mk_u2_ne (by omega), s2 _ (by omega), u2 _ (by omega), v2 _ (by omega), w5 p hp, x2 _ (by omega), z2 _ (by omega)]
      exact a6 p hp hp2
    · rw [mk_u2_ne (by omega), s2 _ (by omega), u2 _ (by omega), v4 k hk, w2 _ (by omega) (by omega) (by omega) (by omega), x2 _ (by omega), z2 _ (by omega)]
      exact a7 k hk hk2
    · rw [mk_u2_ne (by omega), s2 _ (by omega), u2 _ (by omega), v2 _ (by omega), w6 c hc, x1, if_pos rfl, if_pos hc2]
