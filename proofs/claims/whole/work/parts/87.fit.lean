/-! by which rules notes were so -/
def beginA (P : Nat → Nat → Nat) : Nat → Nat → Nat := fun j k => match j with
  | 1 => P 1 k
  | 2 => P 3 k
  | 5 => 99
  | _ => 0
set_option maxRecDepth 4000 in
theorem s_begin {m : Nat → Nat → Int32} {q : Nat → Nat → Int64} {P : Nat → Nat → Nat} {a b : Nat} (ha : a ∈ SB) (hb : b ∈ PB) (hap : a + 8 ≤ b ∨ b + 8 ≤ a) (hP : PR (blk m b) P) : ∃ m1, F_X7_begin a b (KS, m, q) = some ((), (KS, m1, q)) ∧ Out m m1 a (a + 8) ∧ SR P (blk m1 a) (beginA P) := by
  obtain ⟨h0, h1, h2, h3, h4, h5, h6, h7⟩ := sb_all ha
  obtain ⟨g0, g1, g2, g3, g4, g5, g6, g7⟩ := pb_all hb
  have hlt := sb_lt ha
  obtain ⟨n1, c1, d1, w1⟩ := cp_step (m := m) (q := q) (n := 6) (x := nI 6) g1 h1 rfl (by omega) (by omega) (by omega)
  obtain ⟨n2, c2, d2, w2⟩ := cp_step (m := n1) (q := q) (n := 6) (x := nI 6) g3 h2 rfl (by omega) (by omega) (by omega)
  obtain ⟨n3, c3, d3, w3⟩ := fill_step (m := n2) (q := q) (x := nI 0) h3 (by omega) (by omega)
  obtain ⟨n4, c4, d4, w4⟩ := fill_step (m := n3) (q := q) (x := nI 0) h4 (by omega) (by omega)
  obtain ⟨n5, c5, d5, w5⟩ := fill_step (m := n4) (q := q) (x := nI 99) h5 (by omega) (by omega)
  obtain ⟨n6, c6, d6, w6⟩ := fill_step (m := n5) (q := q) (x := nI 0) h6 (by omega) (by omega)
  obtain ⟨n7, c7, d7, w7⟩ := fill_step (m := n6) (q := q) (x := nI 0) h7 (by omega) (by omega)
  generalize hm8 : mk_u2 (mk_u2 n7 a 7 (nI 0)) a 8 (nI 0) = m8
  have e8 : ∀ i, i ≠ a → m8 i = n7 i := fun i hi => by rw [← hm8, mk_u2_ne hi, mk_u2_ne hi]
  obtain ⟨hf, hbd, hpp, -, -⟩ := hP
  refine ⟨m8, ?_, fun i hi => ?_, fun p hp => ?_, fun k hk => ?_, fun c hc => ?_, ?_, ?_, fun p h1 h2 => ?_, fun k h1 h2 => ?_, fun c h1 h2 => ?_⟩
  · unfold F_X7_begin
    simp only [sb_gd ha, sb_g ha, pb_g hb, sb_pi ha, ob_some, lit, c1, c2, c3, c4, c5, c6, c7, hm8]
  · rw [e8 i (by omega), d7 i (by omega), d6 i (by omega), d5 i (by omega), d4 i (by omega), d3 i (by omega), d2 i (by omega), d1 i (by omega)]
  · obtain ⟨⟨p1, p2⟩, -, ⟨p3, p4⟩⟩ := hpp p hp
    have hp6 : p < 6 := by omega
    refine ⟨⟨?_, p2⟩, ⟨?_, p4⟩, ⟨?_, by show (0 : Nat) ≤ 99; omega⟩, ⟨?_, by show (0 : Nat) ≤ 0; omega⟩, ⟨?_, by show (99 : Nat) ≤ 99; omega⟩⟩
    · show m8 (a + 1) p = nI (P 1 p)
      rw [e8 _ (by omega), d7 _ (by omega), d6 _ (by omega), d5 _ (by omega), d4 _ (by omega), d3 _ (by omega), d2 _ (by omega), w1 p hp6]; exact p1
    · show m8 (a + 2) p = nI (P 3 p)
      rw [e8 _ (by omega), d7 _ (by omega), d6 _ (by omega), d5 _ (by omega), d4 _ (by omega), d3 _ (by omega), w2 p hp6, d1 _ (by omega)]; exact p3
    · show m8 (a + 3) p = nI 0
      rw [e8 _ (by omega), d7 _ (by omega), d6 _ (by omega), d5 _ (by omega), d4 _ (by omega), w3 p hp6]
    · show m8 (a + 4) p = nI 0
      rw [e8 _ (by omega), d7 _ (by omega), d6 _ (by omega), d5 _ (by omega), w4 p hp6]
    · show m8 (a + 5) p = nI 99
      rw [e8 _ (by omega), d7 _ (by omega), d6 _ (by omega), w5 p hp6]
  · refine ⟨?_, by show (0 : Nat) ≤ 9999; omega⟩
    show m8 (a + 6) k = nI 0
    rw [e8 _ (by omega), d7 _ (by omega), w6 k (by omega)]
  · refine ⟨?_, by show (0 : Nat) ≤ 600; omega⟩
    show m8 (a + 7) c = nI 0
    have : P 0 0 * P 0 0 ≤ 6 * 6 := Nat.mul_le_mul (by omega) (by omega)
    rw [e8 _ (by omega), w7 c (by omega)]
  · refine ⟨?_, by show (0 : Nat) < 16; omega⟩
    show m8 (a + 0) 7 = nI 0
    rw [Nat.add_zero, ← hm8, u2_b (by omega), u2_s]
  · refine ⟨?_, by show (0 : Nat) ≤ 100000; omega⟩
    show m8 (a + 0) 8 = nI 0
    rw [Nat.add_zero, ← hm8, u2_s]
  · show m8 (a + 4) p = nI 0
    rw [e8 _ (by omega), d7 _ (by omega), d6 _ (by omega), d5 _ (by omega), w4 p (by omega)]
  · show m8 (a + 6) k = nI 0
    rw [e8 _ (by omega), d7 _ (by omega), w6 k (by omega)]
  · show m8 (a + 7) c = nI 0
    rw [e8 _ (by omega), w7 c (by omega)]
set_option maxRecDepth 4000 in
theorem copies_ok {m0 : Nat → Nat → Int32} {q : Nat → Nat → Int64} {a b L : Nat} (hK : KS[a]? = some (100, L, [])) (hJ : KS[b]? = some (100, L, [])) (hab : a ≠ b) (ha : a < 2000) (hL : L ≤ 100) : ∃ m1, F_X12_copies a b (KS, m0, q) = some ((), (KS, m1, q)) ∧ (∀ i, i ≠ b → m1 i = m0 i) ∧ (∀ k, k < L → m1 b k = m0 a k) := by
  obtain ⟨f1, m1, e, i1, i2⟩ := loop_up (fun f i (m : Nat → Nat → Int32) => B_X12_copies_2 f a b (nI i) (KS, m, q)) L (fun i m => (∀ i, i ≠ b → m i = m0 i) ∧ (∀ k, k < i → m b k = m0 a k)) (by
    intro f i m hi ⟨i1, i2⟩
    refine ⟨mk_u2 m b i (m0 a i), ?_, fun j hj => ?_, fun k hk => ?_⟩
    · simp only [B_X12_copies_2]
      rw [len_ok hK (by omega) (by omega), ob_some]
      simp (disch := omega) only [le_F, reduceIte]
      rw [ld_ok hK (by omega) hi (by omega), ob_some, i1 a hab, st_ok hJ hi (by omega), ob_some, lit, nI_add]
      rfl
    · rw [mk_u2_ne hj]; exact i1 j hj
    · by_cases h : k = i
      · subst h; exact u2_s
      · rw [u2_b h]; exact i2 k (by omega)) L 0 mk_fu m0 (by omega) (by rw [mk_fu_eq]; omega) ⟨fun _ _ => rfl, fun _ h => absurd h (by omega)⟩
  refine ⟨m1, ?_, i1, i2⟩
  unfold F_X12_copies
  refine Eq.trans e ?_
  simp only [B_X12_copies_2]
  rw [len_ok hK (by omega) (by omega), ob_some]
  simp (disch := omega) only [le_T, reduceIte]
set_option maxRecDepth 4000 in
theorem begins_ok {m : Nat → Nat → Int32} {q : Nat → Nat → Int64} {P : Nat → Nat → Nat} (hP : MP m P) : ∃ m1, F_X12_begins 996 (KS, m, q) = some ((), (KS, m1, q)) ∧ MO m m1 ∧ MS P (blk m1 997) (beginA P) := by
  obtain ⟨hf, hbd, hpp, -, -⟩ := hP
  obtain ⟨n1, c1, d1, w1⟩ := copies_ok (m0 := m) (q := q) kk_1013 kk_998 (by omega) (by omega) (by omega)
  obtain ⟨n2, c2, d2, w2⟩ := copies_ok (m0 := n1) (q := q) kk_1014 kk_999 (by omega) (by omega) (by omega)
  generalize hn3 : mk_u2 (mk_u2 n2 997 5 (nI 0)) 997 6 (nI 0) = n3
  have d3 : ∀ i, i ≠ 997 → n3 i = n2 i := fun i hi => by rw [← hn3, mk_u2_ne hi, mk_u2_ne hi]
  obtain ⟨f1, n4, e4, i1, i2⟩ := loop_up (fun f i (m : Nat → Nat → Int32) => B_X12_begins_39 f 996 (nI i) (KS, m, q)) 6 (fun i m' => (∀ j, j ≠ 1000 → j ≠ 1001 → j ≠ 1002 → m' j = n3 j) ∧ ∀ k, k < i → m' 1000 k = nI 0 ∧ m' 1001 k = nI 0 ∧ m' 1002 k = -nI 1000) (by
    intro f i m' hi ⟨i1, i2⟩
    refine ⟨mk_u2 (mk_u2 (mk_u2 m' 1000 i (nI 0)) 1001 i (nI 0)) 1002 i (-nI 1000), ?_, fun j h1 h2 h3 => ?_, fun k hk => ?_⟩
    · simp only [B_X12_begins_39]
      simp (disch := omega) only [lit, le_F, reduceIte, gam_4, gam_5, gam_6, stm_1000, stm_1001, stm_1002, ob_some, nI_add]
    · rw [mk_u2_ne h3, mk_u2_ne h2, mk_u2_ne h1]; exact i1 j h1 h2 h3
    · by_cases h : k = i
      · subst h
        refine ⟨?_, ?_, ?_⟩ <;> simp (disch := omega) only [u2_s, u2_a]
      · rw [u2_a (by omega), u2_a (by omega), u2_b h, u2_a (by omega), u2_b h, u2_a (by omega), u2_b h, u2_a (by omega), u2_a (by omega)]; exact i2 k (by omega)) 6 0 mk_fu n3 (by omega) (by rw [mk_fu_eq]; omega) ⟨fun _ _ _ _ => rfl, fun _ h => absurd h (by omega)⟩
  obtain ⟨f2, n5, e5, j1, j2⟩ := loop_up (fun f i (m : Nat → Nat → Int32) => B_X12_begins_76 f 996 (nI i) (KS, m, q)) 4 (fun i m' => (∀ j, j ≠ 1003 → m' j = n4 j) ∧ ∀ k, k < i → m' 1003 k = nI 0) (by
    intro f i m' hi ⟨i1, i2⟩
    refine ⟨mk_u2 m' 1003 i (nI 0), ?_, fun j h1 => ?_, fun k hk => ?_⟩
    · simp only [B_X12_begins_76]
      simp (disch := omega) only [lit, le_F, reduceIte, gam_7, stm_1003, ob_some, nI_add]
    · rw [mk_u2_ne h1]; exact i1 j h1
    · by_cases h : k = i
      · subst h; exact u2_s
      · rw [u2_b h]; exact i2 k (by omega)) 4 0 mk_fu n4 (by omega) (by rw [mk_fu_eq]; omega) ⟨fun _ _ => rfl, fun _ h => absurd h (by omega)⟩
  obtain ⟨f3, n6, e6, k1, k2⟩ := loop_up (fun f i (m : Nat → Nat → Int32) => B_X12_begins_96 f 996 (nI i) (KS, m, q)) 36 (fun i m' => (∀ j, j ≠ 1004 → m' j = n5 j) ∧ ∀ k, k < i → m' 1004 k = nI 0) (by
    intro f i m' hi ⟨i1, i2⟩
    refine ⟨mk_u2 m' 1004 i (nI 0), ?_, fun j h1 => ?_, fun k hk => ?_⟩
    · simp only [B_X12_begins_96]
      simp (disch := omega) only [lit, le_F, reduceIte, gam_8, stm_1004, ob_some, nI_add]
    · rw [mk_u2_ne h1]; exact i1 j h1
    · by_cases h : k = i
      · subst h; exact u2_s
      · rw [u2_b h]; exact i2 k (by omega)) 36 0 mk_fu n5 (by omega) (by rw [mk_fu_eq]; omega) ⟨fun _ _ => rfl, fun _ h => absurd h (by omega)⟩
  have hsq : P 0 0 * P 0 0 ≤ 6 * 6 := Nat.mul_le_mul (by omega) (by omega)
  refine ⟨n6, ?_, ⟨fun i hi => ?_, fun k h5 h6 => ?_⟩, fun p hp => ?_, fun k hk => ?_, fun c hc => ?_, ?_, ?_⟩
  · unfold F_X12_begins
    simp (disch := omega) only [gdm, lit, gam_17, gam_2, gam_18, gam_3, gam_1, ob_some, c1, c2, stm_997, hn3]
    refine e4.trans ?_
    simp only [B_X12_begins_39]
    simp (disch := omega) only [lit, le_T, reduceIte]
    refine e5.trans ?_
    simp only [B_X12_begins_76]
    simp (disch := omega) only [lit, le_T, reduceIte]
    refine e6.trans ?_
    simp only [B_X12_begins_96]
    simp (disch := omega) only [lit, le_T, reduceIte]
  · rw [k1 i (by omega), j1 i (by omega), i1 i (by omega) (by omega) (by omega), d3 i (by omega), d2 i (by omega), d1 i (by omega)]
  · rw [k1 _ (by omega), j1 _ (by omega), i1 _ (by omega) (by omega) (by omega), ← hn3, u2_b h6, u2_b h5, d2 _ (by omega), d1 _ (by omega)]
  · obtain ⟨⟨p1, p2⟩, -, ⟨p3, p4⟩⟩ := hpp p hp
    have hp6 : p < 6 := by omega
    refine ⟨⟨?_, p2⟩, ⟨?_, p4⟩, ⟨?_, by show (0 : Nat) ≤ 99; omega⟩, ⟨?_, by show (0 : Nat) ≤ 0; omega⟩, 1000, ?_, by show (1000 : Nat) ≤ 0 + 1000; omega, by show (99 : Nat) = min 99 1000; omega⟩
    · show n6 998 p = nI (P 1 p)
      rw [k1 _ (by omega), j1 _ (by omega), i1 _ (by omega) (by omega) (by omega), d3 _ (by omega), d2 _ (by omega), w1 p hp6]; exact p1
    · show n6 999 p = nI (P 3 p)
      rw [k1 _ (by omega), j1 _ (by omega), i1 _ (by omega) (by omega) (by omega), d3 _ (by omega), w2 p hp6, d1 _ (by omega)]; exact p3
    · show n6 1000 p = nI 0
      rw [k1 _ (by omega), j1 _ (by omega)]; exact (i2 p hp6).1
    · show n6 1001 p = nI 0
      rw [k1 _ (by omega), j1 _ (by omega)]; exact (i2 p hp6).2.1
    · show n6 1002 p = nI 0 - nI 1000
      rw [k1 _ (by omega), j1 _ (by omega), (i2 p hp6).2.2]; decide
  · refine ⟨?_, by show (0 : Nat) ≤ 9999; omega⟩
    show n6 1003 k = nI 0
    rw [k1 _ (by omega)]; exact j2 k (by omega)
  · exact ⟨k2 c (by omega), by show (0 : Nat) ≤ 600; omega⟩
  · refine ⟨?_, by show (0 : Nat) < 16; omega⟩
    show n6 997 6 = nI 0
    rw [k1 _ (by omega), j1 _ (by omega), i1 _ (by omega) (by omega) (by omega), ← hn3, u2_s]
  · refine ⟨?_, by show (0 : Nat) ≤ 100000; omega⟩
    show n6 997 5 = nI 0
    rw [k1 _ (by omega), j1 _ (by omega), i1 _ (by omega) (by omega) (by omega), ← hn3, u2_b (by omega), u2_s]
set_option maxRecDepth 4000 in
theorem fI_ltT {L n : Nat} (h : L ≤ n) (hn : n < 1000) : (fI L < nI n) = True := by
  cases L with
  | zero => exact m1_T (by omega)
  | succ L => exact lt_T (by omega) (by omega)
set_option maxRecDepth 4000 in
theorem fI_ltF {L n : Nat} (h : n < L) (hn : L < 1000) : (fI L < nI n) = False := by
  cases L with
  | zero => omega
  | succ L => exact lt_F (by omega) (by omega)
def lastN (N : Nat → Nat → Nat) : Nat → Nat
  | 0 => 0
  | i + 1 => max (lastN N i) (N 0 i + 1)
set_option maxRecDepth 4000 in
theorem lastN_ge {N : Nat → Nat → Nat} : ∀ n i, i < n → N 0 i < lastN N n
  | 0, i, h => by omega
  | n + 1, i, h => by
    show N 0 i < max (lastN N n) (N 0 n + 1)
    by_cases e : i = n
    · subst e; omega
    · have := lastN_ge (N := N) n i (by omega); omega
set_option maxRecDepth 4000 in
theorem lastN_le {N : Nat → Nat → Nat} : ∀ n, (∀ i, i < n → N 0 i ≤ 60) → lastN N n ≤ 61
  | 0, _ => by show (0 : Nat) ≤ 61; omega
  | n + 1, h => by
    have := lastN_le (N := N) n (fun i hi => h i (by omega))
    have := h n (by omega)
    show max (lastN N n) (N 0 n + 1) ≤ 61
    omega
set_option maxRecDepth 4000 in
theorem lastHour_ok {m : Nat → Nat → Int32} {q : Nat → Nat → Int64} {P N : Nat → Nat → Nat} {nn : Nat} (h3 : m 193 3 = nI nn) (hN : NotesOK P N (m 194) (m 195) (m 196) nn) : F_X1_lastHour 193 (KS, m, q) = some (fI (lastN N nn), (KS, m, q)) := by
  have hnn := hN.1
  obtain ⟨f1, y, e, i1⟩ := loop_up (fun f i (y : Int32) => B_X1_lastHour_4 f 193 y (nI i) (KS, m, q)) nn (fun i y => y = fI (lastN N i)) (by
    intro f i y hi i1
    subst i1
    obtain ⟨⟨v1, v2⟩, -, -⟩ := hN.2 i hi
    refine ⟨fI (lastN N (i + 1)), ?_, rfl⟩
    have hl := lastN_le (N := N) i (fun j hj => (hN.2 j (by omega)).1.2)
    simp only [B_X1_lastHour_4]
    simp (disch := omega) only [lit, h3, gic_193_3, gac_193_0, ldc_194, ob_some, le_F, reduceIte, v1, nI_add]
    show B_X1_lastHour_4 f 193 _ _ _ = B_X1_lastHour_4 f 193 (fI (max (lastN N i) (N 0 i + 1))) _ _
    by_cases c : lastN N i ≤ N 0 i
    · rw [if_pos (by rw [fI_ltT c (by omega)]; trivial), show max (lastN N i) (N 0 i + 1) = N 0 i + 1 by omega]; rfl
    · rw [if_neg (by rw [fI_ltF (by omega) (by omega)]; exact fun h => h), show max (lastN N i) (N 0 i + 1) = lastN N i by omega]) nn 0 mk_fu (-nI 1) (by omega) (by rw [mk_fu_eq]; omega) rfl
  subst i1
  unfold F_X1_lastHour
  simp only [gdc_193, lit]
  refine Eq.trans e ?_
  simp only [B_X1_lastHour_4]
  simp (disch := omega) only [lit, h3, gic_193_3, ob_some, le_T, reduceIte]
def soAt (B N : Nat → Nat → Nat) (i : Nat) : Prop := B 7 (N 1 i) = N 2 i
set_option maxRecDepth 4000 in
theorem areSo_ok {m : Nat → Nat → Int32} {q : Nat → Nat → Int64} {P B N : Nat → Nat → Nat} {nn h : Nat} (h3 : m 193 3 = nI nn) (hN : NotesOK P N (m 194) (m 195) (m 196) nn) (hS : P 0 0 * P 0 0 ≤ 36) (hB : SR P (blk m 200) B) (hh : h < 1000) : ∀ (d i f : Nat), i + d = nn → d < f → ((∀ j, i ≤ j → j < nn → N 0 j = h → soAt B N j) → B_X1_areSo_2 f 193 (nI h) 200 (nI i) (KS, m, q) = some (nI 1, (KS, m, q))) ∧ (¬ (∀ j, i ≤ j → j < nn → N 0 j = h → soAt B N j) → B_X1_areSo_2 f 193 (nI h) 200 (nI i) (KS, m, q) = some (nI 0, (KS, m, q)))
  | 0, i, f, hd, hf => by
    obtain ⟨f, rfl⟩ : ∃ f', f = f' + 1 := ⟨f - 1, by omega⟩
    have hnn := hN.1
    simp only [B_X1_areSo_2]
    simp (disch := omega) only [lit, h3, gic_193_3, ob_some, le_T, reduceIte, rz1]
    exact ⟨fun _ => trivial, fun hx => absurd (fun j h1 h2 => absurd h2 (by omega)) hx⟩
  | d + 1, i, f, hd, hf => by
    obtain ⟨f, rfl⟩ : ∃ f', f = f' + 1 := ⟨f - 1, by omega⟩
    have hnn := hN.1
    obtain ⟨ih1, ih2⟩ := areSo_ok (q := q) h3 hN hS hB hh d (i + 1) f (by omega) (by omega)
    obtain ⟨⟨v1, v2⟩, ⟨v3, v4⟩, ⟨v5, v6⟩⟩ := hN.2 i (by omega)
    have vw : m (200 + 7) (N 1 i) = nI (B 7 (N 1 i)) := (hB.2.2.1 _ v4).1
    have vwb := (hB.2.2.1 _ v4).2
    simp only [B_X1_areSo_2, B_X1_areSo_41]
    simp (disch := omega) only [lit, h3, gic_193_3, gac_193_0, gac_193_1, gac_193_2, ldc_194, ldc_195, ldc_196, ob_some, le_F, reduceIte, v1, v3, v5, s_windAt sb200 (show N 1 i < 36 by omega), vw, nI_add]
    by_cases c1 : N 0 i = h
    · by_cases c2 : B 7 (N 1 i) = N 2 i
      · simp (disch := omega) only [eq_T, reduceIte]
        exact ⟨fun hx => ih1 (fun j h1 h2 => hx j (by omega) h2), fun hx => ih2 (fun hy => hx (fun j h1 h2 h4 => by
          by_cases e : j = i
          · subst e; exact c2
          · exact hy j (by omega) h2 h4))⟩
      · simp (disch := omega) only [eq_T, eq_F, reduceIte, rz0]
        exact ⟨fun hx => absurd (hx i (Nat.le_refl _) (by omega) c1) c2, fun _ => trivial⟩
    · simp (disch := omega) only [eq_F, reduceIte]
      exact ⟨fun hx => ih1 (fun j h1 h2 => hx j (by omega) h2), fun hx => ih2 (fun hy => hx (fun j h1 h2 h4 => by
          by_cases e : j = i
          · subst e; exact absurd h4 c1
          · exact hy j (by omega) h2 h4))⟩
/-- all notes are so, by a rule -/
def fitP (P N : Nat → Nat → Nat) (nn : Nat) (ρ : Option RT) : Prop := ∀ i, i < nn → hoursA P ρ (-nI 1) (N 0 i + 1) (beginA P) 7 (N 1 i) = N 2 i
set_option maxRecDepth 4000 in
theorem isFit_loop {P A N : Nat → Nat → Nat} {R : Option Nat} {ρ : Option RT} {nn : Nat} (hl : lastN N nn ≤ 61) : ∀ (d h f : Nat) (m : Nat → Nat → Int32) (q : Nat → Nat → Int64), h + d = lastN N nn → d < f → QC m P A R ρ → m 193 3 = nI nn → NotesOK P N (m 194) (m 195) (m 196) nn → SR P (blk m 200) (hoursA P ρ (-nI 1) h (beginA P)) →
    ∃ m1 q1 b, B_X2_isFitting_27 f 13 R (fI (lastN N nn)) (nI h) (KS, m, q) = some (if b then nI 1 else nI 0, (KS, m1, q1)) ∧ Out m m1 200 208 ∧ (b = true ↔ ∀ i, i < nn → h ≤ N 0 i → hoursA P ρ (-nI 1) (N 0 i + 1) (beginA P) 7 (N 1 i) = N 2 i)
  | 0, h, f, m, q, hd, hf, hQ, h3, hN, hB => by
    obtain ⟨f, rfl⟩ : ∃ f', f = f' + 1 := ⟨f - 1, by omega⟩
    refine ⟨m, q, true, ?_, Out.rf, fun _ i hi h1 => ?_, fun _ => rfl⟩
    · simp only [B_X2_isFitting_27]
      simp (disch := omega) only [fI_ltT, reduceIte, lit, rz1]
    · have := lastN_ge (N := N) nn i hi; omega
  | d + 1, h, f, m, q, hd, hf, hQ, h3, hN, hB => by
    obtain ⟨f, rfl⟩ : ∃ f', f = f' + 1 := ⟨f - 1, by omega⟩
    obtain ⟨B1, B2, B3⟩ := hQ.1.2
    have hnn := hN.1
    obtain ⟨m2, q2, w1, w2, w3⟩ := tpass (q := q) (kept := -nI 1) hQ hB (by rw [hoursA_h]; show 0 + h < 100000; omega)
    have hQ2 := hQ.keep (KC.out w2 (by omega) (by omega))
    have h32 : m2 193 3 = nI nn := by rw [w2 _ (by omega)]; exact h3
    have hN2 : NotesOK P N (m2 194) (m2 195) (m2 196) nn := by rw [w2 _ (by omega), w2 _ (by omega), w2 _ (by omega)]; exact hN
    obtain ⟨a1, a2⟩ := areSo_ok (q := q2) h32 hN2 hQ.1.sq.2 w3 (show h < 1000 by omega) nn 0 mk_fu (by omega) (by rw [mk_fu_eq]; omega)
    have ha : ∀ (o : Int32), B_X1_areSo_2 mk_fu 193 (nI h) 200 (nI 0) (KS, m2, q2) = some (o, (KS, m2, q2)) → F_X1_areSo 193 (nI h) 200 (KS, m2, q2) = some (o, (KS, m2, q2)) := fun o ho => by
      unfold F_X1_areSo
      simp only [gdc_193, lit]
      exact ho
    simp only [B_X2_isFitting_27]
    simp (disch := omega) only [fI_ltF, reduceIte, lit, gac_13_3, gac_13_0, gac_14_0, gac_14_3, gac_13_4, ob_some, w1]
    by_cases c : ∀ j, 0 ≤ j → j < nn → N 0 j = h → soAt (hourA P ρ (-nI 1) (hoursA P ρ (-nI 1) h (beginA P))) N j
    · obtain ⟨m3, q3, b, x1, x2, x3⟩ := isFit_loop hl d (h + 1) f m2 q2 (by omega) (by omega) hQ2 h32 hN2 w3
      refine ⟨m3, q3, b, ?_, w2.trans x2, fun hb i hi h1 => ?_, fun hx => x3.mpr (fun i hi h1 => hx i hi (by omega))⟩
      · simp (disch := omega) only [ha _ (a1 c), ob_some, eq_F, reduceIte, nI_add]
        exact x1
      · by_cases e : N 0 i = h
        · have := c i (by omega) hi e
          rw [e]; exact this
        · exact x3.mp hb i hi (by omega)
    · refine ⟨m2, q2, false, ?_, w2, fun hb => absurd hb (by decide), fun hx => absurd (fun j _ hj e => ?_) c⟩
      · simp (disch := omega) only [ha _ (a2 c), ob_some, eq_T, reduceIte, rz0]
        rfl
      · have := hx j hj (by omega)
        rw [e] at this
        exact this
set_option maxRecDepth 4000 in
theorem isFitting_ok {m : Nat → Nat → Int32} {q : Nat → Nat → Int64} {P A N : Nat → Nat → Nat} {R : Option Nat} {ρ : Option RT} {nn : Nat} (hQ : QC m P A R ρ) (h3 : m 193 3 = nI nn) (hN : NotesOK P N (m 194) (m 195) (m 196) nn) : ∃ m1 q1 b, F_X2_isFitting 13 R (KS, m, q) = some (if b then nI 1 else nI 0, (KS, m1, q1)) ∧ Out m m1 200 208 ∧ (b = true ↔ fitP P N nn ρ) := by
  obtain ⟨ma, s1, s2, s3⟩ := s_begin (q := q) sb200 pb15 (by omega) hQ.1
  have hQ2 := hQ.keep (KC.out s2 (by omega) (by omega))
  have h32 : ma 193 3 = nI nn := by rw [s2 _ (by omega)]; exact h3
  have hN2 : NotesOK P N (ma 194) (ma 195) (ma 196) nn := by rw [s2 _ (by omega), s2 _ (by omega), s2 _ (by omega)]; exact hN
  have hl := lastN_le (N := N) nn (fun i hi => (hN.2 i hi).1.2)
  obtain ⟨m1, q1, b, x1, x2, x3⟩ := isFit_loop hl (lastN N nn) 0 mk_fu ma q (by omega) (by rw [mk_fu_eq]; omega) hQ2 h32 hN2 s3
  refine ⟨m1, q1, b, ?_, s2.trans x2, x3.trans ⟨fun h i hi => h i hi (by omega), fun h i hi _ => h i hi⟩⟩
  unfold F_X2_isFitting
  simp only [gdc_13, gac_13_4, gac_13_0, gac_14_0, gac_14_3, ob_some, s1, lastHour_ok h32 hN2, lit]
  exact x1
