/-! the best way: stand, turn, still -/
abbrev BW : Type := Int32 × Nat × Nat
def updO (o : Option BW) (w : Int32) (r g : Nat) : Option BW := match o with
  | none => some (w, r, g)
  | some (w0, r0, g0) => if r < r0 then some (w, r, g) else if r = r0 then (if g ≤ g0 then some (w0, r0, g0) else some (w, r, g)) else some (w0, r0, g0)
set_option maxRecDepth 4000 in
theorem updO_some {o : Option BW} {w : Int32} {r g : Nat} : ∃ b, updO o w r g = some b := by
  unfold updO
  split
  · exact ⟨_, rfl⟩
  · split
    · exact ⟨_, rfl⟩
    · split
      · split
        · exact ⟨_, rfl⟩
        · exact ⟨_, rfl⟩
      · exact ⟨_, rfl⟩
def RelC (m : Nat → Nat → Int32) (o : Option BW) : Prop := match o with
  | none => m 13 11 = nI 5 ∧ m 13 12 = nI 0
  | some (w, r, g) => m 13 10 = w ∧ m 13 11 = nI r ∧ m 13 12 = nI g ∧ r ≤ 16 ∧ g ≤ 100000
def RelM (m : Nat → Nat → Int32) (o : Option BW) : Prop := match o with
  | none => m 996 54 = nI 5 ∧ m 996 55 = -nI 1
  | some (w, r, g) => m 996 53 = w ∧ m 996 54 = nI r ∧ m 996 55 = nI g ∧ r ≤ 16 ∧ g ≤ 100000
def bestA (o : Option BW) (k : Nat) : Int32 := match o with
  | none => nI 0
  | some (w, r, g) => if k = 0 then w else if k = 1 then nI r else nI g
set_option maxRecDepth 4000 in
theorem RelC.keep {m m1 : Nat → Nat → Int32} {o : Option BW} (h : RelC m o) (e : m1 13 = m 13) : RelC m1 o := by
  unfold RelC at *
  split <;> simp only [e] <;> exact h
set_option maxRecDepth 4000 in
theorem RelM.keep {m m1 : Nat → Nat → Int32} {o : Option BW} (h : RelM m o) (e3 : m1 996 53 = m 996 53) (e4 : m1 996 54 = m 996 54) (e5 : m1 996 55 = m 996 55) : RelM m1 o := by
  unfold RelM at *
  split <;> simp only [e3, e4, e5] <;> exact h
set_option maxRecDepth 4000 in
theorem best_ok {m : Nat → Nat → Int32} {q : Nat → Nat → Int64} {b : BW} {k : Nat} (h : RelC m (some b)) (hk : k ≤ 2) : F_X2_best 13 (nI k) (KS, m, q) = some (bestA (some b) k, (KS, m, q)) := by
  obtain ⟨w, r, g⟩ := b
  obtain ⟨h1, h2, h3, -⟩ := h
  unfold F_X2_best bestA
  rcases (show k = 0 ∨ k = 1 ∨ k = 2 by omega) with e | e | e <;> subst e <;> simp (disch := omega) only [lit, eq_T, eq_F, reduceIte, gdc_13, gic_13_10, gic_13_11, gic_13_12, ob_some, h1, h2, h3] <;> rfl
set_option maxRecDepth 4000 in
theorem ofWays_ok {m : Nat → Nat → Int32} {q : Nat → Nat → Int64} {b : BW} {k : Nat} (h : RelM m (some b)) (hk : k ≤ 2) : F_X12_ofWays 996 (nI k) (KS, m, q) = some (bestA (some b) k, (KS, m, q)) := by
  obtain ⟨w, r, g⟩ := b
  obtain ⟨h1, h2, h3, -⟩ := h
  unfold F_X12_ofWays bestA
  rcases (show k = 0 ∨ k = 1 ∨ k = 2 by omega) with e | e | e <;> subst e <;> simp (disch := omega) only [lit, eq_T, eq_F, reduceIte, gdm, gim_53, gim_54, gim_55, ob_some, h1, h2, h3] <;> rfl
set_option maxRecDepth 4000 in
theorem SR.gr {P B : Nat → Nat → Nat} {s : Nat → Nat → Int32} (h : SR P s B) (hM : P 0 3 ≤ 4) : nsum (B 6) (P 0 3) ≤ 39996 := by
  have := nsum_le (f := B 6) (B := 9999) (n := P 0 3) (fun k hk => (h.2.1 k hk).2)
  have : 9999 * P 0 3 ≤ 9999 * 4 := Nat.mul_le_mul_left _ hM
  omega
set_option maxRecDepth 4000 in
theorem MS.gr {P B : Nat → Nat → Nat} {s : Nat → Nat → Int32} (h : MS P s B) (hM : P 0 3 ≤ 4) : nsum (B 6) (P 0 3) ≤ 39996 := by
  have := nsum_le (f := B 6) (B := 9999) (n := P 0 3) (fun k hk => (h.2.1 k hk).2)
  have : 9999 * P 0 3 ≤ 9999 * 4 := Nat.mul_le_mul_left _ hM
  omega
set_option maxRecDepth 4000 in
theorem offer_ok {m : Nat → Nat → Int32} {q : Nat → Nat → Int64} {P B : Nat → Nat → Nat} {w : Int32} {o : Option BW} (hB : SR P (blk m 200) B) (hM : P 0 3 ≤ 4) (hR : RelC m o) : ∃ m1, F_X2_offer 13 w (KS, m, q) = some ((), (KS, m1, q)) ∧ (∀ i, i ≠ 13 → m1 i = m i) ∧ (∀ k, k < 10 → m1 13 k = m 13 k) ∧ RelC m1 (updO o w (pc (B 0 0)) (nsum (B 6) (P 0 3))) := by
  have hr := pc16 (B 0 0) hB.2.2.2.1.2
  have hg := hB.gr hM
  have h16 := hB.2.2.2.1.2
  have c7 : m 200 7 = nI (B 0 0) := hB.2.2.2.1.1
  have gr := s_groundN (q := q) sb200 hB hM
  have bc := bitc (show B 0 0 < 128 by omega) (KS, m, q)
  generalize pc (B 0 0) = r at *
  generalize nsum (B 6) (P 0 3) = g at *
  have hset : (∀ i, i ≠ 13 → mk_u2 (mk_u2 (mk_u2 m 13 10 w) 13 11 (nI r)) 13 12 (nI g) i = m i) ∧ (∀ k, k < 10 → mk_u2 (mk_u2 (mk_u2 m 13 10 w) 13 11 (nI r)) 13 12 (nI g) 13 k = m 13 k) ∧ RelC (mk_u2 (mk_u2 (mk_u2 m 13 10 w) 13 11 (nI r)) 13 12 (nI g)) (some (w, r, g)) := by
    refine ⟨fun i hi => by rw [mk_u2_ne hi, mk_u2_ne hi, mk_u2_ne hi], fun k hk => by rw [u2_b (by omega), u2_b (by omega), u2_b (by omega)], ?_, ?_, ?_, by omega, by omega⟩ <;> simp (disch := omega) only [u2_s, u2_b]
  unfold F_X2_offer B_X2_offer_43
  cases o with
  | none =>
    obtain ⟨h1, h2⟩ := hR
    refine ⟨_, ?_, hset⟩
    simp (disch := omega) only [gdc_13, gac_13_4, gic_200_7, gic_13_11, gic_13_12, pic_13_10, pic_13_11, pic_13_12, ob_some, c7, bc, gr, h1, h2, lt_T, reduceIte]
  | some b =>
    obtain ⟨w0, r0, g0⟩ := b
    obtain ⟨h1, h2, h3, h4, h5⟩ := id hR
    unfold updO
    by_cases e1 : r < r0
    · simp only [e1, if_true]
      refine ⟨_, ?_, hset⟩
      simp (disch := omega) only [gdc_13, gac_13_4, gic_200_7, gic_13_11, gic_13_12, pic_13_10, pic_13_11, pic_13_12, ob_some, c7, bc, gr, h2, h3, lt_T, reduceIte]
    · simp only [e1, if_false]
      by_cases e2 : r = r0
      · simp only [e2, if_true]
        by_cases e3 : g ≤ g0
        · simp only [e3, if_true]
          refine ⟨m, ?_, fun _ _ => rfl, fun _ _ => rfl, hR⟩
          simp (disch := omega) only [gdc_13, gac_13_4, gic_200_7, gic_13_11, gic_13_12, pic_13_10, pic_13_11, pic_13_12, ob_some, c7, bc, gr, h2, h3, lt_F, eq_T, le_T, reduceIte]
        · simp only [e3, if_false]
          subst e2
          refine ⟨_, ?_, hset⟩
          simp (disch := omega) only [gdc_13, gac_13_4, gic_200_7, gic_13_11, gic_13_12, pic_13_10, pic_13_11, pic_13_12, ob_some, c7, bc, gr, h2, h3, lt_F, eq_T, le_F, reduceIte]
      · simp only [e2, if_false]
        refine ⟨m, ?_, fun _ _ => rfl, fun _ _ => rfl, hR⟩
        simp (disch := omega) only [gdc_13, gac_13_4, gic_200_7, gic_13_11, gic_13_12, pic_13_10, pic_13_11, pic_13_12, ob_some, c7, bc, gr, h2, h3, lt_F, eq_F, reduceIte]
set_option maxRecDepth 4000 in
theorem KP.set {m0 m : Nat → Nat → Int32} {w r g : Int32} (h : KP m0 m) : KP m0 (mk_u2 (mk_u2 (mk_u2 m 996 53 w) 996 54 r) 996 55 g) := by
  obtain ⟨⟨k1, k2, k3⟩, k4⟩ := h
  exact ⟨⟨fun i a b => by rw [mk_u2_ne (by omega), mk_u2_ne (by omega), mk_u2_ne (by omega)]; exact k1 i a b, fun k a b c d e f => by rw [u2_b d, u2_b c, u2_b b]; exact k2 k a b c d e f, fun k hk => by rw [u2_a (by omega), u2_a (by omega), u2_a (by omega)]; exact k3 k hk⟩, fun j k hj hk => by rw [u2_a (by omega), u2_a (by omega), u2_a (by omega)]; exact k4 j k hj hk⟩
set_option maxRecDepth 4000 in
theorem KB.set {m0 m : Nat → Nat → Int32} {w r g : Int32} (h : KB m0 m) : KB m0 (mk_u2 (mk_u2 (mk_u2 m 996 53 w) 996 54 r) 996 55 g) := fun j k hj hk => by
  rw [u2_a (by omega), u2_a (by omega), u2_a (by omega)]; exact h j k hj hk
set_option maxRecDepth 4000 in
theorem tries_ok {m0 m : Nat → Nat → Int32} {q : Nat → Nat → Int64} {P B : Nat → Nat → Nat} {ρ : Option RT} {kept : Int32} {w : Int32} {o : Option BW} {n : Nat} (hQ : QM m P ρ kept) (hB : MS P (blk m 997) B) (hb : B 0 1 + n ≤ 100000) (hn : n ≤ 1000) (hK : KP m0 m) (hR : RelM m o) : ∃ m1 q1, F_X12_tries 996 w (nI n) (KS, m, q) = some ((), (KS, m1, q1)) ∧ KP m0 m1 ∧ KB m0 m1 ∧ m1 996 47 = m 996 47 ∧ RelM m1 (updO o w (pc (hoursA P ρ kept n B 0 0)) (nsum (hoursA P ρ kept n B 6) (P 0 3))) := by
  obtain ⟨m1, q1, a1, a2, a3⟩ := goFor_ok (q := q) hQ hB hb hn
  obtain ⟨m2, b1, b2, b3, b4, b5⟩ := laysBack_ok (q := q1) m1 (hK.mo a2)
  have hP1 := (hQ.mo a2).1
  obtain ⟨B1, B2, B3⟩ := hP1.2
  have hM : P 0 3 ≤ 4 := by omega
  generalize hoursA P ρ kept n B = C at *
  have hr := pc16 (C 0 0) a3.2.2.2.1.2
  have h16 := a3.2.2.2.1.2
  have hg := a3.gr hM
  have c6 : m1 997 6 = nI (C 0 0) := a3.2.2.2.1.1
  have gr := malls (m := m1) (q := q1) (P := P) (A := C) hP1.1.2.2.2.1 hM (fun k hk => (a3.2.1 k hk).1)
  have bc := bits_ok (show C 0 0 < 128 by omega) (KS, m1, q1)
  generalize pc (C 0 0) = r at *
  generalize nsum (C 6) (P 0 3) = g at *
  have e96 : ∀ k, k ≠ 62 → k ≠ 63 → m2 996 k = m 996 k := fun k h1 h2 => (b4 k h1 h2).trans (by rw [a2.1 996 (by omega)])
  have hR2 : RelM m2 o := hR.keep (e96 _ (by omega) (by omega)) (e96 _ (by omega) (by omega)) (e96 _ (by omega) (by omega))
  have hset : KP m0 (mk_u2 (mk_u2 (mk_u2 m2 996 53 w) 996 54 (nI r)) 996 55 (nI g)) ∧ KB m0 (mk_u2 (mk_u2 (mk_u2 m2 996 53 w) 996 54 (nI r)) 996 55 (nI g)) ∧ mk_u2 (mk_u2 (mk_u2 m2 996 53 w) 996 54 (nI r)) 996 55 (nI g) 996 47 = m 996 47 ∧ RelM (mk_u2 (mk_u2 (mk_u2 m2 996 53 w) 996 54 (nI r)) 996 55 (nI g)) (some (w, r, g)) := by
    refine ⟨b2.set, b3.set, by rw [u2_b (by omega), u2_b (by omega), u2_b (by omega)]; exact e96 _ (by omega) (by omega), ?_, ?_, ?_, by omega, by omega⟩ <;> simp (disch := omega) only [u2_s, u2_b]
  have hno : KP m0 m2 ∧ KB m0 m2 ∧ m2 996 47 = m 996 47 ∧ RelM m2 o := ⟨b2, b3, e96 _ (by omega) (by omega), hR2⟩
  unfold F_X12_tries B_X12_tries_51
  cases o with
  | none =>
    obtain ⟨h1, h2⟩ := hR2
    refine ⟨_, q1, ?_, hset⟩
    simp (disch := omega) only [gdm, lit, gam_1, ldm_997, gim_54, gim_55, pim_53, pim_54, pim_55, ob_some, a1, b1, c6, bc, gr, h1, h2, lt_T, reduceIte]
  | some b =>
    obtain ⟨w0, r0, g0⟩ := b
    obtain ⟨h1, h2, h3, h4, h5⟩ := id hR2
    unfold updO
    by_cases e1 : r < r0
    · simp only [e1, if_true]
      refine ⟨_, q1, ?_, hset⟩
      simp (disch := omega) only [gdm, lit, gam_1, ldm_997, gim_54, gim_55, pim_53, pim_54, pim_55, ob_some, a1, b1, c6, bc, gr, h2, h3, lt_T, reduceIte]
    · simp only [e1, if_false]
      by_cases e2 : r = r0
      · simp only [e2, if_true]
        by_cases e3 : g ≤ g0
        · simp only [e3, if_true]
          refine ⟨m2, q1, ?_, hno⟩
          simp (disch := omega) only [gdm, lit, gam_1, ldm_997, gim_54, gim_55, pim_53, pim_54, pim_55, ob_some, a1, b1, c6, bc, gr, h2, h3, lt_F, eq_T, le_T, reduceIte]
        · simp only [e3, if_false]
          subst e2
          refine ⟨_, q1, ?_, hset⟩
          simp (disch := omega) only [gdm, lit, gam_1, ldm_997, gim_54, gim_55, pim_53, pim_54, pim_55, ob_some, a1, b1, c6, bc, gr, h2, h3, lt_F, eq_T, le_F, reduceIte]
      · simp only [e2, if_false]
        refine ⟨m2, q1, ?_, hno⟩
        simp (disch := omega) only [gdm, lit, gam_1, ldm_997, gim_54, gim_55, pim_53, pim_54, pim_55, ob_some, a1, b1, c6, bc, gr, h2, h3, lt_F, eq_F, reduceIte]
def bsF (w : Nat → Int32) (W : Nat → Nat → Nat → Nat) (M : Nat) : Nat → Option BW
  | 0 => none
  | i + 1 => updO (bsF w W M i) (w i) (pc (W i 0 0)) (nsum (W i 6) M)
set_option maxRecDepth 4000 in
theorem bsF_some {w : Nat → Int32} {W : Nat → Nat → Nat → Nat} {M n : Nat} (h : 0 < n) : ∃ b, bsF w W M n = some b := by
  cases n with
  | zero => omega
  | succ n => exact updO_some
set_option maxRecDepth 4000 in
theorem forget_ok {m : Nat → Nat → Int32} {q : Nat → Nat → Int64} : ∃ m1, F_X2_forgetWays 13 (KS, m, q) = some ((), (KS, m1, q)) ∧ KC m m1 ∧ RelC m1 none := by
  refine ⟨mk_u2 (mk_u2 m 13 11 (nI 5)) 13 12 (nI 0), ?_, ⟨fun i h1 h2 => by rw [mk_u2_ne h1, mk_u2_ne h1], fun k hk => by rw [u2_b (by omega), u2_b (by omega)]⟩, ?_, ?_⟩
  · unfold F_X2_forgetWays; simp only [gdc_13, pic_13_11, pic_13_12, ob_some, lit]
  · simp (disch := omega) only [u2_s, u2_b]
  · simp (disch := omega) only [u2_s, u2_b]
set_option maxRecDepth 4000 in
theorem starts_ok {m : Nat → Nat → Int32} {q : Nat → Nat → Int64} : F_X12_startsWays 996 (KS, m, q) = some ((), (KS, mk_u2 (mk_u2 (mk_u2 m 996 53 (-nI 2)) 996 54 (nI 5)) 996 55 (-nI 1), q)) := by
  unfold F_X12_startsWays; simp only [gdm, pim_53, pim_54, pim_55, ob_some, lit]
set_option maxRecDepth 4000 in
theorem MO.row {m : Nat → Nat → Int32} {i k : Nat} {v : Int32} (h1 : 998 ≤ i) (h2 : i ≤ 1004) : MO m (mk_u2 m i k v) := ⟨fun j hj => mk_u2_ne (by omega), fun k h5 h6 => u2_a (by omega)⟩
set_option maxRecDepth 4000 in
theorem way_T {a b : Nat} (h1 : 1 ≤ a) (h2 : a ≤ 60) (h3 : b ≤ 2) (t : mk_S) : F_X11_isWayAsked (nI a) (nI b) t = some (nI 1, t) := by
  unfold F_X11_isWayAsked
  simp (disch := omega) only [lit, within_TL, ob_some, eq_F, reduceIte, rz1]
set_option maxRecDepth 4000 in
theorem stand_C {m : Nat → Nat → Int32} {q : Nat → Nat → Int64} {P A : Nat → Nat → Nat} {fo n p k : Nat} {ρ : Option RT} (h : QC m P A (fR fo) ρ) (h4 : m 14 4 = fI fo) (hf : fo ≤ 6) (hp : p < P 0 2) (hn : n ≤ 60) (hk : k ≤ 2) : ∃ m1 q1, F_X2_bestCell 13 (nI p) (nI n) (nI k) (KS, m, q) = some (bestA (bsF (fun i => nI i) (fun i => hoursA P ρ (-nI 1) n (upA A 1 p i)) (P 0 3) (P 0 0 * P 0 0)) k, (KS, m1, q1)) ∧ KC m m1 := by
  obtain ⟨B1, B2, B3⟩ := h.1.2
  have hsq := h.1.sq
  have hAh := h.2.1.2
  obtain ⟨m0, z1, z2, z3⟩ := forget_ok (m := m) (q := q)
  obtain ⟨f1, ⟨m1, q1⟩, e, i1, i2⟩ := loop_up (fun f i (s : (Nat → Nat → Int32) × (Nat → Nat → Int64)) => B_X2_bestCell_7 f 13 (nI p) (nI n) (nI k) (nI i) (KS, s.1, s.2)) (P 0 0 * P 0 0) (fun i s => KC m s.1 ∧ RelC s.1 (bsF (fun i => nI i) (fun i => hoursA P ρ (-nI 1) n (upA A 1 p i)) (P 0 3) i)) (by
    intro f i ⟨m', q'⟩ hi ⟨i1, i2⟩
    have hQ' := h.keep i1
    have hs : m' 15 0 = nI (P 0 0) := hQ'.1.1.1
    obtain ⟨ma, t1, t2, t3⟩ := trial_ok (q := q') hQ'
    have hB : SR P (blk (mk_u2 ma 201 p (nI i)) 200) (upA A 1 p i) := t3.up (j0 := 1) (p := p) (v := i) (fun j k => blk_u2 (m := ma) (b := 200) (j0 := 1)) (by omega)
    have oa : Out m' (mk_u2 ma 201 p (nI i)) 200 208 := fun j hj => by rw [mk_u2_ne (by omega)]; exact t2 j hj
    have ka := i1.trans (KC.out oa (by omega) (by omega))
    obtain ⟨mb, qb, b1, b2, b3⟩ := goOn_ok (q := q') (n := n) (kept := -nI 1) (h.keep ka) (by rw [ka.1 _ (by omega) (by omega)]; exact h4) hf hB (by rw [up_j (by omega)]; omega) (by omega)
    obtain ⟨mc, c1, c2, c3, c4⟩ := offer_ok (q := qb) (w := nI i) b3 (by omega) (i2.keep (m1 := mb) (by rw [b2 _ (by omega), oa _ (by omega)]))
    refine ⟨(mc, qb), ?_, (ka.trans (KC.out b2 (by omega) (by omega))).trans ⟨fun i h1 h2 => c2 i h1, c3⟩, c4⟩
    simp only [B_X2_bestCell_7]
    simp (disch := omega) only [cells_C hs, le_F, reduceIte, gac_13_0, gac_14_0, gac_13_4, gac_14_1, gac_200_0, stc_201, ob_some, t1, b1, c1, lit, nI_add]) (P 0 0 * P 0 0) 0 mk_fu (m0, q) (by omega) (by rw [mk_fu_eq]; omega) ⟨z2, z3⟩
  obtain ⟨b, hb⟩ := bsF_some (w := fun i => nI i) (W := fun i => hoursA P ρ (-nI 1) n (upA A 1 p i)) (M := P 0 3) (n := P 0 0 * P 0 0) (by omega)
  have hs : m1 15 0 = nI (P 0 0) := (h.keep i1).1.1.1
  rw [hb] at i2 ⊢
  refine ⟨m1, q1, ?_, i1⟩
  unfold F_X2_bestCell
  simp only [gdc_13, z1, ob_some, lit]
  refine Eq.trans e ?_
  simp only [B_X2_bestCell_7]
  simp (disch := omega) only [cells_C hs, le_T, reduceIte, gac_13_0, gac_14_0, ob_some, best_ok i2 hk, lit]
set_option maxRecDepth 4000 in
theorem stand_M {m0 m : Nat → Nat → Int32} {q : Nat → Nat → Int64} {P A : Nat → Nat → Nat} {n p k : Nat} {ρ : Option RT} (hQ : QM m0 P ρ (-nI 1)) (hA : MS P (blk m0 997) A) (hAh : A 0 1 ≤ 999) (hp : p < P 0 2) (hn : n ≤ 60) (hk : k ≤ 2) (hK : KP m0 m) (hB : KB m0 m) (h47 : m 996 47 = -nI 1) (hR : RelM m none) : ∃ m1 q1, B_X12_stand_45 mk_fu 996 (nI p) (nI n) (nI k) (nI 0) (KS, m, q) = some (bestA (bsF (fun i => nI i) (fun i => hoursA P ρ (-nI 1) n (upA A 1 p i)) (P 0 3) (P 0 0 * P 0 0)) k, (KS, m1, q1)) ∧ KP m0 m1 ∧ KB m0 m1 ∧ m1 996 47 = -nI 1 := by
  obtain ⟨B1, B2, B3⟩ := hQ.1.2
  have hsq := PR.sq hQ.1
  obtain ⟨f1, ⟨m1, q1⟩, e, i1, i2, i3, i4⟩ := loop_up (fun f i (s : (Nat → Nat → Int32) × (Nat → Nat → Int64)) => B_X12_stand_45 f 996 (nI p) (nI n) (nI k) (nI i) (KS, s.1, s.2)) (P 0 0 * P 0 0) (fun i s => KP m0 s.1 ∧ KB m0 s.1 ∧ s.1 996 47 = -nI 1 ∧ RelM s.1 (bsF (fun i => nI i) (fun i => hoursA P ρ (-nI 1) n (upA A 1 p i)) (P 0 3) i)) (by
    intro f i ⟨m', q'⟩ hi ⟨i1, i2, i3, i4⟩
    have hQ' := hQ.back i1.1 i2 i3
    have hA' := hA.back hQ.1 i2
    have hs : m' 997 0 = nI (P 0 0) := hQ'.1.1.1
    have mo : MO m' (mk_u2 m' 998 p (nI i)) := MO.row (by omega) (by omega)
    have hB : MS P (blk (mk_u2 m' 998 p (nI i)) 997) (upA A 1 p i) := hA'.up (j0 := 1) (p := p) (v := i) (fun j k => blk_u2 (m := m') (b := 997) (j0 := 1)) (by omega)
    obtain ⟨mb, qb, b1, b2, b3, b4, b5⟩ := tries_ok (q := q') (w := nI i) (n := n) (hQ'.mo mo) hB (by rw [up_j (by omega)]; omega) (by omega) (i1.mo mo) (i4.keep (u2_a (by omega)) (u2_a (by omega)) (u2_a (by omega)))
    refine ⟨(mb, qb), ?_, b2, b3, b4.trans ((u2_a (by omega)).trans i3), b5⟩
    simp only [B_X12_stand_45]
    simp (disch := omega) only [mcells_ok hs, le_F, reduceIte, gam_2, stm_998, ob_some, b1, lit, nI_add]) (P 0 0 * P 0 0) 0 mk_fu (m, q) (by omega) (by rw [mk_fu_eq]; omega) ⟨hK, hB, h47, hR⟩
  obtain ⟨b, hb⟩ := bsF_some (w := fun i => nI i) (W := fun i => hoursA P ρ (-nI 1) n (upA A 1 p i)) (M := P 0 3) (n := P 0 0 * P 0 0) (by omega)
  have hs : m1 997 0 = nI (P 0 0) := (hQ.back i1.1 i2 i3).1.1.1
  rw [hb] at i4 ⊢
  refine ⟨m1, q1, ?_, i1, i2, i3⟩
  refine Eq.trans e ?_
  simp only [B_X12_stand_45]
  simp (disch := omega) only [mcells_ok hs, le_T, reduceIte, ob_some, ofWays_ok i4 hk, lit]
set_option maxRecDepth 4000 in
theorem op_stand (x1 x2 x3 : Int32) : OP (F_X11_stand 0 x1 x2 x3) (F_X12_stand 996 x1 x2 x3) := by
  intro m q hI
  obtain ⟨⟨⟨⟨len, by_⟩, ⟨nr, RS⟩, ⟨P, A, H, n, N, nn, fo, x⟩, IM, md⟩, hC, hM⟩, hE⟩ := id hI
  obtain ⟨⟨ct1, ct2, ct3⟩, ⟨cr1, cr2, cr3⟩, ⟨⟨cP, ⟨cA, cAh⟩, cH, ⟨cn1, cn2⟩, ⟨cf1, cf2⟩, ⟨cx1, cx2⟩⟩, cwf⟩, cm1, cm2⟩ := id hC
  obtain ⟨⟨mt1, mt2⟩, ⟨mr1, mr2⟩, ⟨mP, ⟨mA, mAh⟩, ⟨mh1, mh2, mh3⟩, ⟨mn1, mn2⟩, ⟨mf1, mf2⟩, ⟨mx1, mx2⟩⟩, mm1, mm2, mw, ms⟩ := id hM
  have cP5 : m 15 0 = nI (P 0 0) ∧ m 15 1 = nI (P 0 1) ∧ m 15 2 = nI (P 0 2) ∧ m 15 3 = nI (P 0 3) ∧ m 15 4 = nI (P 0 4) := cP.five
  have mP5 : m 997 0 = nI (P 0 0) ∧ m 997 1 = nI (P 0 1) ∧ m 997 2 = nI (P 0 2) ∧ m 997 3 = nI (P 0 3) ∧ m 997 4 = nI (P 0 4) := mP.five
  obtain ⟨B0, B1, B2, B3, B4, B5⟩ := cP.bd
  rcases within_C x1 0 (P 0 2) (by omega) (by omega) with ⟨p, -, hp, rfl⟩ | hno
  rotate_left
  · refine ⟨-nI 1, m, q, m, q, ?_, ?_, hI, fun _ _ => rfl⟩
    · unfold F_X11_stand; simp (disch := omega) only [ob_some, reduceIte, lit, le_T, le_F, lt_T, lt_F, eq_T, eq_F, nI_add, gac_0_0, gac_0_1, gac_0_2, gac_0_3, gac_0_4, gac_0_5, gac_0_6, gac_1_0, gic_1_1, gic_1_2, gic_1_3, gic_1_4, gic_1_5, gic_1_6, gac_3_0, gic_3_1, gic_3_2, gic_3_3, gic_3_4, gic_3_5, gic_3_6, gic_3_7, gic_5_0, gic_5_1, gic_5_2, gic_5_3, gic_5_4, gac_5_5, gac_5_6, gac_5_7, gac_5_8, gac_5_9, gac_5_10, gac_5_11, gac_13_0, gac_13_1, gic_13_2, gac_13_3, gac_13_4, gac_13_5, gac_13_6, gac_13_7, gac_13_8, gac_13_9, gic_13_10, gic_13_11, gic_13_12, gic_13_13, gac_14_0, gac_14_1, gac_14_2, gac_14_3, gic_14_4, gic_14_5, gic_15_0, gic_15_1, gic_15_2, gic_15_3, gic_15_4, gac_15_5, gac_15_6, gac_15_7, gac_15_8, gac_15_9, gac_15_10, gac_15_11, gac_23_0, gac_23_1, gac_23_2, gac_23_3, gac_23_4, gac_23_5, gac_23_6, gic_23_7, gic_23_8, gac_31_0, gic_31_1, gic_31_2, gac_193_0, gac_193_1, gac_193_2, gic_193_3, gac_198_0, gac_200_0, gac_200_1, gac_200_2, gac_200_3, gac_200_4, gac_200_5, gac_200_6, gic_200_7, gic_200_8, pic_1_1, pic_1_2, pic_1_3, pic_1_4, pic_1_5, pic_1_6, pic_3_1, pic_3_2, pic_3_3, pic_3_4, pic_3_5, pic_3_6, pic_3_7, pic_5_0, pic_5_1, pic_5_2, pic_5_3, pic_5_4, pic_13_2, pic_13_10, pic_13_11, pic_13_12, pic_13_13, pic_14_4, pic_14_5, pic_15_0, pic_15_1, pic_15_2, pic_15_3, pic_15_4, pic_23_7, pic_23_8, pic_31_1, pic_31_2, pic_193_3, pic_200_7, pic_200_8, gdc_0, gdc_1, gdc_3, gdc_5, gdc_13, gdc_14, gdc_15, gdc_23, gdc_31, gdc_193, gdc_198, gdc_200, ldc_2, stc_2, ldc_4, stc_4, ldc_6, stc_6, ldc_7, stc_7, ldc_8, stc_8, ldc_9, stc_9, ldc_10, stc_10, ldc_11, stc_11, ldc_12, stc_12, ldc_16, stc_16, ldc_17, stc_17, ldc_18, stc_18, ldc_19, stc_19, ldc_20, stc_20, ldc_21, stc_21, ldc_22, stc_22, ldc_24, stc_24, ldc_25, stc_25, ldc_26, stc_26, ldc_27, stc_27, ldc_28, stc_28, ldc_29, stc_29, ldc_30, stc_30, ldc_194, stc_194, ldc_195, stc_195, ldc_196, stc_196, ldc_199, stc_199, ldc_201, stc_201, ldc_202, stc_202, ldc_203, stc_203, ldc_204, stc_204, ldc_205, stc_205, ldc_206, stc_206, ldc_207, stc_207, ldc_208, stc_208, ldc_209, stc_209, ldc_210, stc_210, ldc_211, stc_211, ldc_213, stc_213, ldc_214, stc_214, ldc_215, stc_215, ldc_216, stc_216, ldc_217, stc_217, ldc_218, stc_218, ldc_219, stc_219, ldc_263, stc_263, lda_197, lda_262, lda_212, lda_32, u2_s, u2_a, u2_b, isPer_C cP5.2.2.1, hno]
    · unfold F_X12_stand; simp (disch := omega) only [gdm, gam_1, gam_2, gam_3, gam_4, gam_5, gam_6, gam_7, gam_8, gam_9, gam_10, gam_11, gam_12, gam_13, gam_14, gam_15, gam_16, gam_17, gam_18, gam_19, gam_20, gam_21, gam_22, gam_23, gam_24, gam_25, gam_26, gam_37, gam_38, gam_39, gam_40, gam_41, gam_42, gam_43, gam_44, gam_45, gam_46, gam_48, gam_49, gam_56, gam_57, gam_58, gam_59, gam_60, gam_61, gim_27, gim_28, gim_29, gim_30, gim_31, gim_32, gim_33, gim_34, gim_35, gim_36, gim_47, gim_50, gim_51, gim_52, gim_53, gim_54, gim_55, gim_62, gim_63, ob_some, reduceIte, lit, le_T, le_F, lt_T, lt_F, eq_T, eq_F, nI_add, ldm_997, stm_997, ldm_998, stm_998, ldm_999, stm_999, ldm_1000, stm_1000, ldm_1001, stm_1001, ldm_1002, stm_1002, ldm_1003, stm_1003, ldm_1004, stm_1004, ldm_1005, stm_1005, ldm_1006, stm_1006, ldm_1007, stm_1007, ldm_1008, stm_1008, ldm_1009, stm_1009, ldm_1010, stm_1010, ldm_1011, stm_1011, ldm_1012, stm_1012, ldm_1013, stm_1013, ldm_1014, stm_1014, ldm_1015, stm_1015, ldm_1016, stm_1016, ldm_1017, stm_1017, ldm_1018, stm_1018, ldm_1019, stm_1019, ldm_1020, stm_1020, ldm_1021, stm_1021, ldm_1022, stm_1022, u2_s, u2_a, u2_b, not_true, not_false_iff, isPer_M mP5.2.2.1, hno]
  rcases within_CL x2 1 60 (by omega) (by omega) with ⟨n1, hn0, hn1, rfl⟩ | hno
  rotate_left
  · refine ⟨-nI 1, m, q, m, q, ?_, ?_, hI, fun _ _ => rfl⟩
    · unfold F_X11_stand F_X11_isWayAsked B_X11_isWayAsked_23; simp (disch := omega) only [ob_some, reduceIte, lit, le_T, le_F, lt_T, lt_F, eq_T, eq_F, nI_add, gac_0_0, gac_0_1, gac_0_2, gac_0_3, gac_0_4, gac_0_5, gac_0_6, gac_1_0, gic_1_1, gic_1_2, gic_1_3, gic_1_4, gic_1_5, gic_1_6, gac_3_0, gic_3_1, gic_3_2, gic_3_3, gic_3_4, gic_3_5, gic_3_6, gic_3_7, gic_5_0, gic_5_1, gic_5_2, gic_5_3, gic_5_4, gac_5_5, gac_5_6, gac_5_7, gac_5_8, gac_5_9, gac_5_10, gac_5_11, gac_13_0, gac_13_1, gic_13_2, gac_13_3, gac_13_4, gac_13_5, gac_13_6, gac_13_7, gac_13_8, gac_13_9, gic_13_10, gic_13_11, gic_13_12, gic_13_13, gac_14_0, gac_14_1, gac_14_2, gac_14_3, gic_14_4, gic_14_5, gic_15_0, gic_15_1, gic_15_2, gic_15_3, gic_15_4, gac_15_5, gac_15_6, gac_15_7, gac_15_8, gac_15_9, gac_15_10, gac_15_11, gac_23_0, gac_23_1, gac_23_2, gac_23_3, gac_23_4, gac_23_5, gac_23_6, gic_23_7, gic_23_8, gac_31_0, gic_31_1, gic_31_2, gac_193_0, gac_193_1, gac_193_2, gic_193_3, gac_198_0, gac_200_0, gac_200_1, gac_200_2, gac_200_3, gac_200_4, gac_200_5, gac_200_6, gic_200_7, gic_200_8, pic_1_1, pic_1_2, pic_1_3, pic_1_4, pic_1_5, pic_1_6, pic_3_1, pic_3_2, pic_3_3, pic_3_4, pic_3_5, pic_3_6, pic_3_7, pic_5_0, pic_5_1, pic_5_2, pic_5_3, pic_5_4, pic_13_2, pic_13_10, pic_13_11, pic_13_12, pic_13_13, pic_14_4, pic_14_5, pic_15_0, pic_15_1, pic_15_2, pic_15_3, pic_15_4, pic_23_7, pic_23_8, pic_31_1, pic_31_2, pic_193_3, pic_200_7, pic_200_8, gdc_0, gdc_1, gdc_3, gdc_5, gdc_13, gdc_14, gdc_15, gdc_23, gdc_31, gdc_193, gdc_198, gdc_200, ldc_2, stc_2, ldc_4, stc_4, ldc_6, stc_6, ldc_7, stc_7, ldc_8, stc_8, ldc_9, stc_9, ldc_10, stc_10, ldc_11, stc_11, ldc_12, stc_12, ldc_16, stc_16, ldc_17, stc_17, ldc_18, stc_18, ldc_19, stc_19, ldc_20, stc_20, ldc_21, stc_21, ldc_22, stc_22, ldc_24, stc_24, ldc_25, stc_25, ldc_26, stc_26, ldc_27, stc_27, ldc_28, stc_28, ldc_29, stc_29, ldc_30, stc_30, ldc_194, stc_194, ldc_195, stc_195, ldc_196, stc_196, ldc_199, stc_199, ldc_201, stc_201, ldc_202, stc_202, ldc_203, stc_203, ldc_204, stc_204, ldc_205, stc_205, ldc_206, stc_206, ldc_207, stc_207, ldc_208, stc_208, ldc_209, stc_209, ldc_210, stc_210, ldc_211, stc_211, ldc_213, stc_213, ldc_214, stc_214, ldc_215, stc_215, ldc_216, stc_216, ldc_217, stc_217, ldc_218, stc_218, ldc_219, stc_219, ldc_263, stc_263, lda_197, lda_262, lda_212, lda_32, u2_s, u2_a, u2_b, isPer_C cP5.2.2.1, within_T, hno, rz0]
    · unfold F_X12_stand; simp (disch := omega) only [gdm, gam_1, gam_2, gam_3, gam_4, gam_5, gam_6, gam_7, gam_8, gam_9, gam_10, gam_11, gam_12, gam_13, gam_14, gam_15, gam_16, gam_17, gam_18, gam_19, gam_20, gam_21, gam_22, gam_23, gam_24, gam_25, gam_26, gam_37, gam_38, gam_39, gam_40, gam_41, gam_42, gam_43, gam_44, gam_45, gam_46, gam_48, gam_49, gam_56, gam_57, gam_58, gam_59, gam_60, gam_61, gim_27, gim_28, gim_29, gim_30, gim_31, gim_32, gim_33, gim_34, gim_35, gim_36, gim_47, gim_50, gim_51, gim_52, gim_53, gim_54, gim_55, gim_62, gim_63, ob_some, reduceIte, lit, le_T, le_F, lt_T, lt_F, eq_T, eq_F, nI_add, ldm_997, stm_997, ldm_998, stm_998, ldm_999, stm_999, ldm_1000, stm_1000, ldm_1001, stm_1001, ldm_1002, stm_1002, ldm_1003, stm_1003, ldm_1004, stm_1004, ldm_1005, stm_1005, ldm_1006, stm_1006, ldm_1007, stm_1007, ldm_1008, stm_1008, ldm_1009, stm_1009, ldm_1010, stm_1010, ldm_1011, stm_1011, ldm_1012, stm_1012, ldm_1013, stm_1013, ldm_1014, stm_1014, ldm_1015, stm_1015, ldm_1016, stm_1016, ldm_1017, stm_1017, ldm_1018, stm_1018, ldm_1019, stm_1019, ldm_1020, stm_1020, ldm_1021, stm_1021, ldm_1022, stm_1022, u2_s, u2_a, u2_b, not_true, not_false_iff, isPer_M mP5.2.2.1, within_T, in_1_60, hno]
  rcases within_CL x3 0 2 (by omega) (by omega) with ⟨k, -, hk, rfl⟩ | hno
  rotate_left
  · refine ⟨-nI 1, m, q, m, q, ?_, ?_, hI, fun _ _ => rfl⟩
    · unfold F_X11_stand F_X11_isWayAsked B_X11_isWayAsked_23; simp (disch := omega) only [ob_some, reduceIte, lit, le_T, le_F, lt_T, lt_F, eq_T, eq_F, nI_add, gac_0_0, gac_0_1, gac_0_2, gac_0_3, gac_0_4, gac_0_5, gac_0_6, gac_1_0, gic_1_1, gic_1_2, gic_1_3, gic_1_4, gic_1_5, gic_1_6, gac_3_0, gic_3_1, gic_3_2, gic_3_3, gic_3_4, gic_3_5, gic_3_6, gic_3_7, gic_5_0, gic_5_1, gic_5_2, gic_5_3, gic_5_4, gac_5_5, gac_5_6, gac_5_7, gac_5_8, gac_5_9, gac_5_10, gac_5_11, gac_13_0, gac_13_1, gic_13_2, gac_13_3, gac_13_4, gac_13_5, gac_13_6, gac_13_7, gac_13_8, gac_13_9, gic_13_10, gic_13_11, gic_13_12, gic_13_13, gac_14_0, gac_14_1, gac_14_2, gac_14_3, gic_14_4, gic_14_5, gic_15_0, gic_15_1, gic_15_2, gic_15_3, gic_15_4, gac_15_5, gac_15_6, gac_15_7, gac_15_8, gac_15_9, gac_15_10, gac_15_11, gac_23_0, gac_23_1, gac_23_2, gac_23_3, gac_23_4, gac_23_5, gac_23_6, gic_23_7, gic_23_8, gac_31_0, gic_31_1, gic_31_2, gac_193_0, gac_193_1, gac_193_2, gic_193_3, gac_198_0, gac_200_0, gac_200_1, gac_200_2, gac_200_3, gac_200_4, gac_200_5, gac_200_6, gic_200_7, gic_200_8, pic_1_1, pic_1_2, pic_1_3, pic_1_4, pic_1_5, pic_1_6, pic_3_1, pic_3_2, pic_3_3, pic_3_4, pic_3_5, pic_3_6, pic_3_7, pic_5_0, pic_5_1, pic_5_2, pic_5_3, pic_5_4, pic_13_2, pic_13_10, pic_13_11, pic_13_12, pic_13_13, pic_14_4, pic_14_5, pic_15_0, pic_15_1, pic_15_2, pic_15_3, pic_15_4, pic_23_7, pic_23_8, pic_31_1, pic_31_2, pic_193_3, pic_200_7, pic_200_8, gdc_0, gdc_1, gdc_3, gdc_5, gdc_13, gdc_14, gdc_15, gdc_23, gdc_31, gdc_193, gdc_198, gdc_200, ldc_2, stc_2, ldc_4, stc_4, ldc_6, stc_6, ldc_7, stc_7, ldc_8, stc_8, ldc_9, stc_9, ldc_10, stc_10, ldc_11, stc_11, ldc_12, stc_12, ldc_16, stc_16, ldc_17, stc_17, ldc_18, stc_18, ldc_19, stc_19, ldc_20, stc_20, ldc_21, stc_21, ldc_22, stc_22, ldc_24, stc_24, ldc_25, stc_25, ldc_26, stc_26, ldc_27, stc_27, ldc_28, stc_28, ldc_29, stc_29, ldc_30, stc_30, ldc_194, stc_194, ldc_195, stc_195, ldc_196, stc_196, ldc_199, stc_199, ldc_201, stc_201, ldc_202, stc_202, ldc_203, stc_203, ldc_204, stc_204, ldc_205, stc_205, ldc_206, stc_206, ldc_207, stc_207, ldc_208, stc_208, ldc_209, stc_209, ldc_210, stc_210, ldc_211, stc_211, ldc_213, stc_213, ldc_214, stc_214, ldc_215, stc_215, ldc_216, stc_216, ldc_217, stc_217, ldc_218, stc_218, ldc_219, stc_219, ldc_263, stc_263, lda_197, lda_262, lda_212, lda_32, u2_s, u2_a, u2_b, isPer_C cP5.2.2.1, within_T, within_TL, hno, rz0]
    · unfold F_X12_stand; simp (disch := omega) only [gdm, gam_1, gam_2, gam_3, gam_4, gam_5, gam_6, gam_7, gam_8, gam_9, gam_10, gam_11, gam_12, gam_13, gam_14, gam_15, gam_16, gam_17, gam_18, gam_19, gam_20, gam_21, gam_22, gam_23, gam_24, gam_25, gam_26, gam_37, gam_38, gam_39, gam_40, gam_41, gam_42, gam_43, gam_44, gam_45, gam_46, gam_48, gam_49, gam_56, gam_57, gam_58, gam_59, gam_60, gam_61, gim_27, gim_28, gim_29, gim_30, gim_31, gim_32, gim_33, gim_34, gim_35, gim_36, gim_47, gim_50, gim_51, gim_52, gim_53, gim_54, gim_55, gim_62, gim_63, ob_some, reduceIte, lit, le_T, le_F, lt_T, lt_F, eq_T, eq_F, nI_add, ldm_997, stm_997, ldm_998, stm_998, ldm_999, stm_999, ldm_1000, stm_1000, ldm_1001, stm_1001, ldm_1002, stm_1002, ldm_1003, stm_1003, ldm_1004, stm_1004, ldm_1005, stm_1005, ldm_1006, stm_1006, ldm_1007, stm_1007, ldm_1008, stm_1008, ldm_1009, stm_1009, ldm_1010, stm_1010, ldm_1011, stm_1011, ldm_1012, stm_1012, ldm_1013, stm_1013, ldm_1014, stm_1014, ldm_1015, stm_1015, ldm_1016, stm_1016, ldm_1017, stm_1017, ldm_1018, stm_1018, ldm_1019, stm_1019, ldm_1020, stm_1020, ldm_1021, stm_1021, ldm_1022, stm_1022, u2_s, u2_a, u2_b, not_true, not_false_iff, isPer_M mP5.2.2.1, within_T, within_TL, in_1_60, in_0_2, hno]
  have h0 : 0 < P 0 0 := by have := (cP.p hp).2; omega
  obtain ⟨hQ, h4, hf6⟩ := qc_of hC hE h0
  obtain ⟨mb, qb, b1, kb⟩ := stand_C (q := q) (n := n1) hQ h4 hf6 hp hn1 hk
  obtain ⟨hQM, hMS⟩ := qm_of hC hM h0 kb
  obtain ⟨mc, k1, k2, k3, k4, k5⟩ := keepsAll_ok (q := qb) mb
  have hR : RelM (mk_u2 (mk_u2 (mk_u2 mc 996 53 (-nI 2)) 996 54 (nI 5)) 996 55 (-nI 1)) none := by
    refine ⟨?_, ?_⟩ <;> simp (disch := omega) only [u2_s, u2_b]
  have h47 : mk_u2 (mk_u2 (mk_u2 mc 996 53 (-nI 2)) 996 54 (nI 5)) 996 55 (-nI 1) 996 47 = -nI 1 := by
    rw [u2_b (by omega), u2_b (by omega), u2_b (by omega), k4 47 (by omega) (by omega)]; exact hQM.2.2
  obtain ⟨me, qe, e1, e2, e3, e4⟩ := stand_M (q := qb) hQM hMS cAh hp hn1 hk k2.set k3.set h47 hR
  obtain ⟨f1, f2⟩ := ask_fin hC hM hE kb e2.1 e3 (e4.trans hQM.2.2.symm)
  have hP2 : mb 997 2 = nI (P 0 2) := by rw [kb.1 _ (by omega) (by omega)]; exact mP5.2.2.1
  refine ⟨bestA (bsF (fun i => nI i) (fun i => hoursA P (frho RS fo) (-nI 1) n1 (upA A 1 p i)) (P 0 3) (P 0 0 * P 0 0)) k, mb, qb, me, qe, ?_, ?_, f1, f2⟩
  · unfold F_X11_stand
    simp (disch := omega) only [ob_some, reduceIte, lit, le_T, le_F, lt_T, lt_F, eq_T, eq_F, nI_add, gac_0_0, gac_0_1, gac_0_2, gac_0_3, gac_0_4, gac_0_5, gac_0_6, gac_1_0, gic_1_1, gic_1_2, gic_1_3, gic_1_4, gic_1_5, gic_1_6, gac_3_0, gic_3_1, gic_3_2, gic_3_3, gic_3_4, gic_3_5, gic_3_6, gic_3_7, gic_5_0, gic_5_1, gic_5_2, gic_5_3, gic_5_4, gac_5_5, gac_5_6, gac_5_7, gac_5_8, gac_5_9, gac_5_10, gac_5_11, gac_13_0, gac_13_1, gic_13_2, gac_13_3, gac_13_4, gac_13_5, gac_13_6, gac_13_7, gac_13_8, gac_13_9, gic_13_10, gic_13_11, gic_13_12, gic_13_13, gac_14_0, gac_14_1, gac_14_2, gac_14_3, gic_14_4, gic_14_5, gic_15_0, gic_15_1, gic_15_2, gic_15_3, gic_15_4, gac_15_5, gac_15_6, gac_15_7, gac_15_8, gac_15_9, gac_15_10, gac_15_11, gac_23_0, gac_23_1, gac_23_2, gac_23_3, gac_23_4, gac_23_5, gac_23_6, gic_23_7, gic_23_8, gac_31_0, gic_31_1, gic_31_2, gac_193_0, gac_193_1, gac_193_2, gic_193_3, gac_198_0, gac_200_0, gac_200_1, gac_200_2, gac_200_3, gac_200_4, gac_200_5, gac_200_6, gic_200_7, gic_200_8, pic_1_1, pic_1_2, pic_1_3, pic_1_4, pic_1_5, pic_1_6, pic_3_1, pic_3_2, pic_3_3, pic_3_4, pic_3_5, pic_3_6, pic_3_7, pic_5_0, pic_5_1, pic_5_2, pic_5_3, pic_5_4, pic_13_2, pic_13_10, pic_13_11, pic_13_12, pic_13_13, pic_14_4, pic_14_5, pic_15_0, pic_15_1, pic_15_2, pic_15_3, pic_15_4, pic_23_7, pic_23_8, pic_31_1, pic_31_2, pic_193_3, pic_200_7, pic_200_8, gdc_0, gdc_1, gdc_3, gdc_5, gdc_13, gdc_14, gdc_15, gdc_23, gdc_31, gdc_193, gdc_198, gdc_200, ldc_2, stc_2, ldc_4, stc_4, ldc_6, stc_6, ldc_7, stc_7, ldc_8, stc_8, ldc_9, stc_9, ldc_10, stc_10, ldc_11, stc_11, ldc_12, stc_12, ldc_16, stc_16, ldc_17, stc_17, ldc_18, stc_18, ldc_19, stc_19, ldc_20, stc_20, ldc_21, stc_21, ldc_22, stc_22, ldc_24, stc_24, ldc_25, stc_25, ldc_26, stc_26, ldc_27, stc_27, ldc_28, stc_28, ldc_29, stc_29, ldc_30, stc_30, ldc_194, stc_194, ldc_195, stc_195, ldc_196, stc_196, ldc_199, stc_199, ldc_201, stc_201, ldc_202, stc_202, ldc_203, stc_203, ldc_204, stc_204, ldc_205, stc_205, ldc_206, stc_206, ldc_207, stc_207, ldc_208, stc_208, ldc_209, stc_209, ldc_210, stc_210, ldc_211, stc_211, ldc_213, stc_213, ldc_214, stc_214, ldc_215, stc_215, ldc_216, stc_216, ldc_217, stc_217, ldc_218, stc_218, ldc_219, stc_219, ldc_263, stc_263, lda_197, lda_262, lda_212, lda_32, u2_s, u2_a, u2_b, isPer_C cP5.2.2.1, within_T, way_T, b1]
  · unfold F_X12_stand
    simp (disch := omega) only [gdm, gam_1, gam_2, gam_3, gam_4, gam_5, gam_6, gam_7, gam_8, gam_9, gam_10, gam_11, gam_12, gam_13, gam_14, gam_15, gam_16, gam_17, gam_18, gam_19, gam_20, gam_21, gam_22, gam_23, gam_24, gam_25, gam_26, gam_37, gam_38, gam_39, gam_40, gam_41, gam_42, gam_43, gam_44, gam_45, gam_46, gam_48, gam_49, gam_56, gam_57, gam_58, gam_59, gam_60, gam_61, gim_27, gim_28, gim_29, gim_30, gim_31, gim_32, gim_33, gim_34, gim_35, gim_36, gim_47, gim_50, gim_51, gim_52, gim_53, gim_54, gim_55, gim_62, gim_63, ob_some, reduceIte, lit, le_T, le_F, lt_T, lt_F, eq_T, eq_F, nI_add, ldm_997, stm_997, ldm_998, stm_998, ldm_999, stm_999, ldm_1000, stm_1000, ldm_1001, stm_1001, ldm_1002, stm_1002, ldm_1003, stm_1003, ldm_1004, stm_1004, ldm_1005, stm_1005, ldm_1006, stm_1006, ldm_1007, stm_1007, ldm_1008, stm_1008, ldm_1009, stm_1009, ldm_1010, stm_1010, ldm_1011, stm_1011, ldm_1012, stm_1012, ldm_1013, stm_1013, ldm_1014, stm_1014, ldm_1015, stm_1015, ldm_1016, stm_1016, ldm_1017, stm_1017, ldm_1018, stm_1018, ldm_1019, stm_1019, ldm_1020, stm_1020, ldm_1021, stm_1021, ldm_1022, stm_1022, u2_s, u2_a, u2_b, not_true, not_false_iff, isPer_M hP2, within_T, within_TL, in_1_60, in_0_2, k1, starts_ok]
    exact e1
set_option maxRecDepth 4000 in
theorem turn_C {m : Nat → Nat → Int32} {q : Nat → Nat → Int64} {P A : Nat → Nat → Nat} {fo n p k : Nat} {ρ : Option RT} (h : QC m P A (fR fo) ρ) (h4 : m 14 4 = fI fo) (hf : fo ≤ 6) (hp : p < P 0 2) (hn : n ≤ 60) (hk : k ≤ 2) : ∃ m1 q1, F_X2_bestFace 13 (nI p) (nI n) (nI k) (KS, m, q) = some (bestA (bsF (fun i => nI i) (fun i => hoursA P ρ (-nI 1) n (upA A 2 p i)) (P 0 3) (4)) k, (KS, m1, q1)) ∧ KC m m1 := by
  obtain ⟨B1, B2, B3⟩ := h.1.2
  have hsq := h.1.sq
  have hAh := h.2.1.2
  obtain ⟨m0, z1, z2, z3⟩ := forget_ok (m := m) (q := q)
  obtain ⟨f1, ⟨m1, q1⟩, e, i1, i2⟩ := loop_up (fun f i (s : (Nat → Nat → Int32) × (Nat → Nat → Int64)) => B_X2_bestFace_7 f 13 (nI p) (nI n) (nI k) (nI i) (KS, s.1, s.2)) (4) (fun i s => KC m s.1 ∧ RelC s.1 (bsF (fun i => nI i) (fun i => hoursA P ρ (-nI 1) n (upA A 2 p i)) (P 0 3) i)) (by
    intro f i ⟨m', q'⟩ hi ⟨i1, i2⟩
    have hQ' := h.keep i1
    have hs : m' 15 0 = nI (P 0 0) := hQ'.1.1.1
    obtain ⟨ma, t1, t2, t3⟩ := trial_ok (q := q') hQ'
    have hB : SR P (blk (mk_u2 ma 202 p (nI i)) 200) (upA A 2 p i) := t3.up (j0 := 2) (p := p) (v := i) (fun j k => blk_u2 (m := ma) (b := 200) (j0 := 2)) (by omega)
    have oa : Out m' (mk_u2 ma 202 p (nI i)) 200 208 := fun j hj => by rw [mk_u2_ne (by omega)]; exact t2 j hj
    have ka := i1.trans (KC.out oa (by omega) (by omega))
    obtain ⟨mb, qb, b1, b2, b3⟩ := goOn_ok (q := q') (n := n) (kept := -nI 1) (h.keep ka) (by rw [ka.1 _ (by omega) (by omega)]; exact h4) hf hB (by rw [up_j (by omega)]; omega) (by omega)
    obtain ⟨mc, c1, c2, c3, c4⟩ := offer_ok (q := qb) (w := nI i) b3 (by omega) (i2.keep (m1 := mb) (by rw [b2 _ (by omega), oa _ (by omega)]))
    refine ⟨(mc, qb), ?_, (ka.trans (KC.out b2 (by omega) (by omega))).trans ⟨fun i h1 h2 => c2 i h1, c3⟩, c4⟩
    simp only [B_X2_bestFace_7]
    simp (disch := omega) only [le_F, reduceIte, gac_13_0, gac_14_0, gac_13_4, gac_14_1, gac_200_1, stc_202, ob_some, t1, b1, c1, lit, nI_add]) (4) 0 mk_fu (m0, q) (by omega) (by rw [mk_fu_eq]; omega) ⟨z2, z3⟩
  obtain ⟨b, hb⟩ := bsF_some (w := fun i => nI i) (W := fun i => hoursA P ρ (-nI 1) n (upA A 2 p i)) (M := P 0 3) (n := 4) (by omega)
  have hs : m1 15 0 = nI (P 0 0) := (h.keep i1).1.1.1
  rw [hb] at i2 ⊢
  refine ⟨m1, q1, ?_, i1⟩
  unfold F_X2_bestFace
  simp only [gdc_13, z1, ob_some, lit]
  refine Eq.trans e ?_
  simp only [B_X2_bestFace_7]
  simp (disch := omega) only [le_T, reduceIte, gac_13_0, gac_14_0, ob_some, best_ok i2 hk, lit]
set_option maxRecDepth 4000 in
theorem turn_M {m0 m : Nat → Nat → Int32} {q : Nat → Nat → Int64} {P A : Nat → Nat → Nat} {n p k : Nat} {ρ : Option RT} (hQ : QM m0 P ρ (-nI 1)) (hA : MS P (blk m0 997) A) (hAh : A 0 1 ≤ 999) (hp : p < P 0 2) (hn : n ≤ 60) (hk : k ≤ 2) (hK : KP m0 m) (hB : KB m0 m) (h47 : m 996 47 = -nI 1) (hR : RelM m none) : ∃ m1 q1, B_X12_turn_45 mk_fu 996 (nI p) (nI n) (nI k) (nI 0) (KS, m, q) = some (bestA (bsF (fun i => nI i) (fun i => hoursA P ρ (-nI 1) n (upA A 2 p i)) (P 0 3) (4)) k, (KS, m1, q1)) ∧ KP m0 m1 ∧ KB m0 m1 ∧ m1 996 47 = -nI 1 := by
  obtain ⟨B1, B2, B3⟩ := hQ.1.2
  have hsq := PR.sq hQ.1
  obtain ⟨f1, ⟨m1, q1⟩, e, i1, i2, i3, i4⟩ := loop_up (fun f i (s : (Nat → Nat → Int32) × (Nat → Nat → Int64)) => B_X12_turn_45 f 996 (nI p) (nI n) (nI k) (nI i) (KS, s.1, s.2)) (4) (fun i s => KP m0 s.1 ∧ KB m0 s.1 ∧ s.1 996 47 = -nI 1 ∧ RelM s.1 (bsF (fun i => nI i) (fun i => hoursA P ρ (-nI 1) n (upA A 2 p i)) (P 0 3) i)) (by
    intro f i ⟨m', q'⟩ hi ⟨i1, i2, i3, i4⟩
    have hQ' := hQ.back i1.1 i2 i3
    have hA' := hA.back hQ.1 i2
    have hs : m' 997 0 = nI (P 0 0) := hQ'.1.1.1
    have mo : MO m' (mk_u2 m' 999 p (nI i)) := MO.row (by omega) (by omega)
    have hB : MS P (blk (mk_u2 m' 999 p (nI i)) 997) (upA A 2 p i) := hA'.up (j0 := 2) (p := p) (v := i) (fun j k => blk_u2 (m := m') (b := 997) (j0 := 2)) (by omega)
    obtain ⟨mb, qb, b1, b2, b3, b4, b5⟩ := tries_ok (q := q') (w := nI i) (n := n) (hQ'.mo mo) hB (by rw [up_j (by omega)]; omega) (by omega) (i1.mo mo) (i4.keep (u2_a (by omega)) (u2_a (by omega)) (u2_a (by omega)))
    refine ⟨(mb, qb), ?_, b2, b3, b4.trans ((u2_a (by omega)).trans i3), b5⟩
    simp only [B_X12_turn_45]
    simp (disch := omega) only [le_F, reduceIte, gam_3, stm_999, ob_some, b1, lit, nI_add]) (4) 0 mk_fu (m, q) (by omega) (by rw [mk_fu_eq]; omega) ⟨hK, hB, h47, hR⟩
  obtain ⟨b, hb⟩ := bsF_some (w := fun i => nI i) (W := fun i => hoursA P ρ (-nI 1) n (upA A 2 p i)) (M := P 0 3) (n := 4) (by omega)
  have hs : m1 997 0 = nI (P 0 0) := (hQ.back i1.1 i2 i3).1.1.1
  rw [hb] at i4 ⊢
  refine ⟨m1, q1, ?_, i1, i2, i3⟩
  refine Eq.trans e ?_
  simp only [B_X12_turn_45]
  simp (disch := omega) only [le_T, reduceIte, ob_some, ofWays_ok i4 hk, lit]
set_option maxRecDepth 4000 in
theorem op_turn (x1 x2 x3 : Int32) : OP (F_X11_turn 0 x1 x2 x3) (F_X12_turn 996 x1 x2 x3) := by
  intro m q hI
  obtain ⟨⟨⟨⟨len, by_⟩, ⟨nr, RS⟩, ⟨P, A, H, n, N, nn, fo, x⟩, IM, md⟩, hC, hM⟩, hE⟩ := id hI
  obtain ⟨⟨ct1, ct2, ct3⟩, ⟨cr1, cr2, cr3⟩, ⟨⟨cP, ⟨cA, cAh⟩, cH, ⟨cn1, cn2⟩, ⟨cf1, cf2⟩, ⟨cx1, cx2⟩⟩, cwf⟩, cm1, cm2⟩ := id hC
  obtain ⟨⟨mt1, mt2⟩, ⟨mr1, mr2⟩, ⟨mP, ⟨mA, mAh⟩, ⟨mh1, mh2, mh3⟩, ⟨mn1, mn2⟩, ⟨mf1, mf2⟩, ⟨mx1, mx2⟩⟩, mm1, mm2, mw, ms⟩ := id hM
  have cP5 : m 15 0 = nI (P 0 0) ∧ m 15 1 = nI (P 0 1) ∧ m 15 2 = nI (P 0 2) ∧ m 15 3 = nI (P 0 3) ∧ m 15 4 = nI (P 0 4) := cP.five
  have mP5 : m 997 0 = nI (P 0 0) ∧ m 997 1 = nI (P 0 1) ∧ m 997 2 = nI (P 0 2) ∧ m 997 3 = nI (P 0 3) ∧ m 997 4 = nI (P 0 4) := mP.five
  obtain ⟨B0, B1, B2, B3, B4, B5⟩ := cP.bd
  rcases within_C x1 0 (P 0 2) (by omega) (by omega) with ⟨p, -, hp, rfl⟩ | hno
  rotate_left
  · refine ⟨-nI 1, m, q, m, q, ?_, ?_, hI, fun _ _ => rfl⟩
    · unfold F_X11_turn; simp (disch := omega) only [ob_some, reduceIte, lit, le_T, le_F, lt_T, lt_F, eq_T, eq_F, nI_add, gac_0_0, gac_0_1, gac_0_2, gac_0_3, gac_0_4, gac_0_5, gac_0_6, gac_1_0, gic_1_1, gic_1_2, gic_1_3, gic_1_4, gic_1_5, gic_1_6, gac_3_0, gic_3_1, gic_3_2, gic_3_3, gic_3_4, gic_3_5, gic_3_6, gic_3_7, gic_5_0, gic_5_1, gic_5_2, gic_5_3, gic_5_4, gac_5_5, gac_5_6, gac_5_7, gac_5_8, gac_5_9, gac_5_10, gac_5_11, gac_13_0, gac_13_1, gic_13_2, gac_13_3, gac_13_4, gac_13_5, gac_13_6, gac_13_7, gac_13_8, gac_13_9, gic_13_10, gic_13_11, gic_13_12, gic_13_13, gac_14_0, gac_14_1, gac_14_2, gac_14_3, gic_14_4, gic_14_5, gic_15_0, gic_15_1, gic_15_2, gic_15_3, gic_15_4, gac_15_5, gac_15_6, gac_15_7, gac_15_8, gac_15_9, gac_15_10, gac_15_11, gac_23_0, gac_23_1, gac_23_2, gac_23_3, gac_23_4, gac_23_5, gac_23_6, gic_23_7, gic_23_8, gac_31_0, gic_31_1, gic_31_2, gac_193_0, gac_193_1, gac_193_2, gic_193_3, gac_198_0, gac_200_0, gac_200_1, gac_200_2, gac_200_3, gac_200_4, gac_200_5, gac_200_6, gic_200_7, gic_200_8, pic_1_1, pic_1_2, pic_1_3, pic_1_4, pic_1_5, pic_1_6, pic_3_1, pic_3_2, pic_3_3, pic_3_4, pic_3_5, pic_3_6, pic_3_7, pic_5_0, pic_5_1, pic_5_2, pic_5_3, pic_5_4, pic_13_2, pic_13_10, pic_13_11, pic_13_12, pic_13_13, pic_14_4, pic_14_5, pic_15_0, pic_15_1, pic_15_2, pic_15_3, pic_15_4, pic_23_7, pic_23_8, pic_31_1, pic_31_2, pic_193_3, pic_200_7, pic_200_8, gdc_0, gdc_1, gdc_3, gdc_5, gdc_13, gdc_14, gdc_15, gdc_23, gdc_31, gdc_193, gdc_198, gdc_200, ldc_2, stc_2, ldc_4, stc_4, ldc_6, stc_6, ldc_7, stc_7, ldc_8, stc_8, ldc_9, stc_9, ldc_10, stc_10, ldc_11, stc_11, ldc_12, stc_12, ldc_16, stc_16, ldc_17, stc_17, ldc_18, stc_18, ldc_19, stc_19, ldc_20, stc_20, ldc_21, stc_21, ldc_22, stc_22, ldc_24, stc_24, ldc_25, stc_25, ldc_26, stc_26, ldc_27, stc_27, ldc_28, stc_28, ldc_29, stc_29, ldc_30, stc_30, ldc_194, stc_194, ldc_195, stc_195, ldc_196, stc_196, ldc_199, stc_199, ldc_201, stc_201, ldc_202, stc_202, ldc_203, stc_203, ldc_204, stc_204, ldc_205, stc_205, ldc_206, stc_206, ldc_207, stc_207, ldc_208, stc_208, ldc_209, stc_209, ldc_210, stc_210, ldc_211, stc_211, ldc_213, stc_213, ldc_214, stc_214, ldc_215, stc_215, ldc_216, stc_216, ldc_217, stc_217, ldc_218, stc_218, ldc_219, stc_219, ldc_263, stc_263, lda_197, lda_262, lda_212, lda_32, u2_s, u2_a, u2_b, isPer_C cP5.2.2.1, hno]
    · unfold F_X12_turn; simp (disch := omega) only [gdm, gam_1, gam_2, gam_3, gam_4, gam_5, gam_6, gam_7, gam_8, gam_9, gam_10, gam_11, gam_12, gam_13, gam_14, gam_15, gam_16, gam_17, gam_18, gam_19, gam_20, gam_21, gam_22, gam_23, gam_24, gam_25, gam_26, gam_37, gam_38, gam_39, gam_40, gam_41, gam_42, gam_43, gam_44, gam_45, gam_46, gam_48, gam_49, gam_56, gam_57, gam_58, gam_59, gam_60, gam_61, gim_27, gim_28, gim_29, gim_30, gim_31, gim_32, gim_33, gim_34, gim_35, gim_36, gim_47, gim_50, gim_51, gim_52, gim_53, gim_54, gim_55, gim_62, gim_63, ob_some, reduceIte, lit, le_T, le_F, lt_T, lt_F, eq_T, eq_F, nI_add, ldm_997, stm_997, ldm_998, stm_998, ldm_999, stm_999, ldm_1000, stm_1000, ldm_1001, stm_1001, ldm_1002, stm_1002, ldm_1003, stm_1003, ldm_1004, stm_1004, ldm_1005, stm_1005, ldm_1006, stm_1006, ldm_1007, stm_1007, ldm_1008, stm_1008, ldm_1009, stm_1009, ldm_1010, stm_1010, ldm_1011, stm_1011, ldm_1012, stm_1012, ldm_1013, stm_1013, ldm_1014, stm_1014, ldm_1015, stm_1015, ldm_1016, stm_1016, ldm_1017, stm_1017, ldm_1018, stm_1018, ldm_1019, stm_1019, ldm_1020, stm_1020, ldm_1021, stm_1021, ldm_1022, stm_1022, u2_s, u2_a, u2_b, not_true, not_false_iff, isPer_M mP5.2.2.1, hno]
  rcases within_CL x2 1 60 (by omega) (by omega) with ⟨n1, hn0, hn1, rfl⟩ | hno
  rotate_left
  · refine ⟨-nI 1, m, q, m, q, ?_, ?_, hI, fun _ _ => rfl⟩
    · unfold F_X11_turn F_X11_isWayAsked B_X11_isWayAsked_23; simp (disch := omega) only [ob_some, reduceIte, lit, le_T, le_F, lt_T, lt_F, eq_T, eq_F, nI_add, gac_0_0, gac_0_1, gac_0_2, gac_0_3, gac_0_4, gac_0_5, gac_0_6, gac_1_0, gic_1_1, gic_1_2, gic_1_3, gic_1_4, gic_1_5, gic_1_6, gac_3_0, gic_3_1, gic_3_2, gic_3_3, gic_3_4, gic_3_5, gic_3_6, gic_3_7, gic_5_0, gic_5_1, gic_5_2, gic_5_3, gic_5_4, gac_5_5, gac_5_6, gac_5_7, gac_5_8, gac_5_9, gac_5_10, gac_5_11, gac_13_0, gac_13_1, gic_13_2, gac_13_3, gac_13_4, gac_13_5, gac_13_6, gac_13_7, gac_13_8, gac_13_9, gic_13_10, gic_13_11, gic_13_12, gic_13_13, gac_14_0, gac_14_1, gac_14_2, gac_14_3, gic_14_4, gic_14_5, gic_15_0, gic_15_1, gic_15_2, gic_15_3, gic_15_4, gac_15_5, gac_15_6, gac_15_7, gac_15_8, gac_15_9, gac_15_10, gac_15_11, gac_23_0, gac_23_1, gac_23_2, gac_23_3, gac_23_4, gac_23_5, gac_23_6, gic_23_7, gic_23_8, gac_31_0, gic_31_1, gic_31_2, gac_193_0, gac_193_1, gac_193_2, gic_193_3, gac_198_0, gac_200_0, gac_200_1, gac_200_2, gac_200_3, gac_200_4, gac_200_5, gac_200_6, gic_200_7, gic_200_8, pic_1_1, pic_1_2, pic_1_3, pic_1_4, pic_1_5, pic_1_6, pic_3_1, pic_3_2, pic_3_3, pic_3_4, pic_3_5, pic_3_6, pic_3_7, pic_5_0, pic_5_1, pic_5_2, pic_5_3, pic_5_4, pic_13_2, pic_13_10, pic_13_11, pic_13_12, pic_13_13, pic_14_4, pic_14_5, pic_15_0, pic_15_1, pic_15_2, pic_15_3, pic_15_4, pic_23_7, pic_23_8, pic_31_1, pic_31_2, pic_193_3, pic_200_7, pic_200_8, gdc_0, gdc_1, gdc_3, gdc_5, gdc_13, gdc_14, gdc_15, gdc_23, gdc_31, gdc_193, gdc_198, gdc_200, ldc_2, stc_2, ldc_4, stc_4, ldc_6, stc_6, ldc_7, stc_7, ldc_8, stc_8, ldc_9, stc_9, ldc_10, stc_10, ldc_11, stc_11, ldc_12, stc_12, ldc_16, stc_16, ldc_17, stc_17, ldc_18, stc_18, ldc_19, stc_19, ldc_20, stc_20, ldc_21, stc_21, ldc_22, stc_22, ldc_24, stc_24, ldc_25, stc_25, ldc_26, stc_26, ldc_27, stc_27, ldc_28, stc_28, ldc_29, stc_29, ldc_30, stc_30, ldc_194, stc_194, ldc_195, stc_195, ldc_196, stc_196, ldc_199, stc_199, ldc_201, stc_201, ldc_202, stc_202, ldc_203, stc_203, ldc_204, stc_204, ldc_205, stc_205, ldc_206, stc_206, ldc_207, stc_207, ldc_208, stc_208, ldc_209, stc_209, ldc_210, stc_210, ldc_211, stc_211, ldc_213, stc_213, ldc_214, stc_214, ldc_215, stc_215, ldc_216, stc_216, ldc_217, stc_217, ldc_218, stc_218, ldc_219, stc_219, ldc_263, stc_263, lda_197, lda_262, lda_212, lda_32, u2_s, u2_a, u2_b, isPer_C cP5.2.2.1, within_T, hno, rz0]
    · unfold F_X12_turn; simp (disch := omega) only [gdm, gam_1, gam_2, gam_3, gam_4, gam_5, gam_6, gam_7, gam_8, gam_9, gam_10, gam_11, gam_12, gam_13, gam_14, gam_15, gam_16, gam_17, gam_18, gam_19, gam_20, gam_21, gam_22, gam_23, gam_24, gam_25, gam_26, gam_37, gam_38, gam_39, gam_40, gam_41, gam_42, gam_43, gam_44, gam_45, gam_46, gam_48, gam_49, gam_56, gam_57, gam_58, gam_59, gam_60, gam_61, gim_27, gim_28, gim_29, gim_30, gim_31, gim_32, gim_33, gim_34, gim_35, gim_36, gim_47, gim_50, gim_51, gim_52, gim_53, gim_54, gim_55, gim_62, gim_63, ob_some, reduceIte, lit, le_T, le_F, lt_T, lt_F, eq_T, eq_F, nI_add, ldm_997, stm_997, ldm_998, stm_998, ldm_999, stm_999, ldm_1000, stm_1000, ldm_1001, stm_1001, ldm_1002, stm_1002, ldm_1003, stm_1003, ldm_1004, stm_1004, ldm_1005, stm_1005, ldm_1006, stm_1006, ldm_1007, stm_1007, ldm_1008, stm_1008, ldm_1009, stm_1009, ldm_1010, stm_1010, ldm_1011, stm_1011, ldm_1012, stm_1012, ldm_1013, stm_1013, ldm_1014, stm_1014, ldm_1015, stm_1015, ldm_1016, stm_1016, ldm_1017, stm_1017, ldm_1018, stm_1018, ldm_1019, stm_1019, ldm_1020, stm_1020, ldm_1021, stm_1021, ldm_1022, stm_1022, u2_s, u2_a, u2_b, not_true, not_false_iff, isPer_M mP5.2.2.1, within_T, in_1_60, hno]
  rcases within_CL x3 0 2 (by omega) (by omega) with ⟨k, -, hk, rfl⟩ | hno
  rotate_left
  · refine ⟨-nI 1, m, q, m, q, ?_, ?_, hI, fun _ _ => rfl⟩
    · unfold F_X11_turn F_X11_isWayAsked B_X11_isWayAsked_23; simp (disch := omega) only [ob_some, reduceIte, lit, le_T, le_F, lt_T, lt_F, eq_T, eq_F, nI_add, gac_0_0, gac_0_1, gac_0_2, gac_0_3, gac_0_4, gac_0_5, gac_0_6, gac_1_0, gic_1_1, gic_1_2, gic_1_3, gic_1_4, gic_1_5, gic_1_6, gac_3_0, gic_3_1, gic_3_2, gic_3_3, gic_3_4, gic_3_5, gic_3_6, gic_3_7, gic_5_0, gic_5_1, gic_5_2, gic_5_3, gic_5_4, gac_5_5, gac_5_6, gac_5_7, gac_5_8, gac_5_9, gac_5_10, gac_5_11, gac_13_0, gac_13_1, gic_13_2, gac_13_3, gac_13_4, gac_13_5, gac_13_6, gac_13_7, gac_13_8, gac_13_9, gic_13_10, gic_13_11, gic_13_12, gic_13_13, gac_14_0, gac_14_1, gac_14_2, gac_14_3, gic_14_4, gic_14_5, gic_15_0, gic_15_1, gic_15_2, gic_15_3, gic_15_4, gac_15_5, gac_15_6, gac_15_7, gac_15_8, gac_15_9, gac_15_10, gac_15_11, gac_23_0, gac_23_1, gac_23_2, gac_23_3, gac_23_4, gac_23_5, gac_23_6, gic_23_7, gic_23_8, gac_31_0, gic_31_1, gic_31_2, gac_193_0, gac_193_1, gac_193_2, gic_193_3, gac_198_0, gac_200_0, gac_200_1, gac_200_2, gac_200_3, gac_200_4, gac_200_5, gac_200_6, gic_200_7, gic_200_8, pic_1_1, pic_1_2, pic_1_3, pic_1_4, pic_1_5, pic_1_6, pic_3_1, pic_3_2, pic_3_3, pic_3_4, pic_3_5, pic_3_6, pic_3_7, pic_5_0, pic_5_1, pic_5_2, pic_5_3, pic_5_4, pic_13_2, pic_13_10, pic_13_11, pic_13_12, pic_13_13, pic_14_4, pic_14_5, pic_15_0, pic_15_1, pic_15_2, pic_15_3, pic_15_4, pic_23_7, pic_23_8, pic_31_1, pic_31_2, pic_193_3, pic_200_7, pic_200_8, gdc_0, gdc_1, gdc_3, gdc_5, gdc_13, gdc_14, gdc_15, gdc_23, gdc_31, gdc_193, gdc_198, gdc_200, ldc_2, stc_2, ldc_4, stc_4, ldc_6, stc_6, ldc_7, stc_7, ldc_8, stc_8, ldc_9, stc_9, ldc_10, stc_10, ldc_11, stc_11, ldc_12, stc_12, ldc_16, stc_16, ldc_17, stc_17, ldc_18, stc_18, ldc_19, stc_19, ldc_20, stc_20, ldc_21, stc_21, ldc_22, stc_22, ldc_24, stc_24, ldc_25, stc_25, ldc_26, stc_26, ldc_27, stc_27, ldc_28, stc_28, ldc_29, stc_29, ldc_30, stc_30, ldc_194, stc_194, ldc_195, stc_195, ldc_196, stc_196, ldc_199, stc_199, ldc_201, stc_201, ldc_202, stc_202, ldc_203, stc_203, ldc_204, stc_204, ldc_205, stc_205, ldc_206, stc_206, ldc_207, stc_207, ldc_208, stc_208, ldc_209, stc_209, ldc_210, stc_210, ldc_211, stc_211, ldc_213, stc_213, ldc_214, stc_214, ldc_215, stc_215, ldc_216, stc_216, ldc_217, stc_217, ldc_218, stc_218, ldc_219, stc_219, ldc_263, stc_263, lda_197, lda_262, lda_212, lda_32, u2_s, u2_a, u2_b, isPer_C cP5.2.2.1, within_T, within_TL, hno, rz0]
    · unfold F_X12_turn; simp (disch := omega) only [gdm, gam_1, gam_2, gam_3, gam_4, gam_5, gam_6, gam_7, gam_8, gam_9, gam_10, gam_11, gam_12, gam_13, gam_14, gam_15, gam_16, gam_17, gam_18, gam_19, gam_20, gam_21, gam_22, gam_23, gam_24, gam_25, gam_26, gam_37, gam_38, gam_39, gam_40, gam_41, gam_42, gam_43, gam_44, gam_45, gam_46, gam_48, gam_49, gam_56, gam_57, gam_58, gam_59, gam_60, gam_61, gim_27, gim_28, gim_29, gim_30, gim_31, gim_32, gim_33, gim_34, gim_35, gim_36, gim_47, gim_50, gim_51, gim_52, gim_53, gim_54, gim_55, gim_62, gim_63, ob_some, reduceIte, lit, le_T, le_F, lt_T, lt_F, eq_T, eq_F, nI_add, ldm_997, stm_997, ldm_998, stm_998, ldm_999, stm_999, ldm_1000, stm_1000, ldm_1001, stm_1001, ldm_1002, stm_1002, ldm_1003, stm_1003, ldm_1004, stm_1004, ldm_1005, stm_1005, ldm_1006, stm_1006, ldm_1007, stm_1007, ldm_1008, stm_1008, ldm_1009, stm_1009, ldm_1010, stm_1010, ldm_1011, stm_1011, ldm_1012, stm_1012, ldm_1013, stm_1013, ldm_1014, stm_1014, ldm_1015, stm_1015, ldm_1016, stm_1016, ldm_1017, stm_1017, ldm_1018, stm_1018, ldm_1019, stm_1019, ldm_1020, stm_1020, ldm_1021, stm_1021, ldm_1022, stm_1022, u2_s, u2_a, u2_b, not_true, not_false_iff, isPer_M mP5.2.2.1, within_T, within_TL, in_1_60, in_0_2, hno]
  have h0 : 0 < P 0 0 := by have := (cP.p hp).2; omega
  obtain ⟨hQ, h4, hf6⟩ := qc_of hC hE h0
  obtain ⟨mb, qb, b1, kb⟩ := turn_C (q := q) (n := n1) hQ h4 hf6 hp hn1 hk
  obtain ⟨hQM, hMS⟩ := qm_of hC hM h0 kb
  obtain ⟨mc, k1, k2, k3, k4, k5⟩ := keepsAll_ok (q := qb) mb
  have hR : RelM (mk_u2 (mk_u2 (mk_u2 mc 996 53 (-nI 2)) 996 54 (nI 5)) 996 55 (-nI 1)) none := by
    refine ⟨?_, ?_⟩ <;> simp (disch := omega) only [u2_s, u2_b]
  have h47 : mk_u2 (mk_u2 (mk_u2 mc 996 53 (-nI 2)) 996 54 (nI 5)) 996 55 (-nI 1) 996 47 = -nI 1 := by
    rw [u2_b (by omega), u2_b (by omega), u2_b (by omega), k4 47 (by omega) (by omega)]; exact hQM.2.2
  obtain ⟨me, qe, e1, e2, e3, e4⟩ := turn_M (q := qb) hQM hMS cAh hp hn1 hk k2.set k3.set h47 hR
  obtain ⟨f1, f2⟩ := ask_fin hC hM hE kb e2.1 e3 (e4.trans hQM.2.2.symm)
  have hP2 : mb 997 2 = nI (P 0 2) := by rw [kb.1 _ (by omega) (by omega)]; exact mP5.2.2.1
  refine ⟨bestA (bsF (fun i => nI i) (fun i => hoursA P (frho RS fo) (-nI 1) n1 (upA A 2 p i)) (P 0 3) (4)) k, mb, qb, me, qe, ?_, ?_, f1, f2⟩
  · unfold F_X11_turn
    simp (disch := omega) only [ob_some, reduceIte, lit, le_T, le_F, lt_T, lt_F, eq_T, eq_F, nI_add, gac_0_0, gac_0_1, gac_0_2, gac_0_3, gac_0_4, gac_0_5, gac_0_6, gac_1_0, gic_1_1, gic_1_2, gic_1_3, gic_1_4, gic_1_5, gic_1_6, gac_3_0, gic_3_1, gic_3_2, gic_3_3, gic_3_4, gic_3_5, gic_3_6, gic_3_7, gic_5_0, gic_5_1, gic_5_2, gic_5_3, gic_5_4, gac_5_5, gac_5_6, gac_5_7, gac_5_8, gac_5_9, gac_5_10, gac_5_11, gac_13_0, gac_13_1, gic_13_2, gac_13_3, gac_13_4, gac_13_5, gac_13_6, gac_13_7, gac_13_8, gac_13_9, gic_13_10, gic_13_11, gic_13_12, gic_13_13, gac_14_0, gac_14_1, gac_14_2, gac_14_3, gic_14_4, gic_14_5, gic_15_0, gic_15_1, gic_15_2, gic_15_3, gic_15_4, gac_15_5, gac_15_6, gac_15_7, gac_15_8, gac_15_9, gac_15_10, gac_15_11, gac_23_0, gac_23_1, gac_23_2, gac_23_3, gac_23_4, gac_23_5, gac_23_6, gic_23_7, gic_23_8, gac_31_0, gic_31_1, gic_31_2, gac_193_0, gac_193_1, gac_193_2, gic_193_3, gac_198_0, gac_200_0, gac_200_1, gac_200_2, gac_200_3, gac_200_4, gac_200_5, gac_200_6, gic_200_7, gic_200_8, pic_1_1, pic_1_2, pic_1_3, pic_1_4, pic_1_5, pic_1_6, pic_3_1, pic_3_2, pic_3_3, pic_3_4, pic_3_5, pic_3_6, pic_3_7, pic_5_0, pic_5_1, pic_5_2, pic_5_3, pic_5_4, pic_13_2, pic_13_10, pic_13_11, pic_13_12, pic_13_13, pic_14_4, pic_14_5, pic_15_0, pic_15_1, pic_15_2, pic_15_3, pic_15_4, pic_23_7, pic_23_8, pic_31_1, pic_31_2, pic_193_3, pic_200_7, pic_200_8, gdc_0, gdc_1, gdc_3, gdc_5, gdc_13, gdc_14, gdc_15, gdc_23, gdc_31, gdc_193, gdc_198, gdc_200, ldc_2, stc_2, ldc_4, stc_4, ldc_6, stc_6, ldc_7, stc_7, ldc_8, stc_8, ldc_9, stc_9, ldc_10, stc_10, ldc_11, stc_11, ldc_12, stc_12, ldc_16, stc_16, ldc_17, stc_17, ldc_18, stc_18, ldc_19, stc_19, ldc_20, stc_20, ldc_21, stc_21, ldc_22, stc_22, ldc_24, stc_24, ldc_25, stc_25, ldc_26, stc_26, ldc_27, stc_27, ldc_28, stc_28, ldc_29, stc_29, ldc_30, stc_30, ldc_194, stc_194, ldc_195, stc_195, ldc_196, stc_196, ldc_199, stc_199, ldc_201, stc_201, ldc_202, stc_202, ldc_203, stc_203, ldc_204, stc_204, ldc_205, stc_205, ldc_206, stc_206, ldc_207, stc_207, ldc_208, stc_208, ldc_209, stc_209, ldc_210, stc_210, ldc_211, stc_211, ldc_213, stc_213, ldc_214, stc_214, ldc_215, stc_215, ldc_216, stc_216, ldc_217, stc_217, ldc_218, stc_218, ldc_219, stc_219, ldc_263, stc_263, lda_197, lda_262, lda_212, lda_32, u2_s, u2_a, u2_b, isPer_C cP5.2.2.1, within_T, way_T, b1]
  · unfold F_X12_turn
    simp (disch := omega) only [gdm, gam_1, gam_2, gam_3, gam_4, gam_5, gam_6, gam_7, gam_8, gam_9, gam_10, gam_11, gam_12, gam_13, gam_14, gam_15, gam_16, gam_17, gam_18, gam_19, gam_20, gam_21, gam_22, gam_23, gam_24, gam_25, gam_26, gam_37, gam_38, gam_39, gam_40, gam_41, gam_42, gam_43, gam_44, gam_45, gam_46, gam_48, gam_49, gam_56, gam_57, gam_58, gam_59, gam_60, gam_61, gim_27, gim_28, gim_29, gim_30, gim_31, gim_32, gim_33, gim_34, gim_35, gim_36, gim_47, gim_50, gim_51, gim_52, gim_53, gim_54, gim_55, gim_62, gim_63, ob_some, reduceIte, lit, le_T, le_F, lt_T, lt_F, eq_T, eq_F, nI_add, ldm_997, stm_997, ldm_998, stm_998, ldm_999, stm_999, ldm_1000, stm_1000, ldm_1001, stm_1001, ldm_1002, stm_1002, ldm_1003, stm_1003, ldm_1004, stm_1004, ldm_1005, stm_1005, ldm_1006, stm_1006, ldm_1007, stm_1007, ldm_1008, stm_1008, ldm_1009, stm_1009, ldm_1010, stm_1010, ldm_1011, stm_1011, ldm_1012, stm_1012, ldm_1013, stm_1013, ldm_1014, stm_1014, ldm_1015, stm_1015, ldm_1016, stm_1016, ldm_1017, stm_1017, ldm_1018, stm_1018, ldm_1019, stm_1019, ldm_1020, stm_1020, ldm_1021, stm_1021, ldm_1022, stm_1022, u2_s, u2_a, u2_b, not_true, not_false_iff, isPer_M hP2, within_T, within_TL, in_1_60, in_0_2, k1, starts_ok]
    exact e1
