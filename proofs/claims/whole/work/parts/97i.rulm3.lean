/-! RULES told: the reference; sums, where a fault has come -/
set_option maxRecDepth 4000 in
theorem vaD {T : TT} {r f : Nat} {m : Nat → Nat → Int32} {q : Nat → Nat → Int64} (h : DD T r m f) : ∃ m1, F_X12_value 996 (KS, m, q) = some ((), (KS, m1, q)) ∧ (∀ o, FrS r o m m1) ∧ DD T r m1 f := by
  have hT := h.1
  have hl := hT.2.1
  obtain ⟨p, h5, h55⟩ := h.2.2.2.2.1
  have hbl := blkM (q := q) hT h55 (by omega)
  have hsl : sp isB T p ≤ 405 := sp_cap hB h5 (by omega)
  generalize sp isB T p = s at *
  have hs := h.p (p1 := s) hsl
  have h28 : (mk_u2 m 996 28 (nI s)) 996 28 = nI s := u2_s
  have hid := idM (q := q) hs.1 h28 (by omega)
  have h36 := hs.2.2.2.2.2.2
  cases cD : isD (bt T s) with
  | true =>
    rw [cD, bI_T] at hid
    have hlt : s < T.1 := (sp_go hD cD).1
    have hdg := dgM (q := q) hs.1 h28 cD
    have hde := sp_le (P := isD) (T := T) hD (i := s) (by omega)
    have hpe := h.p (p1 := sp isD T s) (by omega)
    rw [u2_u2, hpe.fails (by omega), ob_some] at hdg
    have hv : ∃ v, F_X12_digits 996 (nI 99999) (KS, (mk_u2 m 996 28 (nI s)), q) = some (nI v, (KS, (mk_u2 m 996 28 (nI (sp isD T s))), q)) := by
      by_cases c : sp isD T s - s ≤ 5
      · rw [if_pos c] at hdg; exact ⟨_, hdg⟩
      · rw [if_neg c] at hdg; exact ⟨_, hdg⟩
    obtain ⟨v, hv⟩ := hv
    obtain ⟨g1, g2⟩ := hpe.count (q := q) (s := s) (by omega)
    refine ⟨_, ?_, fun o => (FrS.rf.up (by omega)).up (by omega), g2⟩
    unfold F_X12_value
    simp (disch := omega) only [gdm, hbl, ob_some, gim_28, h28, hid, lit, eq_F, reduceIte, hv, g1, g2.entry]
  | false =>
    rw [cD, bI_F] at hid
    have hw := vwM (q := q) (x := nI s) hs.1 h28 (by omega) h36
    have st : ∀ z, B_X12_value_62 996 (nI s) (nI (if wix T s < 12 then wix T s else 12)) (KS, (mk_u2 m 996 28 (nI s)), q) = z → F_X12_value 996 (KS, m, q) = z := fun z hz => by
      unfold F_X12_value
      simp (disch := omega) only [gdm, hbl, ob_some, gim_28, h28, hid, lit, eq_T, reduceIte]
      exact hw.trans hz
    by_cases cw : wix T s < 12
    · rw [if_pos cw] at st
      have hwl : mk_sln (1000000 + (21 + wix T s)) = fun t => some (nI (wd (wix T s)).length, t) := by
        funext t
        rw [wsln (by omega), wd_word _ cw]
      have hsT : s ≤ T.1 := by
        apply Classical.byContradiction
        intro c
        have := wix_nl (T := T) (s := s) (by rw [bt_end (by omega)]; rfl)
        omega
      have he := end_w (T := T) (s := s) (by omega)
      have hel := (end1_le hsT).2.1
      rw [he] at hel
      obtain ⟨g1, g2⟩ := hs.count (q := q) (s := s) (by omega)
      have g28 : mk_u2 ((mk_u2 m 996 28 (nI s))) 996 34 ((mk_u2 m 996 28 (nI s)) 996 34 + nI 1) 996 28 = nI s := by rw [u2_b (by omega)]; exact h28
      have g3 := g2.p (p1 := s + (wd (wix T s)).length) (by omega)
      refine ⟨_, st _ ?_, fun o => ((FrS.rf.up (by omega)).up (by omega)).up (by omega), g3⟩
      unfold B_X12_value_62
      simp (disch := omega) only [gim_36, ob_some, h36, eq_F, reduceIte, g1, gim_28, g28, wordOfM, hwl, nI_add, pim_28, lit, g3.entry]
    · rw [if_neg cw] at st
      refine ⟨(mk_u2 m 996 28 (nI s)), st _ ?_, fun o => FrS.rf.up (by omega), hs⟩
      unfold B_X12_value_62
      simp (disch := omega) only [gim_36, ob_some, h36, eq_T, reduceIte, lit, hs.fails]
set_option maxRecDepth 4000 in
theorem teD {T : TT} {r f : Nat} {m : Nat → Nat → Int32} {q : Nat → Nat → Int64} (h : DD T r m f) : ∃ m1, F_X12_term 996 (KS, m, q) = some ((), (KS, m1, q)) ∧ (∀ o, FrS r o m m1) ∧ DD T r m1 f := by
  obtain ⟨mv, v1, v2, v3⟩ := vaD (q := q) h
  obtain ⟨mb, b1, b2, b3⟩ := v3.blank (q := q)
  obtain ⟨g, hf⟩ : ∃ g, mk_fu = g + 1 := ⟨99999, rfl⟩
  refine ⟨mb, ?_, fun o => (v2 o).trans (b2 o) (Nat.le_refl _), b3⟩
  unfold F_X12_term
  simp only [gdm, v1, ob_some, b1]
  rw [hf]
  exact (teX b3).1
set_option maxRecDepth 4000 in
theorem suD {T : TT} {r f : Nat} {m : Nat → Nat → Int32} {q : Nat → Nat → Int64} (h : DD T r m f) : ∃ m1, F_X12_sum 996 (KS, m, q) = some ((), (KS, m1, q)) ∧ (∀ o, FrS r o m m1) ∧ DD T r m1 f := by
  obtain ⟨mv, v1, v2, v3⟩ := teD (q := q) h
  obtain ⟨g, hf⟩ : ∃ g, mk_fu = g + 1 := ⟨99999, rfl⟩
  refine ⟨mv, ?_, v2, v3⟩
  unfold F_X12_sum
  simp only [gdm, v1, ob_some]
  rw [hf]
  exact (teX v3).2
/-! sums -/
set_option maxRecDepth 4000 in
theorem suL {T : TT} {r o pt : Nat} {st : List Nat} {cl : RT} {c1 : List (Nat × Nat)} {tl : List Bool} {q : Nat → Nat → Int64} (hr : r < 6) (ho : o = lenR cl + c1.length) (hp : pt ≠ 3) (hs : ∀ x r, st = x :: r → bd x < 5) : ∀ (n f : Nat) (m : Nat → Nat → Int32) (x : RG), T.1 - sp isB T x.2.1 ≤ n → n + 1 < f → AB T r o m x 5 pt st cl c1 (false :: tl) → N6 T x → ∃ m1, B_X12_sum_4 f 996 (KS, m, q) = some ((), (KS, m1, q)) ∧ FrS r o m m1 ∧ ((∃ fl, Rc T x (ft fl) ∧ DD T r m1 fl) ∨ ∃ x', Rc T x x' ∧ AB T r o m1 x' 5 pt st cl c1 (false :: tl) ∧ N5 T x' ∧ x.2.1 ≤ x'.2.1) := by
  intro n
  induction n with
  | zero =>
    intro f m x hn hf h h6
    obtain ⟨f, rfl⟩ : ∃ g, f = g + 1 := ⟨f - 1, by omega⟩
    have h0 := h
    obtain ⟨a, it, cd, U, rfl, hM, hU, hty, hpu, hG⟩ := h
    have hn : T.1 - sp isB T a ≤ 0 := hn
    have e := bt_end (T := T) (i := sp isB T a) (by omega)
    have hsg := sgM (q := q) hM.1 hM.2.1 (by have := hM.2.2.1; have := hM.1.2.1; omega)
    rw [e] at hsg
    refine ⟨m, ?_, FrS.rf, .inr ⟨_, Rc.rf, h0, ⟨h6, ?_, ?_⟩, Nat.le_refl _⟩⟩
    · rw [B_X12_sum_4]
      simp (disch := omega) only [gim_29, ob_some, hM.2.2.2.1, lit, eq_T, reduceIte, hsg, sI_eqc, Nat.reduceEqDiff]
    all_goals
      show bt T (sp isB T a) ≠ _
      omega
  | succ n ih =>
    intro f m x hn hf h h6
    obtain ⟨f, rfl⟩ : ∃ g, f = g + 1 := ⟨f - 1, by omega⟩
    have h0 := h
    obtain ⟨a, it, cd, U, rfl, hM, hU, hty, hpu, hG⟩ := h
    have hn : T.1 - sp isB T a ≤ n + 1 := hn
    obtain ⟨hT4, hb⟩ := hM.bt
    have hpl := hM.2.2.1
    have hsg := sgM (q := q) hM.1 hM.2.1 (by omega)
    have hbp := hb (sp isB T a)
    have step : ∀ g, bt T (sp isB T a) = g → bd g = 5 → isD g = false → g < 60 → B_X12_sum_4 (f + 1) 996 (KS, m, q) = B_X12_sum_43 (B_X12_sum_4 f) 996 (nI (ent g)) (KS, m, q) → ∃ m1, B_X12_sum_4 (f + 1) 996 (KS, m, q) = some ((), (KS, m1, q)) ∧ FrS r o m m1 ∧ ((∃ fl, Rc T (0, a, 3, pt, U ++ st, it, cl, c1, cd) (ft fl) ∧ DD T r m1 fl) ∨ ∃ x', Rc T (0, a, 3, pt, U ++ st, it, cl, c1, cd) x' ∧ AB T r o m1 x' 5 pt st cl c1 (false :: tl) ∧ N5 T x' ∧ a ≤ x'.2.1) := fun g hg hg5 hgD hg60 hB4 => by
      have hx1 := ar_step (T := T) (a := a) (it := it) (cl := cl) (c1 := c1) (cd := cd) hb hg hg5 (by omega) hg60 hgD hp hs hU
      have hlt := bt_far (T := T) (s := sp isB T a) (by omega)
      have hG1 := hG.rst hT4 hb
      rw [hx1] at hG1
      have hM1 := hM.p (p1 := sp isB T a + 1) (by omega)
      have hs2 := sp_ge (P := isB) (T := T) hB a
      obtain ⟨mv, v1, v2, v3⟩ := teM (q := q) (st := g :: st) hr ho hp (fun x r e => by simp only [List.cons.injEq] at e; rw [← e.1]; omega) hM1 rfl hty hpu hG1
      have fm : FrS r o m mv := (FrS.rf.up (by omega)).trans v2 (Nat.le_refl _)
      rcases v3 with ⟨fl, w1, w2⟩ | ⟨x', w1, w2, w3, w4⟩
      · obtain ⟨f, rfl⟩ : ∃ g, f = g + 1 := ⟨f - 1, by omega⟩
        refine ⟨mv, ?_, fm, .inl ⟨fl, ((R1.one hx1).trans w1).rc, w2⟩⟩
        rw [hB4]
        unfold B_X12_sum_43
        simp (disch := omega) only [gim_28, ob_some, hM.2.1, lit, nI_add, pim_28, v1, w2.entry, (teX w2).2]
      · obtain ⟨a2, it2, cd2, U2, rfl, hM2, hU2, hty2, hpu2, hG2⟩ := w2
        have hU2' : ∀ u, u ∈ U2 ++ [g] → 5 ≤ bd u := fun u hu => by
          rcases List.mem_append.mp hu with h | h
          · have := hU2 u h; omega
          · rw [List.mem_singleton] at h; rw [h]; omega
        have est : U2 ++ g :: st = (U2 ++ [g]) ++ st := by rw [List.append_assoc]; rfl
        have ecd : cd2 ++ U2.map en ++ [en g] = cd2 ++ (U2 ++ [g]).map en := by rw [List.map_append, List.append_assoc]; rfl
        obtain ⟨q1, q2, q3⟩ := hG2.bnd hT4 (fun u hu => by have := hU2 u hu; omega)
        obtain ⟨me, e1, e2, e3⟩ := hM2.entry (q := q) (k := ent g) (v := 0) hr (by omega)
        have e3 : MB T r o me (sp isB T a2) (cd2 ++ U2.map en ++ [en g]) it2 := e3
        have hty3 : tys (cd2 ++ U2.map en ++ [en g]) [] = some (false :: tl) := tys_one hty2 (ty5 (by omega) _)
        have hpu3 : pushes (cd2 ++ U2.map en ++ [en g]) ≤ it2 := by rw [pushes_en (by omega)]; exact hpu2
        rw [ecd] at e3 hty3 hpu3
        have w4 : sp isB T a + 1 ≤ a2 := w4
        have hs4 := sp_ge (P := isB) (T := T) hB a2
        have w1 := w1
        rw [est] at w1 hG2 w3
        obtain ⟨m1, z1, z2, z3⟩ := ih f me (0, a2, 3, pt, (U2 ++ [g]) ++ st, it2, cl, c1, cd2) (by show T.1 - sp isB T a2 ≤ n; omega) (by omega) ⟨a2, it2, cd2, U2 ++ [g], rfl, e3, hU2', hty3, hpu3, hG2⟩ w3
        refine ⟨m1, ?_, (fm.trans e2 (by omega)).trans z2 (Nat.le_refl _), ?_⟩
        · rw [hB4, ← z1]
          unfold B_X12_sum_43
          simp (disch := omega) only [gim_28, ob_some, hM.2.1, lit, nI_add, pim_28, v1, e1]
        · rcases z3 with ⟨fl, y1, y2⟩ | ⟨x', y1, y2, y3, y4⟩
          · exact .inl ⟨fl, (((R1.one hx1).trans w1).c y1).rc, y2⟩
          · exact .inr ⟨x', (((R1.one hx1).trans w1).c y1).rc, y2, y3, by have y4 : a2 ≤ x'.2.1 := y4; omega⟩
    by_cases c1' : bt T (sp isB T a) = 43
    · refine step 43 c1' rfl rfl (by omega) ?_
      rw [c1', sI_n (by omega)] at hsg
      rw [B_X12_sum_4]
      unfold B_X12_sum_29
      simp (disch := omega) only [gim_29, ob_some, hM.2.2.2.1, lit, eq_T, reduceIte, hsg]
      rfl
    by_cases c2' : bt T (sp isB T a) = 45
    · refine step 45 c2' rfl rfl (by omega) ?_
      rw [c2', sI_n (by omega)] at hsg
      rw [B_X12_sum_4]
      unfold B_X12_sum_29
      simp (disch := omega) only [gim_29, ob_some, hM.2.2.2.1, lit, eq_T, eq_F, reduceIte, hsg]
      rfl
    refine ⟨m, ?_, FrS.rf, .inr ⟨_, Rc.rf, h0, ⟨h6, c1', c2'⟩, Nat.le_refl _⟩⟩
    rw [B_X12_sum_4]
    simp (disch := omega) only [gim_29, ob_some, hM.2.2.2.1, lit, eq_T, reduceIte, hsg, sI_eqc, c1', c2']
set_option maxRecDepth 4000 in
theorem AB.le {T : TT} {r o lv lv' pt : Nat} {m : Nat → Nat → Int32} {x : RG} {st : List Nat} {cl : RT} {c1 : List (Nat × Nat)} {tl : List Bool} (h : AB T r o m x lv pt st cl c1 tl) (hl : lv' ≤ lv) : AB T r o m x lv' pt st cl c1 tl := by
  obtain ⟨a, it, cd, U, h1, h2, h3, h4⟩ := h
  exact ⟨a, it, cd, U, h1, h2, fun u hu => Nat.le_trans hl (h3 u hu), h4⟩
set_option maxRecDepth 4000 in
theorem suM {T : TT} {r o pt a p it : Nat} {st : List Nat} {cl : RT} {c1 cd : List (Nat × Nat)} {tl : List Bool} {m : Nat → Nat → Int32} {q : Nat → Nat → Int64} (hr : r < 6) (ho : o = lenR cl + c1.length) (hp : pt ≠ 3) (hs : ∀ x r, st = x :: r → bd x < 5) (h : MB T r o m p cd it) (hsp : sp isB T p = sp isB T a) (hty : tys cd [] = some tl) (hpu : pushes cd ≤ it) (hG : Gv T (0, a, 1, pt, st, it, cl, c1, cd)) : ∃ m1, F_X12_sum 996 (KS, m, q) = some ((), (KS, m1, q)) ∧ FrS r o m m1 ∧ ((∃ fl, R1 T (0, a, 1, pt, st, it, cl, c1, cd) (ft fl) ∧ DD T r m1 fl) ∨ ∃ x', R1 T (0, a, 1, pt, st, it, cl, c1, cd) x' ∧ AB T r o m1 x' 5 pt st cl c1 (false :: tl) ∧ N5 T x' ∧ a ≤ x'.2.1) := by
  obtain ⟨mv, v1, v2, v3⟩ := teM (q := q) hr ho hp (fun x r e => by have := hs x r e; omega) h hsp hty hpu hG
  rcases v3 with ⟨fl, w1, w2⟩ | ⟨x', w1, w2, w3, w4⟩
  · obtain ⟨g, hf⟩ : ∃ g, mk_fu = g + 1 := ⟨99999, rfl⟩
    refine ⟨mv, ?_, v2, .inl ⟨fl, w1, w2⟩⟩
    unfold F_X12_sum
    simp only [gdm, v1, ob_some]
    rw [hf]
    exact (teX w2).2
  · have hT4 := h.bt.1
    obtain ⟨m1, z1, z2, z3⟩ := suL (q := q) hr ho hp hs (T.1 - sp isB T x'.2.1) mk_fu mv x' (Nat.le_refl _) (by rw [mk_fu_eq]; omega) (w2.le (by omega)) w3
    refine ⟨m1, ?_, v2.trans z2 (Nat.le_refl _), ?_⟩
    · unfold F_X12_sum
      simp only [gdm, v1, ob_some]
      exact z1
    · rcases z3 with ⟨fl, y1, y2⟩ | ⟨x2, y1, y2, y3, y4⟩
      · exact .inl ⟨fl, w1.c y1, y2⟩
      · exact .inr ⟨x2, w1.c y1, y2, y3, by omega⟩
