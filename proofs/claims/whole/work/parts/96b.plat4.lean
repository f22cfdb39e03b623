/-! PLATEAUS told: the reference's text -/
def vqi (j : Nat) : Nat := match j with | 0 => 1015 | 1 => 1016 | 2 => 1018 | 3 => 1017 | 4 => 1019 | 5 => 1020 | 6 => 1021 | _ => 1022
set_option maxRecDepth 4000 in
theorem vqi_b : ∀ j, j ≤ 7 → 1015 ≤ vqi j ∧ vqi j ≤ 1022 := by decide
def vq (m : Nat → Nat → Int32) (j k : Nat) : Int32 := m (vqi j) k
def FrN (m m1 : Nat → Nat → Int32) : Prop := (∀ j, j ≠ 996 → j < 1015 ∨ 1022 < j → m1 j = m j) ∧ ∀ k, k ≠ 28 → k ≠ 29 → m1 996 k = m 996 k
set_option maxRecDepth 4000 in
theorem FrN.rf {m : Nat → Nat → Int32} : FrN m m := ⟨fun _ _ _ => rfl, fun _ _ _ => rfl⟩
set_option maxRecDepth 4000 in
theorem FrN.mg {m m1 m2 : Nat → Nat → Int32} (h : FrN m m1) (h2 : MG m1 m2) : FrN m m2 := ⟨fun j h3 h4 => (h2.1 j h3).trans (h.1 j h3 h4), fun k h3 h4 => (h2.2 k h3 h4).trans (h.2 k h3 h4)⟩
set_option maxRecDepth 4000 in
theorem FrN.trans {m m1 m2 : Nat → Nat → Int32} (h : FrN m m1) (h2 : FrN m1 m2) : FrN m m2 := ⟨fun j h3 h4 => (h2.1 j h3 h4).trans (h.1 j h3 h4), fun k h3 h4 => (h2.2 k h3 h4).trans (h.2 k h3 h4)⟩
set_option maxRecDepth 4000 in
theorem FrN.up {m m1 : Nat → Nat → Int32} {a k : Nat} {v : Int32} (h : FrN m m1) (h1 : 1015 ≤ a) (h2 : a ≤ 1022) : FrN m (mk_u2 m1 a k v) := ⟨fun j h3 h4 => (mk_u2_ne (by omega)).trans (h.1 j h3 h4), fun k h3 h4 => (u2_a (by omega)).trans (h.2 k h3 h4)⟩
set_option maxRecDepth 4000 in
theorem TM.fn {T : TT} {m m1 : Nat → Nat → Int32} (h : TM T m) (e : FrN m m1) : TM T m1 := h.eq (e.2 _ (by omega) (by omega)) (e.1 _ (by omega) (by omega))
set_option maxRecDepth 4000 in
theorem amt_dead {T : TT} {lo hi f a b : Nat} (h : f = 0 → a = b) : (amt T lo hi (f, a)).1 = (amt T lo hi (f, b)).1 ∧ ((amt T lo hi (f, b)).1 = 0 → amt T lo hi (f, a) = amt T lo hi (f, b)) := by
  by_cases c : f = 0
  · rw [h c]; exact ⟨rfl, fun _ => rfl⟩
  · have e : ∀ a, amt T lo hi (f, a) = (f, a, lo) := fun a => by unfold amt; rw [if_neg c]
    rw [e, e]; exact ⟨rfl, fun h => absurd h c⟩
set_option maxRecDepth 4000 in
theorem plM {T : TT} {m : Nat → Nat → Int32} {q : Nat → Nat → Int64} {D : Nat → Nat → Nat} {e : Nat} (hT : TM T m) (h3 : m 996 29 = nI 0) (h2 : m 996 28 = nI e) (he : e ≤ T.1) (hZ : Zd (vq m) D) : ∃ m1 p, F_X12_plateauPart 996 (nI 0) (KS, m, q) = some ((), (KS, m1, q)) ∧ FrN m m1 ∧ m1 996 29 = nI (rPl T e D).1 ∧ m1 996 28 = nI p ∧ p ≤ T.1 ∧ ((rPl T e D).1 = 0 → p = (rPl T e D).2.1 ∧ PR (vq m1) (rPl T e D).2.2) := by
  have hl := hT.2.1
  unfold rPl
  obtain ⟨ma, v1, p1, a1, a2, a3, a4, a5, a6⟩ := amM (q := q) (lo := 2) (hi := 6) hT h3 (by omega) h2 he (by omega) (by omega)
  obtain ⟨x1, x2, x3⟩ := amt_ok (T := T) (lo := 2) (hi := 6) (x := (0, e)) he hl (by show 0 < 100000; omega)
  generalize amt T 2 6 (0, e) = x at *
  obtain ⟨mb, v2, p2, b1, b2, b3, b4, b5, b6⟩ := amM (m := ma) (q := q) (fa := x.1) (a := p1) (lo := 1) (hi := 9) (hT.mg a2) a3 x1 a4 a5 (by omega) (by omega)
  have hy0 : (amt T 1 9 (x.1, p1)).1 = (amt T 1 9 (x.1, x.2.1)).1 ∧ ((amt T 1 9 (x.1, x.2.1)).1 = 0 → amt T 1 9 (x.1, p1) = amt T 1 9 (x.1, x.2.1)) := amt_dead (fun h => (a6 h).1)
  rw [hy0.1] at b3 b6
  obtain ⟨y1, y2, y3⟩ := amt_ok (T := T) (lo := 1) (hi := 9) (x := (x.1, x.2.1)) x2 hl x1
  have b6 : (amt T 1 9 (x.1, x.2.1)).1 = 0 → p2 = (amt T 1 9 (x.1, x.2.1)).2.1 ∧ v2 = (amt T 1 9 (x.1, x.2.1)).2.2 := fun h => by have := b6 h; rwa [hy0.2 h] at this
  clear hy0
  generalize amt T 1 9 (x.1, x.2.1) = y at *
  refine ⟨mk_u2 (mk_u2 mb 1015 1 (nI v2)) 1015 0 (nI v1), p2, ?_, (((FrN.rf.mg a2).mg b2).up (by omega) (by omega)).up (by omega) (by omega), by rw [u2_a (by omega), u2_a (by omega)]; exact b3, by rw [u2_a (by omega), u2_a (by omega)]; exact b4, b5, fun h => ⟨(b6 h).1, ?_⟩⟩
  · unfold F_X12_plateauPart
    simp (disch := omega) only [gdm, gam_1, gam_2, gam_3, gam_4, gam_5, gam_6, gam_7, gam_8, gam_9, gam_10, gam_11, gam_12, gam_13, gam_14, gam_15, gam_16, gam_17, gam_18, gam_19, gam_20, gam_21, gam_22, gam_23, gam_24, gam_25, gam_26, gam_37, gam_38, gam_39, gam_40, gam_41, gam_42, gam_43, gam_44, gam_45, gam_46, gam_48, gam_49, gam_56, gam_57, gam_58, gam_59, gam_60, gam_61, gim_27, gim_28, gim_29, gim_30, gim_31, gim_32, gim_33, gim_34, gim_35, gim_36, gim_47, gim_50, gim_51, gim_52, gim_53, gim_54, gim_55, gim_62, gim_63, ob_some, reduceIte, lit, le_T, le_F, lt_T, lt_F, eq_T, eq_F, nI_add, ldm_997, stm_997, ldm_998, stm_998, ldm_999, stm_999, ldm_1000, stm_1000, ldm_1001, stm_1001, ldm_1002, stm_1002, ldm_1003, stm_1003, ldm_1004, stm_1004, ldm_1005, stm_1005, ldm_1006, stm_1006, ldm_1007, stm_1007, ldm_1008, stm_1008, ldm_1009, stm_1009, ldm_1010, stm_1010, ldm_1011, stm_1011, ldm_1012, stm_1012, ldm_1013, stm_1013, ldm_1014, stm_1014, ldm_1015, stm_1015, ldm_1016, stm_1016, ldm_1017, stm_1017, ldm_1018, stm_1018, ldm_1019, stm_1019, ldm_1020, stm_1020, ldm_1021, stm_1021, ldm_1022, stm_1022, u2_s, u2_a, u2_b, not_true, not_false_iff, a1, b1]
  · obtain ⟨hx, r3, r4⟩ := y3 h
    obtain ⟨-, r1, r2⟩ := x3 hx
    obtain ⟨-, rfl⟩ := b6 h
    obtain ⟨-, rfl⟩ := a6 hx
    have hb5 : mb 1015 = m 1015 := (b2.1 1015 (by omega)).trans (a2.1 1015 (by omega))
    refine PR.begin hZ r1 r2 r3 r4 ?_ ?_ ?_ ?_ ?_
    · show mk_u2 (mk_u2 mb 1015 1 _) 1015 0 _ 1015 0 = _
      rw [u2_s]
    · show mk_u2 (mk_u2 mb 1015 1 _) 1015 0 _ 1015 1 = _
      rw [u2_b (by omega), u2_s]
    · show mk_u2 (mk_u2 mb 1015 1 _) 1015 0 _ 1015 2 = m 1015 2
      rw [u2_b (by omega), u2_b (by omega), hb5]
    · show mk_u2 (mk_u2 mb 1015 1 _) 1015 0 _ 1015 3 = m 1015 3
      rw [u2_b (by omega), u2_b (by omega), hb5]
    · show mk_u2 (mk_u2 mb 1015 1 _) 1015 0 _ 1015 4 = m 1015 4
      rw [u2_b (by omega), u2_b (by omega), hb5]
set_option maxRecDepth 4000 in
theorem peM {T : TT} {m : Nat → Nat → Int32} {q : Nat → Nat → Int64} {D : Nat → Nat → Nat} {e : Nat} (hT : TM T m) (h3 : m 996 29 = nI 0) (h2 : m 996 28 = nI e) (he : e ≤ T.1) (hP : PR (vq m) D) (hp : D 0 2 < 6) : ∃ m1 p, F_X12_plateauPart 996 (nI 1) (KS, m, q) = some ((), (KS, m1, q)) ∧ FrN m m1 ∧ m1 996 29 = nI (rPe T e D).1 ∧ m1 996 28 = nI p ∧ p ≤ T.1 ∧ ((rPe T e D).1 = 0 → p = (rPe T e D).2.1 ∧ PR (vq m1) (rPe T e D).2.2) := by
  have hl := hT.2.1
  have g0 : m 1015 0 = nI (D 0 0) := hP.1.1
  have g2 : m 1015 2 = nI (D 0 2) := hP.1.2.2.1
  have g3 : m 1015 3 = nI (D 0 3) := hP.1.2.2.2.1
  have g4 : m 1015 4 = nI (D 0 4) := hP.1.2.2.2.2
  have hsq := hP.sq
  have hcel : nI (D 0 0 * D 0 0) - nI 1 = nI (D 0 0 * D 0 0 - 1) := pk_sub (by omega)
  simp only [rPe]
  obtain ⟨ma, v1, p1, a1, a2, a3, a4, a5, a6⟩ := amM (q := q) (lo := 0) (hi := D 0 0 * D 0 0 - 1) hT h3 (by omega) h2 he (by omega) (by omega)
  obtain ⟨x1, x2, x3⟩ := amt_ok (T := T) (lo := 0) (hi := D 0 0 * D 0 0 - 1) (x := (0, e)) he hl (by show 0 < 100000; omega)
  generalize amt T 0 (D 0 0 * D 0 0 - 1) (0, e) = x at *
  have f1 : FrN m (mk_u2 ma 1016 (D 0 2) (nI v1)) := (FrN.rf.mg a2).up (by omega) (by omega)
  obtain ⟨mb, v2, p2, b1, b2, b3, b4, b5, b6⟩ := amM (m := mk_u2 ma 1016 (D 0 2) (nI v1)) (q := q) (fa := x.1) (a := p1) (lo := 0) (hi := 20) (hT.fn f1) (by rw [u2_a (by omega)]; exact a3) x1 (by rw [u2_a (by omega)]; exact a4) a5 (by omega) (by omega)
  have hy0 : (amt T 0 20 (x.1, p1)).1 = (amt T 0 20 (x.1, x.2.1)).1 ∧ ((amt T 0 20 (x.1, x.2.1)).1 = 0 → amt T 0 20 (x.1, p1) = amt T 0 20 (x.1, x.2.1)) := amt_dead (fun h => (a6 h).1)
  rw [hy0.1] at b3 b6
  obtain ⟨y1, y2, y3⟩ := amt_ok (T := T) (lo := 0) (hi := 20) (x := (x.1, x.2.1)) x2 hl x1
  have b6 : (amt T 0 20 (x.1, x.2.1)).1 = 0 → p2 = (amt T 0 20 (x.1, x.2.1)).2.1 ∧ v2 = (amt T 0 20 (x.1, x.2.1)).2.2 := fun h => by have := b6 h; rwa [hy0.2 h] at this
  clear hy0
  generalize amt T 0 20 (x.1, x.2.1) = y at *
  have f2 : FrN m (mk_u2 mb 1018 (D 0 2) (nI v2)) := (f1.mg b2).up (by omega) (by omega)
  obtain ⟨mc, v3, p3, c1, c2, c3, c4, c5, c6⟩ := amM (m := mk_u2 mb 1018 (D 0 2) (nI v2)) (q := q) (fa := y.1) (a := p2) (lo := 0) (hi := 3) (hT.fn f2) (by rw [u2_a (by omega)]; exact b3) y1 (by rw [u2_a (by omega)]; exact b4) b5 (by omega) (by omega)
  have hz0 : (amt T 0 3 (y.1, p2)).1 = (amt T 0 3 (y.1, y.2.1)).1 ∧ ((amt T 0 3 (y.1, y.2.1)).1 = 0 → amt T 0 3 (y.1, p2) = amt T 0 3 (y.1, y.2.1)) := amt_dead (fun h => (b6 h).1)
  rw [hz0.1] at c3 c6
  obtain ⟨z1, z2, z3⟩ := amt_ok (T := T) (lo := 0) (hi := 3) (x := (y.1, y.2.1)) y2 hl y1
  have c6 : (amt T 0 3 (y.1, y.2.1)).1 = 0 → p3 = (amt T 0 3 (y.1, y.2.1)).2.1 ∧ v3 = (amt T 0 3 (y.1, y.2.1)).2.2 := fun h => by have := c6 h; rwa [hz0.2 h] at this
  clear hz0
  generalize amt T 0 3 (y.1, y.2.1) = z at *
  have f3 : FrN m (mk_u2 mc 1017 (D 0 2) (nI v3)) := (f2.mg c2).up (by omega) (by omega)
  have ha : ∀ j, j ≠ 996 → ma j = m j := a2.1
  have hb : ∀ j, j ≠ 996 → mb j = mk_u2 ma 1016 (D 0 2) (nI v1) j := b2.1
  have hc : ∀ j, j ≠ 996 → mc j = mk_u2 mb 1018 (D 0 2) (nI v2) j := c2.1
  have ca : ma 1015 2 = nI (D 0 2) := by rw [ha 1015 (by omega)]; exact g2
  have cb : mb 1015 2 = nI (D 0 2) := by rw [hb 1015 (by omega), u2_a (by omega), ha 1015 (by omega)]; exact g2
  have cc : mc 1015 2 = nI (D 0 2) := by rw [hc 1015 (by omega), u2_a (by omega), hb 1015 (by omega), u2_a (by omega), ha 1015 (by omega)]; exact g2
  refine ⟨mk_u2 (mk_u2 mc 1017 (D 0 2) (nI v3)) 1015 2 (nI (D 0 2 + 1)), p3, ?_, f3.up (by omega) (by omega), by rw [u2_a (by omega), u2_a (by omega)]; exact c3, by rw [u2_a (by omega), u2_a (by omega)]; exact c4, c5, fun h => ⟨(c6 h).1, ?_⟩⟩
  · unfold F_X12_plateauPart
    simp (disch := omega) only [gdm, gam_1, gam_2, gam_3, gam_4, gam_5, gam_6, gam_7, gam_8, gam_9, gam_10, gam_11, gam_12, gam_13, gam_14, gam_15, gam_16, gam_17, gam_18, gam_19, gam_20, gam_21, gam_22, gam_23, gam_24, gam_25, gam_26, gam_37, gam_38, gam_39, gam_40, gam_41, gam_42, gam_43, gam_44, gam_45, gam_46, gam_48, gam_49, gam_56, gam_57, gam_58, gam_59, gam_60, gam_61, gim_27, gim_28, gim_29, gim_30, gim_31, gim_32, gim_33, gim_34, gim_35, gim_36, gim_47, gim_50, gim_51, gim_52, gim_53, gim_54, gim_55, gim_62, gim_63, ob_some, reduceIte, lit, le_T, le_F, lt_T, lt_F, eq_T, eq_F, nI_add, ldm_997, stm_997, ldm_998, stm_998, ldm_999, stm_999, ldm_1000, stm_1000, ldm_1001, stm_1001, ldm_1002, stm_1002, ldm_1003, stm_1003, ldm_1004, stm_1004, ldm_1005, stm_1005, ldm_1006, stm_1006, ldm_1007, stm_1007, ldm_1008, stm_1008, ldm_1009, stm_1009, ldm_1010, stm_1010, ldm_1011, stm_1011, ldm_1012, stm_1012, ldm_1013, stm_1013, ldm_1014, stm_1014, ldm_1015, stm_1015, ldm_1016, stm_1016, ldm_1017, stm_1017, ldm_1018, stm_1018, ldm_1019, stm_1019, ldm_1020, stm_1020, ldm_1021, stm_1021, ldm_1022, stm_1022, u2_s, u2_a, u2_b, not_true, not_false_iff, g0, g2, g3, g4, pk_mul, hcel, a1, b1, c1, ca, cb, cc]
  · obtain ⟨hy, r5, r6⟩ := z3 h
    obtain ⟨hx, r3, r4⟩ := y3 hy
    obtain ⟨-, r1, r2⟩ := x3 hx
    obtain ⟨-, rfl⟩ := c6 h
    obtain ⟨-, rfl⟩ := b6 hy
    obtain ⟨-, rfl⟩ := a6 hx
    refine hP.person hp (by omega) (by omega) (by omega) (fun k => ?_) (fun k => ?_) (fun k => ?_) (fun k => ?_) (fun j k h4 h7 => ?_)
    · show mk_u2 (mk_u2 mc 1017 (D 0 2) _) 1015 2 _ 1015 k = if k = 2 then _ else m 1015 k
      rw [u2_at]
      by_cases c : k = 2
      · rw [if_pos ⟨rfl, c⟩, if_pos c]
      · rw [if_neg (fun h => c h.2), if_neg c, u2_a (by omega), hc 1015 (by omega), u2_a (by omega), hb 1015 (by omega), u2_a (by omega), ha 1015 (by omega)]
    · show mk_u2 (mk_u2 mc 1017 (D 0 2) _) 1015 2 _ 1016 k = if k = D 0 2 then _ else m 1016 k
      rw [u2_a (by omega), u2_a (by omega), hc 1016 (by omega), u2_a (by omega), hb 1016 (by omega), u2_at]
      by_cases c : k = D 0 2
      · rw [if_pos ⟨rfl, c⟩, if_pos c]
      · rw [if_neg (fun h => c h.2), if_neg c, ha 1016 (by omega)]
    · show mk_u2 (mk_u2 mc 1017 (D 0 2) _) 1015 2 _ 1018 k = if k = D 0 2 then _ else m 1018 k
      rw [u2_a (by omega), u2_a (by omega), hc 1018 (by omega), u2_at]
      by_cases c : k = D 0 2
      · rw [if_pos ⟨rfl, c⟩, if_pos c]
      · rw [if_neg (fun h => c h.2), if_neg c, hb 1018 (by omega), u2_a (by omega), ha 1018 (by omega)]
    · show mk_u2 (mk_u2 mc 1017 (D 0 2) _) 1015 2 _ 1017 k = if k = D 0 2 then _ else m 1017 k
      rw [u2_a (by omega), u2_at]
      by_cases c : k = D 0 2
      · rw [if_pos ⟨rfl, c⟩, if_pos c]
      · rw [if_neg (fun h => c h.2), if_neg c, hc 1017 (by omega), u2_a (by omega), hb 1017 (by omega), u2_a (by omega), ha 1017 (by omega)]
    · have hj : ∀ c, c ≠ 996 → c ≠ 1015 → c ≠ 1016 → c ≠ 1018 → c ≠ 1017 → mk_u2 (mk_u2 mc 1017 (D 0 2) (nI z.2.2)) 1015 2 (nI (D 0 2 + 1)) c k = m c k := fun c _ _ _ _ _ => by
        rw [u2_a (by omega), u2_a (by omega), hc _ (by omega), u2_a (by omega), hb _ (by omega), u2_a (by omega), ha _ (by omega)]
      rcases (show j = 4 ∨ j = 5 ∨ j = 6 ∨ j = 7 by omega) with e | e | e | e <;> subst e <;> exact hj _ (by decide) (by decide) (by decide) (by decide) (by decide)
set_option maxRecDepth 4000 in
theorem miM {T : TT} {m : Nat → Nat → Int32} {q : Nat → Nat → Int64} {D : Nat → Nat → Nat} {e : Nat} (hT : TM T m) (h3 : m 996 29 = nI 0) (h2 : m 996 28 = nI e) (he : e ≤ T.1) (hP : PR (vq m) D) (hp : D 0 3 < 4) : ∃ m1 p, F_X12_plateauPart 996 (nI 2) (KS, m, q) = some ((), (KS, m1, q)) ∧ FrN m m1 ∧ m1 996 29 = nI (rMi T e D).1 ∧ m1 996 28 = nI p ∧ p ≤ T.1 ∧ ((rMi T e D).1 = 0 → p = (rMi T e D).2.1 ∧ PR (vq m1) (rMi T e D).2.2) := by
  have hl := hT.2.1
  have g0 : m 1015 0 = nI (D 0 0) := hP.1.1
  have g2 : m 1015 2 = nI (D 0 2) := hP.1.2.2.1
  have g3 : m 1015 3 = nI (D 0 3) := hP.1.2.2.2.1
  have g4 : m 1015 4 = nI (D 0 4) := hP.1.2.2.2.2
  have hsq := hP.sq
  have hcel : nI (D 0 0 * D 0 0) - nI 1 = nI (D 0 0 * D 0 0 - 1) := pk_sub (by omega)
  simp only [rMi]
  obtain ⟨ma, v1, p1, a1, a2, a3, a4, a5, a6⟩ := amM (q := q) (lo := 0) (hi := D 0 0 * D 0 0 - 1) hT h3 (by omega) h2 he (by omega) (by omega)
  obtain ⟨x1, x2, x3⟩ := amt_ok (T := T) (lo := 0) (hi := D 0 0 * D 0 0 - 1) (x := (0, e)) he hl (by show 0 < 100000; omega)
  generalize amt T 0 (D 0 0 * D 0 0 - 1) (0, e) = x at *
  have f1 : FrN m (mk_u2 ma 1019 (D 0 3) (nI v1)) := (FrN.rf.mg a2).up (by omega) (by omega)
  obtain ⟨mb, v2, p2, b1, b2, b3, b4, b5, b6⟩ := amM (m := mk_u2 ma 1019 (D 0 3) (nI v1)) (q := q) (fa := x.1) (a := p1) (lo := 1) (hi := 20) (hT.fn f1) (by rw [u2_a (by omega)]; exact a3) x1 (by rw [u2_a (by omega)]; exact a4) a5 (by omega) (by omega)
  have hy0 : (amt T 1 20 (x.1, p1)).1 = (amt T 1 20 (x.1, x.2.1)).1 ∧ ((amt T 1 20 (x.1, x.2.1)).1 = 0 → amt T 1 20 (x.1, p1) = amt T 1 20 (x.1, x.2.1)) := amt_dead (fun h => (a6 h).1)
  rw [hy0.1] at b3 b6
  obtain ⟨y1, y2, y3⟩ := amt_ok (T := T) (lo := 1) (hi := 20) (x := (x.1, x.2.1)) x2 hl x1
  have b6 : (amt T 1 20 (x.1, x.2.1)).1 = 0 → p2 = (amt T 1 20 (x.1, x.2.1)).2.1 ∧ v2 = (amt T 1 20 (x.1, x.2.1)).2.2 := fun h => by have := b6 h; rwa [hy0.2 h] at this
  clear hy0
  generalize amt T 1 20 (x.1, x.2.1) = y at *
  have f2 : FrN m (mk_u2 mb 1020 (D 0 3) (nI v2)) := (f1.mg b2).up (by omega) (by omega)
  have ha : ∀ j, j ≠ 996 → ma j = m j := a2.1
  have hb : ∀ j, j ≠ 996 → mb j = mk_u2 ma 1019 (D 0 3) (nI v1) j := b2.1
  have ca : ma 1015 3 = nI (D 0 3) := by rw [ha 1015 (by omega)]; exact g3
  have cb : mb 1015 3 = nI (D 0 3) := by rw [hb 1015 (by omega), u2_a (by omega), ha 1015 (by omega)]; exact g3
  refine ⟨mk_u2 (mk_u2 mb 1020 (D 0 3) (nI v2)) 1015 3 (nI (D 0 3 + 1)), p2, ?_, f2.up (by omega) (by omega), by rw [u2_a (by omega), u2_a (by omega)]; exact b3, by rw [u2_a (by omega), u2_a (by omega)]; exact b4, b5, fun h => ⟨(b6 h).1, ?_⟩⟩
  · unfold F_X12_plateauPart
    simp (disch := omega) only [gdm, gam_1, gam_2, gam_3, gam_4, gam_5, gam_6, gam_7, gam_8, gam_9, gam_10, gam_11, gam_12, gam_13, gam_14, gam_15, gam_16, gam_17, gam_18, gam_19, gam_20, gam_21, gam_22, gam_23, gam_24, gam_25, gam_26, gam_37, gam_38, gam_39, gam_40, gam_41, gam_42, gam_43, gam_44, gam_45, gam_46, gam_48, gam_49, gam_56, gam_57, gam_58, gam_59, gam_60, gam_61, gim_27, gim_28, gim_29, gim_30, gim_31, gim_32, gim_33, gim_34, gim_35, gim_36, gim_47, gim_50, gim_51, gim_52, gim_53, gim_54, gim_55, gim_62, gim_63, ob_some, reduceIte, lit, le_T, le_F, lt_T, lt_F, eq_T, eq_F, nI_add, ldm_997, stm_997, ldm_998, stm_998, ldm_999, stm_999, ldm_1000, stm_1000, ldm_1001, stm_1001, ldm_1002, stm_1002, ldm_1003, stm_1003, ldm_1004, stm_1004, ldm_1005, stm_1005, ldm_1006, stm_1006, ldm_1007, stm_1007, ldm_1008, stm_1008, ldm_1009, stm_1009, ldm_1010, stm_1010, ldm_1011, stm_1011, ldm_1012, stm_1012, ldm_1013, stm_1013, ldm_1014, stm_1014, ldm_1015, stm_1015, ldm_1016, stm_1016, ldm_1017, stm_1017, ldm_1018, stm_1018, ldm_1019, stm_1019, ldm_1020, stm_1020, ldm_1021, stm_1021, ldm_1022, stm_1022, u2_s, u2_a, u2_b, not_true, not_false_iff, g0, g2, g3, g4, pk_mul, hcel, a1, b1, ca, cb]
  · obtain ⟨hx, r3, r4⟩ := y3 h
    obtain ⟨-, r1, r2⟩ := x3 hx
    obtain ⟨-, rfl⟩ := b6 h
    obtain ⟨-, rfl⟩ := a6 hx
    refine hP.mill hp (by omega) (by omega) (fun k => ?_) (fun k => ?_) (fun k => ?_) (fun j k h4 => ?_)
    · show mk_u2 (mk_u2 mb 1020 (D 0 3) _) 1015 3 _ 1015 k = if k = 3 then _ else m 1015 k
      rw [u2_at]
      by_cases c : k = 3
      · rw [if_pos ⟨rfl, c⟩, if_pos c]
      · rw [if_neg (fun h => c h.2), if_neg c, u2_a (by omega), hb 1015 (by omega), u2_a (by omega), ha 1015 (by omega)]
    · show mk_u2 (mk_u2 mb 1020 (D 0 3) _) 1015 3 _ 1019 k = if k = D 0 3 then _ else m 1019 k
      rw [u2_a (by omega), u2_a (by omega), hb 1019 (by omega), u2_at]
      by_cases c : k = D 0 3
      · rw [if_pos ⟨rfl, c⟩, if_pos c]
      · rw [if_neg (fun h => c h.2), if_neg c, ha 1019 (by omega)]
    · show mk_u2 (mk_u2 mb 1020 (D 0 3) _) 1015 3 _ 1020 k = if k = D 0 3 then _ else m 1020 k
      rw [u2_a (by omega), u2_at]
      by_cases c : k = D 0 3
      · rw [if_pos ⟨rfl, c⟩, if_pos c]
      · rw [if_neg (fun h => c h.2), if_neg c, hb 1020 (by omega), u2_a (by omega), ha 1020 (by omega)]
    · have hj : ∀ c, c ≠ 996 → c ≠ 1015 → c ≠ 1019 → c ≠ 1020 → mk_u2 (mk_u2 mb 1020 (D 0 3) (nI y.2.2)) 1015 3 (nI (D 0 3 + 1)) c k = m c k := fun c _ _ _ _ => by
        rw [u2_a (by omega), u2_a (by omega), hb _ (by omega), u2_a (by omega), ha _ (by omega)]
      rcases (show j = 1 ∨ j = 2 ∨ j = 3 ∨ j = 6 ∨ j = 7 by omega) with e | e | e | e | e <;> subst e <;> exact hj _ (by decide) (by decide) (by decide) (by decide)
set_option maxRecDepth 4000 in
theorem roM {T : TT} {m : Nat → Nat → Int32} {q : Nat → Nat → Int64} {D : Nat → Nat → Nat} {e : Nat} (hT : TM T m) (h3 : m 996 29 = nI 0) (h2 : m 996 28 = nI e) (he : e ≤ T.1) (hP : PR (vq m) D) (hp : D 0 4 < 4) : ∃ m1 p, F_X12_plateauPart 996 (nI 3) (KS, m, q) = some ((), (KS, m1, q)) ∧ FrN m m1 ∧ m1 996 29 = nI (rRo T e D).1 ∧ m1 996 28 = nI p ∧ p ≤ T.1 ∧ ((rRo T e D).1 = 0 → p = (rRo T e D).2.1 ∧ PR (vq m1) (rRo T e D).2.2) := by
  have hl := hT.2.1
  have g0 : m 1015 0 = nI (D 0 0) := hP.1.1
  have g2 : m 1015 2 = nI (D 0 2) := hP.1.2.2.1
  have g3 : m 1015 3 = nI (D 0 3) := hP.1.2.2.2.1
  have g4 : m 1015 4 = nI (D 0 4) := hP.1.2.2.2.2
  have hsq := hP.sq
  have hcel : nI (D 0 0 * D 0 0) - nI 1 = nI (D 0 0 * D 0 0 - 1) := pk_sub (by omega)
  simp only [rRo]
  obtain ⟨ma, v1, p1, a1, a2, a3, a4, a5, a6⟩ := amM (q := q) (lo := 0) (hi := D 0 0 * D 0 0 - 1) hT h3 (by omega) h2 he (by omega) (by omega)
  obtain ⟨x1, x2, x3⟩ := amt_ok (T := T) (lo := 0) (hi := D 0 0 * D 0 0 - 1) (x := (0, e)) he hl (by show 0 < 100000; omega)
  generalize amt T 0 (D 0 0 * D 0 0 - 1) (0, e) = x at *
  have f1 : FrN m (mk_u2 ma 1021 (D 0 4) (nI v1)) := (FrN.rf.mg a2).up (by omega) (by omega)
  obtain ⟨mb, v2, p2, b1, b2, b3, b4, b5, b6⟩ := amM (m := mk_u2 ma 1021 (D 0 4) (nI v1)) (q := q) (fa := x.1) (a := p1) (lo := 0) (hi := 40) (hT.fn f1) (by rw [u2_a (by omega)]; exact a3) x1 (by rw [u2_a (by omega)]; exact a4) a5 (by omega) (by omega)
  have hy0 : (amt T 0 40 (x.1, p1)).1 = (amt T 0 40 (x.1, x.2.1)).1 ∧ ((amt T 0 40 (x.1, x.2.1)).1 = 0 → amt T 0 40 (x.1, p1) = amt T 0 40 (x.1, x.2.1)) := amt_dead (fun h => (a6 h).1)
  rw [hy0.1] at b3 b6
  obtain ⟨y1, y2, y3⟩ := amt_ok (T := T) (lo := 0) (hi := 40) (x := (x.1, x.2.1)) x2 hl x1
  have b6 : (amt T 0 40 (x.1, x.2.1)).1 = 0 → p2 = (amt T 0 40 (x.1, x.2.1)).2.1 ∧ v2 = (amt T 0 40 (x.1, x.2.1)).2.2 := fun h => by have := b6 h; rwa [hy0.2 h] at this
  clear hy0
  generalize amt T 0 40 (x.1, x.2.1) = y at *
  have f2 : FrN m (mk_u2 mb 1022 (D 0 4) (nI v2)) := (f1.mg b2).up (by omega) (by omega)
  have ha : ∀ j, j ≠ 996 → ma j = m j := a2.1
  have hb : ∀ j, j ≠ 996 → mb j = mk_u2 ma 1021 (D 0 4) (nI v1) j := b2.1
  have ca : ma 1015 4 = nI (D 0 4) := by rw [ha 1015 (by omega)]; exact g4
  have cb : mb 1015 4 = nI (D 0 4) := by rw [hb 1015 (by omega), u2_a (by omega), ha 1015 (by omega)]; exact g4
  refine ⟨mk_u2 (mk_u2 mb 1022 (D 0 4) (nI v2)) 1015 4 (nI (D 0 4 + 1)), p2, ?_, f2.up (by omega) (by omega), by rw [u2_a (by omega), u2_a (by omega)]; exact b3, by rw [u2_a (by omega), u2_a (by omega)]; exact b4, b5, fun h => ⟨(b6 h).1, ?_⟩⟩
  · unfold F_X12_plateauPart
    simp (disch := omega) only [gdm, gam_1, gam_2, gam_3, gam_4, gam_5, gam_6, gam_7, gam_8, gam_9, gam_10, gam_11, gam_12, gam_13, gam_14, gam_15, gam_16, gam_17, gam_18, gam_19, gam_20, gam_21, gam_22, gam_23, gam_24, gam_25, gam_26, gam_37, gam_38, gam_39, gam_40, gam_41, gam_42, gam_43, gam_44, gam_45, gam_46, gam_48, gam_49, gam_56, gam_57, gam_58, gam_59, gam_60, gam_61, gim_27, gim_28, gim_29, gim_30, gim_31, gim_32, gim_33, gim_34, gim_35, gim_36, gim_47, gim_50, gim_51, gim_52, gim_53, gim_54, gim_55, gim_62, gim_63, ob_some, reduceIte, lit, le_T, le_F, lt_T, lt_F, eq_T, eq_F, nI_add, ldm_997, stm_997, ldm_998, stm_998, ldm_999, stm_999, ldm_1000, stm_1000, ldm_1001, stm_1001, ldm_1002, stm_1002, ldm_1003, stm_1003, ldm_1004, stm_1004, ldm_1005, stm_1005, ldm_1006, stm_1006, ldm_1007, stm_1007, ldm_1008, stm_1008, ldm_1009, stm_1009, ldm_1010, stm_1010, ldm_1011, stm_1011, ldm_1012, stm_1012, ldm_1013, stm_1013, ldm_1014, stm_1014, ldm_1015, stm_1015, ldm_1016, stm_1016, ldm_1017, stm_1017, ldm_1018, stm_1018, ldm_1019, stm_1019, ldm_1020, stm_1020, ldm_1021, stm_1021, ldm_1022, stm_1022, u2_s, u2_a, u2_b, not_true, not_false_iff, g0, g2, g3, g4, pk_mul, hcel, a1, b1, ca, cb]
  · obtain ⟨hx, r3, r4⟩ := y3 h
    obtain ⟨-, r1, r2⟩ := x3 hx
    obtain ⟨-, rfl⟩ := b6 h
    obtain ⟨-, rfl⟩ := a6 hx
    refine hP.roof hp (by omega) (by omega) (fun k => ?_) (fun k => ?_) (fun k => ?_) (fun j k h4 h5 => ?_)
    · show mk_u2 (mk_u2 mb 1022 (D 0 4) _) 1015 4 _ 1015 k = if k = 4 then _ else m 1015 k
      rw [u2_at]
      by_cases c : k = 4
      · rw [if_pos ⟨rfl, c⟩, if_pos c]
      · rw [if_neg (fun h => c h.2), if_neg c, u2_a (by omega), hb 1015 (by omega), u2_a (by omega), ha 1015 (by omega)]
    · show mk_u2 (mk_u2 mb 1022 (D 0 4) _) 1015 4 _ 1021 k = if k = D 0 4 then _ else m 1021 k
      rw [u2_a (by omega), u2_a (by omega), hb 1021 (by omega), u2_at]
      by_cases c : k = D 0 4
      · rw [if_pos ⟨rfl, c⟩, if_pos c]
      · rw [if_neg (fun h => c h.2), if_neg c, ha 1021 (by omega)]
    · show mk_u2 (mk_u2 mb 1022 (D 0 4) _) 1015 4 _ 1022 k = if k = D 0 4 then _ else m 1022 k
      rw [u2_a (by omega), u2_at]
      by_cases c : k = D 0 4
      · rw [if_pos ⟨rfl, c⟩, if_pos c]
      · rw [if_neg (fun h => c h.2), if_neg c, hb 1022 (by omega), u2_a (by omega), ha 1022 (by omega)]
    · have hj : ∀ c, c ≠ 996 → c ≠ 1015 → c ≠ 1021 → c ≠ 1022 → mk_u2 (mk_u2 mb 1022 (D 0 4) (nI y.2.2)) 1015 4 (nI (D 0 4 + 1)) c k = m c k := fun c _ _ _ _ => by
        rw [u2_a (by omega), u2_a (by omega), hb _ (by omega), u2_a (by omega), ha _ (by omega)]
      rcases (show j = 1 ∨ j = 2 ∨ j = 3 ∨ j = 4 ∨ j = 5 by omega) with e | e | e | e | e <;> subst e <;> exact hj _ (by decide) (by decide) (by decide) (by decide)
set_option maxRecDepth 4000 in
/-- whether it goes on behind a clause -/
theorem goM {T : TT} {m : Nat → Nat → Int32} {q : Nat → Nat → Int64} {p s fa : Nat} (hT : TM T m) (h2 : m 996 28 = nI p) (hp : p ≤ 410) (h3 : m 996 29 = nI fa) (hf : fa < 100000) (hs : s = sp isB T p) : F_X12_goesOn 996 (KS, m, q) = some (if fa = 0 ∧ bt T s = 59 then nI 1 else nI 0, (KS, mk_u2 (mk_u2 m 996 29 (nI (if fa = 0 ∧ bt T s ≠ 59 ∧ bt T s ≠ 1000 then 1 + 8 * s + 0 else fa))) 996 28 (nI (s + 1)), q)) := by
  have hl := hT.2.1
  have hbl := blkM (q := q) hT h2 (by omega)
  rw [← hs] at hbl
  have hsl : s ≤ 410 := by rw [hs]; exact sp_cap hB hp (by omega)
  have hTs : TM T ((mk_u2 m 996 28 (nI s))) := hT.up (by omega)
  have e28 : (mk_u2 m 996 28 (nI s)) 996 28 = nI s := u2_s
  have e29 : (mk_u2 m 996 28 (nI s)) 996 29 = nI fa := by rw [u2_b (by omega)]; exact h3
  have e27 : (mk_u2 m 996 28 (nI s)) 996 27 = nI T.1 := by rw [u2_b (by omega)]; exact hT.1
  have hsg := sgM (q := q) hTs e28 (by omega)
  have hb := hT.b s
  have hcomm : ∀ v, mk_u2 ((mk_u2 m 996 28 (nI s))) 996 29 v = (mk_u2 (mk_u2 m 996 29 v) 996 28 (nI s)) := fun v => by
    funext i j
    simp only [u2_at]
    by_cases c1 : i = 996 ∧ j = 29
    · rw [if_pos c1, if_neg (by omega), if_pos c1]
    · rw [if_neg c1, if_neg c1]
  by_cases c0 : fa = 0
  · subst c0
    by_cases c59 : bt T s = 59
    · have hlt : s < T.1 := by
        apply Classical.byContradiction
        intro h
        have := bt_end (T := T) (i := s) (by omega)
        omega
      rw [if_pos ⟨rfl, c59⟩, if_neg (fun h => h.2.1 c59)]
      rw [c59, sI_n (by omega)] at hsg
      rw [u2_id h3]
      unfold F_X12_goesOn B_X12_goesOn_40 B_X12_goesOn_63
      simp (disch := omega) only [gdm, gam_1, gam_2, gam_3, gam_4, gam_5, gam_6, gam_7, gam_8, gam_9, gam_10, gam_11, gam_12, gam_13, gam_14, gam_15, gam_16, gam_17, gam_18, gam_19, gam_20, gam_21, gam_22, gam_23, gam_24, gam_25, gam_26, gam_37, gam_38, gam_39, gam_40, gam_41, gam_42, gam_43, gam_44, gam_45, gam_46, gam_48, gam_49, gam_56, gam_57, gam_58, gam_59, gam_60, gam_61, gim_27, gim_28, gim_29, gim_30, gim_31, gim_32, gim_33, gim_34, gim_35, gim_36, gim_47, gim_50, gim_51, gim_52, gim_53, gim_54, gim_55, gim_62, gim_63, ob_some, reduceIte, lit, le_T, le_F, lt_T, lt_F, eq_T, eq_F, nI_add, ldm_997, stm_997, ldm_998, stm_998, ldm_999, stm_999, ldm_1000, stm_1000, ldm_1001, stm_1001, ldm_1002, stm_1002, ldm_1003, stm_1003, ldm_1004, stm_1004, ldm_1005, stm_1005, ldm_1006, stm_1006, ldm_1007, stm_1007, ldm_1008, stm_1008, ldm_1009, stm_1009, ldm_1010, stm_1010, ldm_1011, stm_1011, ldm_1012, stm_1012, ldm_1013, stm_1013, ldm_1014, stm_1014, ldm_1015, stm_1015, ldm_1016, stm_1016, ldm_1017, stm_1017, ldm_1018, stm_1018, ldm_1019, stm_1019, ldm_1020, stm_1020, ldm_1021, stm_1021, ldm_1022, stm_1022, u2_s, u2_a, u2_b, not_true, not_false_iff, pim_27, pim_28, pim_29, pim_30, pim_31, pim_32, pim_33, pim_34, pim_35, pim_36, pim_47, pim_50, pim_51, pim_52, pim_53, pim_54, pim_55, pim_62, pim_63, hbl, h3, hT.1, hsg, rz1, u2_u2]
    · rw [if_neg (fun h => c59 h.2)]
      by_cases cE : bt T s = 1000
      · have hge : T.1 ≤ s := by
          apply Classical.byContradiction
          intro h
          have h5 := (hT.2.2 s (by omega)).2
          rw [bt_in (by omega)] at cE
          omega
        rw [if_neg (fun h => h.2.2 cE), u2_id h3]
        unfold F_X12_goesOn B_X12_goesOn_40 B_X12_goesOn_62 B_X12_goesOn_63
        simp (disch := omega) only [gdm, gam_1, gam_2, gam_3, gam_4, gam_5, gam_6, gam_7, gam_8, gam_9, gam_10, gam_11, gam_12, gam_13, gam_14, gam_15, gam_16, gam_17, gam_18, gam_19, gam_20, gam_21, gam_22, gam_23, gam_24, gam_25, gam_26, gam_37, gam_38, gam_39, gam_40, gam_41, gam_42, gam_43, gam_44, gam_45, gam_46, gam_48, gam_49, gam_56, gam_57, gam_58, gam_59, gam_60, gam_61, gim_27, gim_28, gim_29, gim_30, gim_31, gim_32, gim_33, gim_34, gim_35, gim_36, gim_47, gim_50, gim_51, gim_52, gim_53, gim_54, gim_55, gim_62, gim_63, ob_some, reduceIte, lit, le_T, le_F, lt_T, lt_F, eq_T, eq_F, nI_add, ldm_997, stm_997, ldm_998, stm_998, ldm_999, stm_999, ldm_1000, stm_1000, ldm_1001, stm_1001, ldm_1002, stm_1002, ldm_1003, stm_1003, ldm_1004, stm_1004, ldm_1005, stm_1005, ldm_1006, stm_1006, ldm_1007, stm_1007, ldm_1008, stm_1008, ldm_1009, stm_1009, ldm_1010, stm_1010, ldm_1011, stm_1011, ldm_1012, stm_1012, ldm_1013, stm_1013, ldm_1014, stm_1014, ldm_1015, stm_1015, ldm_1016, stm_1016, ldm_1017, stm_1017, ldm_1018, stm_1018, ldm_1019, stm_1019, ldm_1020, stm_1020, ldm_1021, stm_1021, ldm_1022, stm_1022, u2_s, u2_a, u2_b, not_true, not_false_iff, pim_27, pim_28, pim_29, pim_30, pim_31, pim_32, pim_33, pim_34, pim_35, pim_36, pim_47, pim_50, pim_51, pim_52, pim_53, pim_54, pim_55, pim_62, pim_63, hbl, h3, hT.1, rz0, u2_u2]
      · have hlt : s < T.1 := by
          apply Classical.byContradiction
          intro h
          exact cE (bt_end (T := T) (i := s) (by omega))
        rw [if_pos ⟨rfl, c59, cE⟩]
        have fl := flM (q := q) (c := 0) (p := s) e29 (by omega) (by omega)
        rw [if_pos rfl, hcomm] at fl
        unfold F_X12_goesOn B_X12_goesOn_40 B_X12_goesOn_62 B_X12_goesOn_63
        simp (disch := omega) only [gdm, gam_1, gam_2, gam_3, gam_4, gam_5, gam_6, gam_7, gam_8, gam_9, gam_10, gam_11, gam_12, gam_13, gam_14, gam_15, gam_16, gam_17, gam_18, gam_19, gam_20, gam_21, gam_22, gam_23, gam_24, gam_25, gam_26, gam_37, gam_38, gam_39, gam_40, gam_41, gam_42, gam_43, gam_44, gam_45, gam_46, gam_48, gam_49, gam_56, gam_57, gam_58, gam_59, gam_60, gam_61, gim_27, gim_28, gim_29, gim_30, gim_31, gim_32, gim_33, gim_34, gim_35, gim_36, gim_47, gim_50, gim_51, gim_52, gim_53, gim_54, gim_55, gim_62, gim_63, ob_some, reduceIte, lit, le_T, le_F, lt_T, lt_F, eq_T, eq_F, nI_add, ldm_997, stm_997, ldm_998, stm_998, ldm_999, stm_999, ldm_1000, stm_1000, ldm_1001, stm_1001, ldm_1002, stm_1002, ldm_1003, stm_1003, ldm_1004, stm_1004, ldm_1005, stm_1005, ldm_1006, stm_1006, ldm_1007, stm_1007, ldm_1008, stm_1008, ldm_1009, stm_1009, ldm_1010, stm_1010, ldm_1011, stm_1011, ldm_1012, stm_1012, ldm_1013, stm_1013, ldm_1014, stm_1014, ldm_1015, stm_1015, ldm_1016, stm_1016, ldm_1017, stm_1017, ldm_1018, stm_1018, ldm_1019, stm_1019, ldm_1020, stm_1020, ldm_1021, stm_1021, ldm_1022, stm_1022, u2_s, u2_a, u2_b, not_true, not_false_iff, pim_27, pim_28, pim_29, pim_30, pim_31, pim_32, pim_33, pim_34, pim_35, pim_36, pim_47, pim_50, pim_51, pim_52, pim_53, pim_54, pim_55, pim_62, pim_63, hbl, h3, hT.1, hsg, sI_eqc, c59, fl, rz0, u2_u2]
  · rw [if_neg (fun h => c0 h.1), if_neg (fun h => c0 h.1), u2_id h3]
    unfold F_X12_goesOn B_X12_goesOn_40 B_X12_goesOn_62 B_X12_goesOn_63
    simp (disch := omega) only [gdm, gam_1, gam_2, gam_3, gam_4, gam_5, gam_6, gam_7, gam_8, gam_9, gam_10, gam_11, gam_12, gam_13, gam_14, gam_15, gam_16, gam_17, gam_18, gam_19, gam_20, gam_21, gam_22, gam_23, gam_24, gam_25, gam_26, gam_37, gam_38, gam_39, gam_40, gam_41, gam_42, gam_43, gam_44, gam_45, gam_46, gam_48, gam_49, gam_56, gam_57, gam_58, gam_59, gam_60, gam_61, gim_27, gim_28, gim_29, gim_30, gim_31, gim_32, gim_33, gim_34, gim_35, gim_36, gim_47, gim_50, gim_51, gim_52, gim_53, gim_54, gim_55, gim_62, gim_63, ob_some, reduceIte, lit, le_T, le_F, lt_T, lt_F, eq_T, eq_F, nI_add, ldm_997, stm_997, ldm_998, stm_998, ldm_999, stm_999, ldm_1000, stm_1000, ldm_1001, stm_1001, ldm_1002, stm_1002, ldm_1003, stm_1003, ldm_1004, stm_1004, ldm_1005, stm_1005, ldm_1006, stm_1006, ldm_1007, stm_1007, ldm_1008, stm_1008, ldm_1009, stm_1009, ldm_1010, stm_1010, ldm_1011, stm_1011, ldm_1012, stm_1012, ldm_1013, stm_1013, ldm_1014, stm_1014, ldm_1015, stm_1015, ldm_1016, stm_1016, ldm_1017, stm_1017, ldm_1018, stm_1018, ldm_1019, stm_1019, ldm_1020, stm_1020, ldm_1021, stm_1021, ldm_1022, stm_1022, u2_s, u2_a, u2_b, not_true, not_false_iff, pim_27, pim_28, pim_29, pim_30, pim_31, pim_32, pim_33, pim_34, pim_35, pim_36, pim_47, pim_50, pim_51, pim_52, pim_53, pim_54, pim_55, pim_62, pim_63, hbl, h3, rz0, u2_u2]
set_option maxRecDepth 4000 in
theorem ifM {m : Nat → Nat → Int32} {q : Nat → Nat → Int64} {D : Nat → Nat → Nat} {n k : Nat} (hn : n ≤ 40) (hk : k < 4) (hG : GP n (vq m) D) : F_X12_isFull 996 (nI k) (nI n) (KS, m, q) = some (if n < 40 ∧ ((k = 0 ∧ n = 0) ∨ (n ≠ 0 ∧ ((k = 1 ∧ D 0 2 < 6) ∨ (k = 2 ∧ D 0 3 < 4) ∨ (k = 3 ∧ D 0 4 < 4)))) then nI 0 else nI 1, (KS, m, q)) := by
  by_cases c : n < 40
  · have r1 : ∀ b : Int32, (k = 0 → b = nI 1) → (k ≠ 0 → b = nI 0) → F_X12_isFull 996 (nI k) (nI n) (KS, m, q) = B_X12_isFull_15 996 (nI k) (nI n) b (KS, m, q) := fun b h1 h2 => by
      unfold F_X12_isFull
      by_cases z : k = 0
      · rw [h1 z]
        subst z
        simp (disch := omega) only [gdm, lit, eq_T, eq_F, reduceIte]
      · rw [h2 z]
        simp (disch := omega) only [gdm, lit, eq_F, reduceIte]
    rcases hG with ⟨hz, -⟩ | ⟨hz, hP⟩
    · subst hz
      by_cases z : k = 0
      · subst z
        rw [if_pos (by omega), r1 (nI 1) (fun _ => rfl) (fun h => absurd rfl h)]
        unfold B_X12_isFull_15 B_X12_isFull_24 B_X12_isFull_45 B_X12_isFull_60 B_X12_isFull_79
        simp (disch := omega) only [lit, eq_T, eq_F, reduceIte, rz0]
      · rw [if_neg (by omega), r1 (nI 0) (fun h => absurd h z) (fun _ => rfl)]
        unfold B_X12_isFull_15 B_X12_isFull_24
        simp (disch := omega) only [lit, eq_T, eq_F, reduceIte, rz1]
    · have g2 : m 1015 2 = nI (D 0 2) := hP.1.2.2.1
      have g3 : m 1015 3 = nI (D 0 3) := hP.1.2.2.2.1
      have g4 : m 1015 4 = nI (D 0 4) := hP.1.2.2.2.2
      have hb := hP.2.1
      rcases (show k = 0 ∨ k = 1 ∨ k = 2 ∨ k = 3 by omega) with z | z | z | z <;> subst z
      · rw [if_neg (by omega), r1 (nI 1) (fun _ => rfl) (fun h => absurd rfl h)]
        unfold B_X12_isFull_15 B_X12_isFull_24
        simp (disch := omega) only [lit, eq_T, eq_F, reduceIte, rz1]
      · rw [r1 (nI 0) (fun h => by omega) (fun _ => rfl)]
        by_cases d : D 0 2 < 6
        · rw [if_pos (by omega)]
          unfold B_X12_isFull_15 B_X12_isFull_24 B_X12_isFull_45 B_X12_isFull_60 B_X12_isFull_79
          simp (disch := omega) only [lit, eq_T, eq_F, reduceIte, gam_19, ldm_1015, ob_some, g2, rz0]
        · rw [if_neg (by omega)]
          unfold B_X12_isFull_15 B_X12_isFull_24 B_X12_isFull_75
          simp (disch := omega) only [lit, eq_T, eq_F, reduceIte, gam_19, ldm_1015, ob_some, g2, rz1]
      · rw [r1 (nI 0) (fun h => by omega) (fun _ => rfl)]
        by_cases d : D 0 3 < 4
        · rw [if_pos (by omega)]
          unfold B_X12_isFull_15 B_X12_isFull_24 B_X12_isFull_45 B_X12_isFull_60 B_X12_isFull_79
          simp (disch := omega) only [lit, eq_T, eq_F, reduceIte, gam_19, ldm_1015, ob_some, g3, rz0]
        · rw [if_neg (by omega)]
          unfold B_X12_isFull_15 B_X12_isFull_24 B_X12_isFull_45 B_X12_isFull_75
          simp (disch := omega) only [lit, eq_T, eq_F, reduceIte, gam_19, ldm_1015, ob_some, g3, rz1]
      · rw [r1 (nI 0) (fun h => by omega) (fun _ => rfl)]
        by_cases d : D 0 4 < 4
        · rw [if_pos (by omega)]
          unfold B_X12_isFull_15 B_X12_isFull_24 B_X12_isFull_45 B_X12_isFull_60 B_X12_isFull_79
          simp (disch := omega) only [lit, eq_T, eq_F, reduceIte, gam_19, ldm_1015, ob_some, g4, rz0]
        · rw [if_neg (by omega)]
          unfold B_X12_isFull_15 B_X12_isFull_24 B_X12_isFull_45 B_X12_isFull_60 B_X12_isFull_75
          simp (disch := omega) only [lit, eq_T, eq_F, reduceIte, gam_19, ldm_1015, ob_some, g4, rz1]
  · rw [if_neg (by omega)]
    unfold F_X12_isFull
    simp (disch := omega) only [gdm, lit, eq_T, reduceIte, rz1]
