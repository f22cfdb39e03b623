/-! rows laid into images, and back -/
set_option maxRecDepth 4000 in
theorem carryRow_ok {q : Nat → Nat → Int64} {a L p tb : Nat} (m0 : Nat → Nat → Int32) (hK : KS[a]? = some (100, L, [])) (ha : a ≠ 996) (ha3 : a ≠ 1039) (ha2 : a < 2000) (hL : L ≤ 1440) (h63 : m0 996 63 = nI tb) (ht : tb < 2) (h62 : m0 996 62 = nI p) (hp : p + L ≤ 8500) :
    ∃ m1, F_X12_carryRow 996 a (KS, m0, q) = some ((), (KS, m1, q)) ∧ (∀ i, i ≠ 996 → i ≠ 1039 → i ≠ a → m1 i = m0 i) ∧ (∀ k, k ≠ 62 → m1 996 k = m0 996 k) ∧ m1 996 62 = nI (p + L) ∧ (∀ k, k < L → m1 a k = (if tb = 1 then m0 1039 (p + k) else m0 a k) ∧ m1 1039 (p + k) = (if tb = 1 then m0 1039 (p + k) else m0 a k)) ∧ (∀ k, k < p ∨ p + L ≤ k → m1 1039 k = m0 1039 k) := by
  obtain ⟨f1, m1, e, i1, i2, i3, i4, i5, i6⟩ := loop_up (fun f i m => B_X12_carryRow_2 f 996 a (nI i) (KS, m, q)) L (fun i m => (∀ i, i ≠ 996 → i ≠ 1039 → i ≠ a → m i = m0 i) ∧ (∀ k, k ≠ 62 → m 996 k = m0 996 k) ∧ m 996 62 = nI (p + i) ∧ (∀ k, k < i → m a k = (if tb = 1 then m0 1039 (p + k) else m0 a k) ∧ m 1039 (p + k) = (if tb = 1 then m0 1039 (p + k) else m0 a k)) ∧ (∀ k, k < p ∨ p + i ≤ k → m 1039 k = m0 1039 k) ∧ (∀ k, i ≤ k → m a k = m0 a k)) (by
    intro f i m hi ⟨i1, i2, i3, i4, i5, i6⟩
    have h63' : m 996 63 = nI tb := (i2 63 (by omega)).trans h63
    have e39 : m 1039 (p + i) = m0 1039 (p + i) := i5 _ (.inr (Nat.le_refl _))
    have ea : m a i = m0 a i := i6 i (Nat.le_refl _)
    rcases (show tb = 0 ∨ tb = 1 by omega) with et | et <;> subst et
    · refine ⟨mk_u2 (mk_u2 m 1039 (p + i) (m0 a i)) 996 62 (nI (p + i + 1)), ?_, fun j h1 h2 h3 => ?_, fun k hk => ?_, ?_, fun k hk => ?_, fun k hk => ?_, fun k hk => ?_⟩
      · simp only [B_X12_carryRow_2, B_X12_carryRow_42]
        rw [len_ok hK (by omega) (by omega), ob_some]
        simp (disch := omega) only [le_F, reduceIte, gim_63, gam_60, gim_62, ob_some, h63', i3, lit]
        rw [ld_ok hK (by omega) hi (by omega), ob_some, ea]
        simp (disch := omega) only [stm_1039, ob_some, gim_62, pim_62, u2_a, i3, nI_add]
      · rw [mk_u2_ne h1, mk_u2_ne h2]; exact i1 j h1 h2 h3
      · rw [u2_b hk, u2_a (by omega)]; exact i2 k hk
      · rw [u2_s]; rfl
      · by_cases h : k = i
        · subst h
          rw [u2_a ha, u2_a ha3, u2_a (by omega), u2_s, ea]; exact ⟨rfl, rfl⟩
        · rw [u2_a ha, u2_a ha3, u2_a (by omega), u2_b (by omega)]; exact i4 k (by omega)
      · rw [u2_a (by omega), u2_b (by omega)]; exact i5 k (by omega)
      · rw [u2_a ha, u2_a ha3]; exact i6 k (by omega)
    · refine ⟨mk_u2 (mk_u2 m a i (m0 1039 (p + i))) 996 62 (nI (p + i + 1)), ?_, fun j h1 h2 h3 => ?_, fun k hk => ?_, ?_, fun k hk => ?_, fun k hk => ?_, fun k hk => ?_⟩
      · simp only [B_X12_carryRow_2, B_X12_carryRow_42]
        rw [len_ok hK (by omega) (by omega), ob_some]
        simp (disch := omega) only [le_F, reduceIte, gim_63, gam_60, gim_62, ob_some, h63', i3, lit, eq_F, ldm_1039, e39]
        rw [st_ok hK hi (by omega), ob_some]
        have e62 : mk_u2 m a i (mk_nar 100 (m0 1039 (p + i))) 996 62 = nI (p + i) := by rw [u2_a (Ne.symm ha)]; exact i3
        simp only [gim_62, pim_62, ob_some, e62, nI_add]
        rfl
      · rw [mk_u2_ne h1, mk_u2_ne h3]; exact i1 j h1 h2 h3
      · rw [u2_b hk, u2_a (Ne.symm ha)]; exact i2 k hk
      · rw [u2_s]; rfl
      · by_cases h : k = i
        · subst h
          rw [u2_a ha, u2_s, u2_a (by omega), u2_a (Ne.symm ha3), e39]; exact ⟨rfl, rfl⟩
        · rw [u2_a ha, u2_b h, u2_a (by omega), u2_a (Ne.symm ha3)]; exact i4 k (by omega)
      · rw [u2_a (by omega), u2_a (Ne.symm ha3)]; exact i5 k (by omega)
      · rw [u2_a ha, u2_b (by omega)]; exact i6 k (by omega)) L 0 mk_fu m0 (by omega) (by rw [mk_fu_eq]; omega) ⟨fun _ _ _ _ => rfl, fun _ _ => rfl, h62, fun _ h => absurd h (by omega), fun _ _ => rfl, fun _ _ => rfl⟩
  refine ⟨m1, ?_, i1, i2, i3, i4, i5⟩
  unfold F_X12_carryRow
  rw [gdm]
  refine Eq.trans e ?_
  simp only [B_X12_carryRow_2]
  rw [len_ok hK (by omega) (by omega), ob_some]
  simp (disch := omega) only [le_T, reduceIte]
/-- the rows of a view, in the order in which they are carried -/
def rid (j : Nat) : Nat := if j < 8 then 997 + j else if j = 8 then 1034 else if j < 19 then 996 + j else 1033
def ofs (j : Nat) : Nat := if j < 20 then ofv j else 1585
set_option maxRecDepth 4000 in
theorem rid_K : ∀ j, j < 20 → KS[rid j]? = some (100, szv j, []) := by decide +kernel
set_option maxRecDepth 4000 in
theorem rid_ne : ∀ j, j < 20 → rid j ≠ 996 ∧ rid j ≠ 1039 ∧ rid j < 2000 ∧ szv j ≤ 1440 ∧ ofs (j + 1) = ofs j + szv j ∧ ofs j + szv j ≤ 1585 := by decide
set_option maxRecDepth 4000 in
theorem rid_inj : ∀ j, j < 20 → ∀ i, i < j → rid i ≠ rid j ∧ ofs i + szv i ≤ ofs j := by decide
def CVs (m0 : Nat → Nat → Int32) (p0 tb j k : Nat) : Int32 := if tb = 1 then m0 1039 (p0 + ofs j + k) else m0 (rid j) k
def CV (m0 m : Nat → Nat → Int32) (p0 tb J : Nat) : Prop := (∀ i, i ≠ 996 → i ≠ 1039 → (∀ j, j < J → i ≠ rid j) → m i = m0 i) ∧ (∀ k, k ≠ 62 → k ≠ 50 → m 996 k = m0 996 k) ∧ m 996 62 = nI (p0 + ofs J) ∧ (∀ j, j < J → ∀ k, k < szv j → m (rid j) k = CVs m0 p0 tb j k ∧ m 1039 (p0 + ofs j + k) = CVs m0 p0 tb j k) ∧ (∀ k, k < p0 ∨ p0 + ofs J ≤ k → m 1039 k = m0 1039 k)
set_option maxRecDepth 4000 in
theorem CV.step {q : Nat → Nat → Int64} {m0 m : Nat → Nat → Int32} {p0 tb J : Nat} (h : CV m0 m p0 tb J) (hJ : J < 20) (ht : tb < 2) (h63 : m0 996 63 = nI tb) (hp : p0 + 1585 ≤ 8500) : ∃ m1, F_X12_carryRow 996 (rid J) (KS, m, q) = some ((), (KS, m1, q)) ∧ CV m0 m1 p0 tb (J + 1) ∧ m1 996 50 = m 996 50 := by
  obtain ⟨i1, i2, i3, i4, i5⟩ := h
  obtain ⟨r1, r2, r3, r4, r5, r6⟩ := rid_ne J hJ
  obtain ⟨m1, c1, c2, c3, c4, c5, c6⟩ := carryRow_ok (q := q) m (rid_K J hJ) r1 r2 r3 r4 ((i2 63 (by omega) (by omega)).trans h63) ht i3 (by omega)
  refine ⟨m1, c1, ⟨fun i h1 h2 h3 => (c2 i h1 h2 (h3 J (by omega))).trans (i1 i h1 h2 (fun j hj => h3 j (by omega))), fun k a b => (c3 k a).trans (i2 k a b), ?_, fun j hj k hk => ?_, fun k hk => ?_⟩, c3 50 (by omega)⟩
  · rw [c4]; exact congrArg nI (by omega)
  · by_cases e : j = J
    · subst e
      have hc := c5 k hk
      rw [i5 _ (by omega), i1 _ r1 r2 (fun i hi => ((rid_inj j hJ i hi).1).symm)] at hc
      exact hc
    · obtain ⟨x1, x2⟩ := rid_inj J hJ j (by omega)
      obtain ⟨y1, y2, -⟩ := rid_ne j (by omega)
      rw [c2 _ y1 y2 x1, c6 _ (by omega)]
      exact i4 j (by omega) k hk
  · rw [c6 k (by omega)]; exact i5 k (by omega)
set_option maxRecDepth 4000 in
theorem CV.zero {m0 : Nat → Nat → Int32} {p0 tb : Nat} (h : m0 996 62 = nI p0) : CV m0 m0 p0 tb 0 := ⟨fun _ _ _ _ => rfl, fun _ _ _ => rfl, h, fun _ h => absurd h (by omega), fun _ _ => rfl⟩
set_option maxRecDepth 4000 in
/-- the first eight rows -/
theorem carries8 {q : Nat → Nat → Int64} {kk tb : Nat} (m : Nat → Nat → Int32) (hk : kk ≤ 4) (ht : tb < 2) : ∃ m1 m0, (∀ i, i ≠ 996 → m0 i = m i) ∧ (∀ k, k ≠ 62 → k ≠ 63 → m0 996 k = m 996 k) ∧ m0 996 63 = nI tb ∧ CV m0 m1 (1700 * kk) tb 8 ∧ m1 996 50 = m 996 50 ∧ F_X12_carriesAll 996 (nI kk) (nI tb) (KS, m, q) = (if nI kk = nI 4 then some ((), (KS, m1, q)) else (mk_st 100 (KS, m1, q) 1034 (nI 0) (m1 996 50)).bind fun t21 => (mk_ga t21 996 11 49).bind fun v22 => (F_X12_carryRow 996 v22 t21).bind fun z23 => (mk_ga z23.2 996 11 49).bind fun v24 => (mk_ld 100 z23.2 v24 (nI 0)).bind fun v25 => (mk_pi z23.2 996 11 50 v25).bind fun t26 => (mk_ga t26 996 11 9).bind fun v27 => (F_X12_carryRow 996 v27 t26).bind fun z28 => (mk_ga z28.2 996 11 10).bind fun v29 => (F_X12_carryRow 996 v29 z28.2).bind fun z30 => (mk_ga z30.2 996 11 11).bind fun v31 => (F_X12_carryRow 996 v31 z30.2).bind fun z32 => (mk_ga z32.2 996 11 12).bind fun v33 => (F_X12_carryRow 996 v33 z32.2).bind fun z34 => (mk_ga z34.2 996 11 13).bind fun v35 => (F_X12_carryRow 996 v35 z34.2).bind fun z36 => (mk_ga z36.2 996 11 14).bind fun v37 => (F_X12_carryRow 996 v37 z36.2).bind fun z38 => (mk_ga z38.2 996 11 15).bind fun v39 => (F_X12_carryRow 996 v39 z38.2).bind fun z40 => (mk_ga z40.2 996 11 16).bind fun v41 => (F_X12_carryRow 996 v41 z40.2).bind fun z42 => (mk_ga z42.2 996 11 17).bind fun v43 => (F_X12_carryRow 996 v43 z42.2).bind fun z44 => (mk_ga z44.2 996 11 18).bind fun v45 => (F_X12_carryRow 996 v45 z44.2).bind fun z46 => (mk_ga z46.2 996 11 48).bind fun v47 => (F_X12_carryRow 996 v47 z46.2).bind fun z48 => some ((), z48.2)) := by
  generalize hm0 : mk_u2 (mk_u2 m 996 62 (nI (1700 * kk))) 996 63 (nI tb) = m0
  have a62 : m0 996 62 = nI (1700 * kk) := by rw [← hm0]; simp (disch := omega) only [u2_s, u2_a, u2_b]
  have a63 : m0 996 63 = nI tb := by rw [← hm0]; simp (disch := omega) only [u2_s, u2_a, u2_b]
  have a96 : ∀ k, k ≠ 62 → k ≠ 63 → m0 996 k = m 996 k := fun k h1 h2 => by rw [← hm0, u2_b h2, u2_b h1]
  have aO : ∀ i, i ≠ 996 → m0 i = m i := fun i hi => by rw [← hm0, mk_u2_ne hi, mk_u2_ne hi]
  have hp : 1700 * kk + 1585 ≤ 8500 := by omega
  obtain ⟨n1, e1, V1, f1⟩ := (CV.zero (tb := tb) a62).step (q := q) (by omega) ht a63 hp
  obtain ⟨n2, e2, V2, f2⟩ := V1.step (q := q) (by omega) ht a63 hp
  obtain ⟨n3, e3, V3, f3⟩ := V2.step (q := q) (by omega) ht a63 hp
  obtain ⟨n4, e4, V4, f4⟩ := V3.step (q := q) (by omega) ht a63 hp
  obtain ⟨n5, e5, V5, f5⟩ := V4.step (q := q) (by omega) ht a63 hp
  obtain ⟨n6, e6, V6, f6⟩ := V5.step (q := q) (by omega) ht a63 hp
  obtain ⟨n7, e7, V7, f7⟩ := V6.step (q := q) (by omega) ht a63 hp
  obtain ⟨n8, e8, V8, f8⟩ := V7.step (q := q) (by omega) ht a63 hp
  refine ⟨n8, m0, aO, a96, a63, V8, by rw [f8, f7, f6, f5, f4, f3, f2, f1, a96 _ (by omega) (by omega)], ?_⟩
  have hb01 : nI tb = nI 0 ∨ nI tb = nI 1 := by rcases (show tb = 0 ∨ tb = 1 by omega) with e | e <;> subst e <;> simp
  have e1 : F_X12_carryRow 996 997 (KS, m0, q) = some ((), (KS, n1, q)) := e1
  have e2 : F_X12_carryRow 996 998 (KS, n1, q) = some ((), (KS, n2, q)) := e2
  have e3 : F_X12_carryRow 996 999 (KS, n2, q) = some ((), (KS, n3, q)) := e3
  have e4 : F_X12_carryRow 996 1000 (KS, n3, q) = some ((), (KS, n4, q)) := e4
  have e5 : F_X12_carryRow 996 1001 (KS, n4, q) = some ((), (KS, n5, q)) := e5
  have e6 : F_X12_carryRow 996 1002 (KS, n5, q) = some ((), (KS, n6, q)) := e6
  have e7 : F_X12_carryRow 996 1003 (KS, n6, q) = some ((), (KS, n7, q)) := e7
  have e8 : F_X12_carryRow 996 1004 (KS, n7, q) = some ((), (KS, n8, q)) := e8
  unfold F_X12_carriesAll
  rw [gdm]
  simp only [pim_62, ob_some, lit, pk_mul, pzm_63 hb01, hm0, gam_1, gam_2, gam_3, gam_4, gam_5, gam_6, gam_7, gam_8, e1, e2, e3, e4, e5, e6, e7, e8, gam_49, gim_50]
set_option maxRecDepth 4000 in
theorem rid_lt : ∀ j, j < 8 → rid j = 997 + j ∧ ofs j = ofv j := by decide
/-- what a question leaves of the reference -/
def KM (m0 m : Nat → Nat → Int32) : Prop := (∀ i, i < 996 ∨ 1004 < i → i < 1035 ∨ 1039 < i → m i = m0 i) ∧ (∀ k, k ≠ 47 → k ≠ 53 → k ≠ 54 → k ≠ 55 → k ≠ 62 → k ≠ 63 → m 996 k = m0 996 k) ∧ (∀ k, k < 6800 → m 1039 k = m0 1039 k)
/-- the rows of m0 lie in the fifth image of m -/
def KP (m0 m : Nat → Nat → Int32) : Prop := KM m0 m ∧ ∀ j k, j < 8 → k < szv j → m 1039 (6800 + ofv j + k) = m0 (997 + j) k
def KB (m0 m : Nat → Nat → Int32) : Prop := ∀ j k, j < 8 → k < szv j → m (997 + j) k = m0 (997 + j) k
set_option maxRecDepth 4000 in
theorem keepsAll_ok {q : Nat → Nat → Int64} (m : Nat → Nat → Int32) : ∃ m1, F_X12_keepsAll 996 (KS, m, q) = some ((), (KS, m1, q)) ∧ KP m m1 ∧ KB m m1 ∧ (∀ k, k ≠ 62 → k ≠ 63 → m1 996 k = m 996 k) ∧ (∀ i, i < 996 ∨ 1004 < i → i ≠ 1039 → m1 i = m i) := by
  obtain ⟨m1, m0, a1, a2, a3, ⟨i1, i2, i3, i4, i5⟩, a5, a6⟩ := carries8 (q := q) (kk := 4) (tb := 0) m (by omega) (by omega)
  have e96 : ∀ k, k ≠ 62 → k ≠ 63 → m1 996 k = m 996 k := fun k h1 h2 => by
    by_cases h : k = 50
    · subst h; exact a5
    · exact (i2 k h1 h).trans (a2 k h1 h2)
  have eO : ∀ i, i < 996 ∨ 1004 < i → i ≠ 1039 → m1 i = m i := fun i h1 h2 => (i1 i (by omega) h2 (fun j hj => by rw [(rid_lt j hj).1]; omega)).trans (a1 i (by omega))
  have eB : KB m m1 := fun j k hj hk => by
    have h := (i4 j hj k hk).1
    rw [(rid_lt j hj).1] at h
    refine h.trans ?_
    show m0 (rid j) k = _
    rw [(rid_lt j hj).1, a1 _ (by omega)]
  refine ⟨m1, ?_, ⟨⟨fun i h1 h2 => eO i h1 (by omega), fun k _ _ _ _ h5 h6 => e96 k h5 h6, fun k hk => (i5 k (by omega)).trans (by rw [a1 _ (by omega)])⟩, fun j k hj hk => ?_⟩, eB, e96, eO⟩
  · unfold F_X12_keepsAll
    have a6' : F_X12_carriesAll 996 (nI 4) (nI 0) (KS, m, q) = some ((), (KS, m1, q)) := a6.trans (if_pos rfl)
    simp only [gdm, lit, a6', ob_some]
  · have h := (i4 j hj k hk).2
    rw [(rid_lt j hj).2] at h
    refine h.trans ?_
    show m0 (rid j) k = _
    rw [(rid_lt j hj).1, a1 _ (by omega)]
set_option maxRecDepth 4000 in
theorem laysBack_ok {q : Nat → Nat → Int64} {m0 : Nat → Nat → Int32} (m : Nat → Nat → Int32) (h : KP m0 m) : ∃ m1, F_X12_laysBack 996 (KS, m, q) = some ((), (KS, m1, q)) ∧ KP m0 m1 ∧ KB m0 m1 ∧ (∀ k, k ≠ 62 → k ≠ 63 → m1 996 k = m 996 k) ∧ (∀ i, i < 996 ∨ 1004 < i → i ≠ 1039 → m1 i = m i) := by
  obtain ⟨⟨k1, k2, k3⟩, k4⟩ := h
  obtain ⟨m1, mz, a1, a2, a3, ⟨i1, i2, i3, i4, i5⟩, a5, a6⟩ := carries8 (q := q) (kk := 4) (tb := 1) m (by omega) (by omega)
  have e96 : ∀ k, k ≠ 62 → k ≠ 63 → m1 996 k = m 996 k := fun k h1 h2 => by
    by_cases h : k = 50
    · subst h; exact a5
    · exact (i2 k h1 h).trans (a2 k h1 h2)
  have eO : ∀ i, i < 996 ∨ 1004 < i → i ≠ 1039 → m1 i = m i := fun i h1 h2 => (i1 i (by omega) h2 (fun j hj => by rw [(rid_lt j hj).1]; omega)).trans (a1 i (by omega))
  have src : ∀ j k, j < 8 → k < szv j → CVs mz (1700 * 4) 1 j k = m0 (997 + j) k := fun j k hj hk => by
    show mz 1039 (1700 * 4 + ofs j + k) = _
    rw [(rid_lt j hj).2, a1 _ (by omega)]
    exact k4 j k hj hk
  refine ⟨m1, ?_, ⟨⟨fun i h1 h2 => (eO i h1 (by omega)).trans (k1 i h1 h2), fun k h1 h2 h3 h4 h5 h6 => (e96 k h5 h6).trans (k2 k h1 h2 h3 h4 h5 h6), fun k hk => (i5 k (by omega)).trans (by rw [a1 _ (by omega)]; exact k3 k hk)⟩, fun j k hj hk => ?_⟩, fun j k hj hk => ?_, e96, eO⟩
  · unfold F_X12_laysBack
    have a6' : F_X12_carriesAll 996 (nI 4) (nI 1) (KS, m, q) = some ((), (KS, m1, q)) := a6.trans (if_pos rfl)
    simp only [gdm, lit, a6', ob_some]
  · have h := (i4 j hj k hk).2
    rw [(rid_lt j hj).2] at h
    exact h.trans (src j k hj hk)
  · have h := (i4 j hj k hk).1
    rw [(rid_lt j hj).1] at h
    exact h.trans (src j k hj hk)
