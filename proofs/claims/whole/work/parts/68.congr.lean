/-! what the relations look at -/
set_option maxRecDepth 4000 in
theorem PR.congr {a b : Nat → Nat → Int32} {P : Nat → Nat → Nat} (h : PR a P) (e0 : ∀ k, k < 5 → b 0 k = a 0 k) (e1 : ∀ j k, 1 ≤ j → j ≤ 3 → k < 6 → b j k = a j k) (e2 : ∀ j k, 4 ≤ j → j ≤ 7 → k < 4 → b j k = a j k) : PR b P := by
  obtain ⟨⟨x0, x1, x2, x3, x4⟩, B, h1, h2, h3⟩ := h
  refine ⟨⟨(e0 0 (by omega)).trans x0, (e0 1 (by omega)).trans x1, (e0 2 (by omega)).trans x2, (e0 3 (by omega)).trans x3, (e0 4 (by omega)).trans x4⟩, B, fun p hp => ?_, fun k hk => ?_, fun k hk => ?_⟩
  · obtain ⟨⟨y1, z1⟩, ⟨y2, z2⟩, ⟨y3, z3⟩⟩ := h1 p hp
    exact ⟨⟨(e1 1 p (by omega) (by omega) (by omega)).trans y1, z1⟩, ⟨(e1 2 p (by omega) (by omega) (by omega)).trans y2, z2⟩, ⟨(e1 3 p (by omega) (by omega) (by omega)).trans y3, z3⟩⟩
  · obtain ⟨⟨y1, z1⟩, ⟨y2, z2⟩⟩ := h2 k hk
    exact ⟨⟨(e2 4 k (by omega) (by omega) (by omega)).trans y1, z1⟩, ⟨(e2 5 k (by omega) (by omega) (by omega)).trans y2, z2⟩⟩
  · obtain ⟨⟨y1, z1⟩, ⟨y2, z2⟩⟩ := h3 k hk
    exact ⟨⟨(e2 6 k (by omega) (by omega) (by omega)).trans y1, z1⟩, ⟨(e2 7 k (by omega) (by omega) (by omega)).trans y2, z2⟩⟩
set_option maxRecDepth 4000 in
theorem PW.congr {a b : Nat → Nat → Int32} {P : Nat → Nat → Nat} (h : PW a P) (e0 : ∀ k, k < 5 → b 0 k = a 0 k) (e1 : ∀ j k, 1 ≤ j → j ≤ 3 → k < 6 → b j k = a j k) (e2 : ∀ j k, 4 ≤ j → j ≤ 7 → k < 4 → b j k = a j k) : PW b P := by
  rcases h with ⟨y0, y1, y2, y3, y4, x0, x1, x2, x3, x4⟩ | h
  · exact .inl ⟨y0, y1, y2, y3, y4, (e0 0 (by omega)).trans x0, (e0 1 (by omega)).trans x1, (e0 2 (by omega)).trans x2, (e0 3 (by omega)).trans x3, (e0 4 (by omega)).trans x4⟩
  · exact .inr (h.congr e0 e1 e2)
set_option maxRecDepth 4000 in
theorem MS.congr {a b : Nat → Nat → Int32} {P A : Nat → Nat → Nat} (h : MS P a A) (hN : P 0 2 ≤ 6) (hM : P 0 3 ≤ 4) (hS : P 0 0 * P 0 0 ≤ 36) (e5 : b 0 5 = a 0 5) (e6 : b 0 6 = a 0 6) (e1 : ∀ j k, 1 ≤ j → j ≤ 5 → k < 6 → b j k = a j k) (e2 : ∀ k, k < 4 → b 6 k = a 6 k) (e3 : ∀ k, k < 36 → b 7 k = a 7 k) : MS P b A := by
  obtain ⟨h1, h2, h3, ⟨h4, h4b⟩, ⟨h5, h5b⟩⟩ := h
  refine ⟨fun p hp => ?_, fun k hk => ?_, fun c hc => ?_, ⟨e6.trans h4, h4b⟩, ⟨e5.trans h5, h5b⟩⟩
  · obtain ⟨⟨y1, z1⟩, ⟨y2, z2⟩, ⟨y3, z3⟩, ⟨y4, z4⟩, L, y5, z5⟩ := h1 p hp
    exact ⟨⟨(e1 1 p (by omega) (by omega) (by omega)).trans y1, z1⟩, ⟨(e1 2 p (by omega) (by omega) (by omega)).trans y2, z2⟩, ⟨(e1 3 p (by omega) (by omega) (by omega)).trans y3, z3⟩, ⟨(e1 4 p (by omega) (by omega) (by omega)).trans y4, z4⟩, L, (e1 5 p (by omega) (by omega) (by omega)).trans y5, z5⟩
  · exact ⟨(e2 k (by omega)).trans (h2 k hk).1, (h2 k hk).2⟩
  · exact ⟨(e3 c (by omega)).trans (h3 c hc).1, (h3 c hc).2⟩
set_option maxRecDepth 4000 in
theorem NotesOK.congr {P N : Nat → Nat → Nat} {h c w h1 c1 w1 : Nat → Int32} {nn : Nat} (q : NotesOK P N h c w nn) (e1 : ∀ k, k < 10 → h1 k = h k) (e2 : ∀ k, k < 10 → c1 k = c k) (e3 : ∀ k, k < 10 → w1 k = w k) : NotesOK P N h1 c1 w1 nn := by
  obtain ⟨q1, q2⟩ := q
  refine ⟨q1, fun i hi => ?_⟩
  obtain ⟨⟨a1, b1⟩, ⟨a2, b2⟩, ⟨a3, b3⟩⟩ := q2 i hi
  exact ⟨⟨(e1 i (by omega)).trans a1, b1⟩, ⟨(e2 i (by omega)).trans a2, b2⟩, ⟨(e3 i (by omega)).trans a3, b3⟩⟩
set_option maxRecDepth 4000 in
/-- the past of a view -/
theorem pv_congr {a b : Nat → Nat → Int32} {P A : Nat → Nat → Nat} {r : Nat} (h : MS P (pv a r) A) (hN : P 0 2 ≤ 6) (hM : P 0 3 ≤ 4) (hS : P 0 0 * P 0 0 ≤ 36) {s : Nat} (e : ∀ k, k < 72 → b 19 (72 * s + k) = a 19 (72 * r + k)) : MS P (pv b s) A := by
  refine h.congr hN hM hS ?_ ?_ ?_ ?_ ?_
  · exact e 0 (by omega)
  · exact e 1 (by omega)
  · intro j k h1 h2 hk
    rcases (show j = 1 ∨ j = 2 ∨ j = 3 ∨ j = 4 ∨ j = 5 by omega) with x | x | x | x | x <;> subst x <;> exact e _ (by omega)
  · intro k hk; exact e _ (by omega)
  · intro k hk; exact e _ (by omega)
set_option maxRecDepth 4000 in
theorem szv_19 : szv 19 = 1440 := rfl
set_option maxRecDepth 4000 in
theorem MW.congr {a b : Nat → Nat → Int32} {W : WT} (h : MW a W) (e : ∀ j k, j < 20 → k < szv j → b j k = a j k) : MW b W := by
  obtain ⟨P, A, H, n, N, nn, fo, x⟩ := W
  obtain ⟨mP, ⟨mA, mAh⟩, ⟨mh1, mh2, mh3⟩, ⟨mn1, mn2⟩, ⟨mf1, mf2⟩, ⟨mx1, mx2⟩⟩ := h
  obtain ⟨B0, B1, B2, B3, B4, B5⟩ := mP.bd
  have e0 : ∀ k, k < 10 → b 0 k = a 0 k := fun k hk => e 0 k (by omega) hk
  refine ⟨mP.congr (fun k hk => e0 k (by omega)) ?_ ?_, ⟨mA.congr B2 B3 B5 (e0 5 (by omega)) (e0 6 (by omega)) ?_ (fun k hk => e 6 k (by omega) hk) (fun k hk => e 7 k (by omega) hk), mAh⟩, ⟨(e 8 0 (by omega) Nat.one_pos).trans mh1, mh2, fun i hi => ⟨pv_congr (mh3 i hi).1 B2 B3 B5 (fun k hk => e 19 _ (by omega) (by rw [szv_19]; omega)), (mh3 i hi).2⟩⟩, ⟨(e0 7 (by omega)).trans mn1, mn2.congr (fun k hk => e 14 k (by omega) hk) (fun k hk => e 15 k (by omega) hk) (fun k hk => e 16 k (by omega) hk)⟩, ⟨(e0 9 (by omega)).trans mf1, mf2⟩, ⟨(e0 8 (by omega)).trans mx1, mx2⟩⟩
  · intro j k h1 h2 hk
    rcases (show j = 1 ∨ j = 2 ∨ j = 3 by omega) with x | x | x <;> subst x <;> exact e _ _ (Nat.le_of_ble_eq_true rfl) hk
  · intro j k h1 h2 hk
    rcases (show j = 4 ∨ j = 5 ∨ j = 6 ∨ j = 7 by omega) with x | x | x | x <;> subst x <;> exact e _ _ (Nat.le_of_ble_eq_true rfl) hk
  · intro j k h1 h2 hk
    rcases (show j = 1 ∨ j = 2 ∨ j = 3 ∨ j = 4 ∨ j = 5 by omega) with x | x | x | x | x <;> subst x <;> exact e _ _ (Nat.le_of_ble_eq_true rfl) hk
set_option maxRecDepth 4000 in
theorem SEq.of {m m1 : Nat → Nat → Int32} {a b : Nat} (e : ∀ j, j < 8 → m1 (a + j) = m (b + j)) : SEq (blk m1 a) (blk m b) := by
  refine ⟨fun k _ => ⟨?_, ?_, ?_, ?_, ?_⟩, fun k _ => ?_, fun k _ => ?_, ?_, ?_⟩ <;> exact congrFun (e _ (Nat.le_of_ble_eq_true rfl)) _
set_option maxRecDepth 4000 in
theorem HistC.congr {P : Nat → Nat → Nat} {H : Nat → Nat → Nat → Nat} {n : Nat} {m m1 : Nat → Nat → Int32} {b : Nat} (h : HistC P H n m b) (hN : P 0 2 ≤ 6) (hM : P 0 3 ≤ 4) (hS : P 0 0 * P 0 0 ≤ 36) (e : ∀ i, b ≤ i → i < b + 162 → m1 i = m i) : HistC P H n m1 b := by
  obtain ⟨nx, h1, h2, h3, h4, h5⟩ := h
  refine ⟨nx, h1, by rw [e _ (by omega) (by omega)]; exact h2, by rw [e _ (by omega) (by omega)]; exact h3, h4, fun i hi => ⟨(h5 i hi).1.set (SEq.of (fun j hj => e _ (by omega) (by omega))) hN hM hS, (h5 i hi).2⟩⟩
set_option maxRecDepth 4000 in
theorem CW.congr {m m1 : Nat → Nat → Int32} {b : Nat} {W : WT} (h : CW m b W) (e : ∀ i, b ≤ i → i < b + 183 → m1 i = m i) : CW m1 b W := by
  obtain ⟨P, A, H, n, N, nn, fo, x⟩ := W
  obtain ⟨cP, ⟨cA, cAh⟩, cH, ⟨cn1, cn2⟩, ⟨cf1, cf2⟩, ⟨cx1, cx2⟩⟩ := h
  obtain ⟨B0, B1, B2, B3, B4, B5⟩ := cP.bd
  refine ⟨cP.congr (fun k _ => ?_) (fun j k _ _ _ => ?_) (fun j k _ _ _ => ?_), ⟨cA.set (SEq.of (fun j hj => e _ (by omega) (by omega))) B2 B3 B5, cAh⟩, cH.congr B2 B3 B5 (fun i h1 h2 => e i (by omega) (by omega)), ⟨by rw [e _ (by omega) (by omega)]; exact cn1, ?_⟩, ⟨by rw [e _ (by omega) (by omega)]; exact cf1, cf2⟩, ⟨by rw [e _ (by omega) (by omega)]; exact cx1, cx2⟩⟩
  · exact congrFun (e _ (by omega) (by omega)) _
  · exact congrFun (e _ (by omega) (by omega)) _
  · exact congrFun (e _ (by omega) (by omega)) _
  · rw [e _ (by omega) (by omega), e _ (by omega) (by omega), e _ (by omega) (by omega)]; exact cn2
set_option maxRecDepth 4000 in
theorem CI.keep {s : GS} {m m1 : Nat → Nat → Int32} (h : CI s m) (e1 : m1 1 1 = m 1 1) (e2 : m1 2 = m 2) (e13 : m1 13 2 = m 13 2) (eW : ∀ i, 14 ≤ i → i < 197 → m1 i = m i) (eR : ∀ i, 220 ≤ i → i < 262 → m1 i = m i) (eI : ∀ i, 263 ≤ i → i < 996 → m1 i = m i) : CI s m1 := by
  obtain ⟨⟨len, by_⟩, ⟨nr, RS⟩, W, IM, md⟩ := s
  obtain ⟨⟨ct1, ct2, ct3⟩, ⟨cr1, cr2, cr3⟩, ⟨cW, cwf⟩, cm1, cm2⟩ := h
  refine ⟨⟨e1.trans ct1, ct2, by rw [e2]; exact ct3⟩, ⟨e13.trans cr1, cr2, fun r hr => (cr3 r hr).congr (fun i h1 h2 => eR i (by omega) (by omega))⟩, ⟨cW.congr (fun i h1 h2 => eW i (by omega) (by omega)), cwf⟩, by rw [eI _ (by omega) (by omega)]; exact cm1, fun k hk hm => ⟨(cm2 k hk hm).1.congr (fun i h1 h2 => eI i (by omega) (by omega)), (cm2 k hk hm).2⟩⟩
set_option maxRecDepth 4000 in
theorem ofv_sz : ∀ j, j < 20 → ofv j + szv j ≤ 1585 := by decide
set_option maxRecDepth 4000 in
theorem nv_congr {m m1 : Nat → Nat → Int32} (e50 : m1 996 50 = m 996 50) (eA : ∀ j k, j < 8 → k < szv j → m1 (997 + j) k = m (997 + j) k) (eB : ∀ i, 1005 ≤ i → i < 1015 → m1 i = m i) (e33 : m1 1033 = m 1033) : ∀ j k, j < 20 → k < szv j → nv m1 j k = nv m j k := by
  intro j k hj hk
  unfold nv
  by_cases h : j = 8
  · rw [if_pos h, if_pos h]; exact e50
  · rw [if_neg h, if_neg h]
    by_cases h2 : j < 8
    · rw [if_pos h2, if_pos h2]; exact eA j k h2 hk
    · rw [if_neg h2, if_neg h2]
      by_cases h3 : j < 19
      · rw [if_pos h3, if_pos h3, eB _ (by omega) (by omega)]
      · rw [if_neg h3, if_neg h3, e33]
set_option maxRecDepth 4000 in
theorem iv_congr {m m1 : Nat → Nat → Int32} {i : Nat} (hi : i < 4) (e : ∀ k, k < 6800 → m1 1039 k = m 1039 k) : ∀ j k, j < 20 → k < szv j → iv m1 i j k = iv m i j k := by
  intro j k hj hk
  have := ofv_sz j hj
  exact e _ (by omega)
set_option maxRecDepth 4000 in
theorem MI.keep {s : GS} {m m1 : Nat → Nat → Int32} (h : MI s m) (e27 : m1 996 27 = m 996 27) (e31 : m1 996 31 = m 996 31) (e36 : m1 996 36 = m 996 36) (e47 : m1 996 47 = m 996 47) (e50 : m1 996 50 = m 996 50) (eA : ∀ j k, j < 8 → k < szv j → m1 (997 + j) k = m (997 + j) k) (eB : ∀ i, 1005 ≤ i → i < 1015 → m1 i = m i) (eT : ∀ i, 1023 ≤ i → i < 1030 → m1 i = m i) (e33 : m1 1033 = m 1033) (e39 : ∀ k, k < 6800 → m1 1039 k = m 1039 k) (e40 : m1 1040 = m 1040) : MI s m1 := by
  obtain ⟨⟨len, by_⟩, ⟨nr, RS⟩, W, IM, md⟩ := s
  obtain ⟨⟨mt1, mt2⟩, ⟨mr1, mr2⟩, mW, mm1, mm2, mw, ms⟩ := h
  refine ⟨⟨e27.trans mt1, by rw [eT _ (by omega) (by omega)]; exact mt2⟩, ⟨e31.trans mr1, fun r hr => (mr2 r hr).congr (fun i h1 h2 => eT i (by omega) (by omega))⟩, mW.congr (nv_congr e50 eA eB e33), by rw [e40]; exact mm1, fun k hk hm => (mm2 k hk hm).congr (iv_congr hk e39), e36.trans mw, e47.trans ms⟩
set_option maxRecDepth 4000 in
theorem CI.same {s : GS} {m m1 : Nat → Nat → Int32} (h : CI s m) (e : ∀ i, i < 996 → m1 i = m i) : CI s m1 := h.keep (by rw [e _ (by omega)]) (e _ (by omega)) (by rw [e _ (by omega)]) (fun i _ h2 => e i (by omega)) (fun i _ h2 => e i (by omega)) (fun i _ h2 => e i (by omega))
set_option maxRecDepth 4000 in
theorem MI.same {s : GS} {m m1 : Nat → Nat → Int32} (h : MI s m) (e : ∀ i, 996 ≤ i → i < 1041 → m1 i = m i) : MI s m1 := h.keep (by rw [e _ (by omega) (by omega)]) (by rw [e _ (by omega) (by omega)]) (by rw [e _ (by omega) (by omega)]) (by rw [e _ (by omega) (by omega)]) (by rw [e _ (by omega) (by omega)]) (fun j k h1 _ => by rw [e _ (by omega) (by omega)]) (fun i h1 h2 => e i (by omega) (by omega)) (fun i h1 h2 => e i (by omega) (by omega)) (e _ (by omega) (by omega)) (fun k _ => by rw [e _ (by omega) (by omega)]) (e _ (by omega) (by omega))
