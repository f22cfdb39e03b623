set_option maxRecDepth 4000 in
theorem CI.now {T : TT} {R : Nat × (Nat → RT)} {W W1 : WT} {IM : Nat → WT} {md : Nat → Bool} {m m1 : Nat → Nat → Int32} (h : CI (T, R, W, IM, md) m) (hW : CW m1 14 W1) (hf : wf W1 ≤ R.1) (e1 : m1 1 1 = m 1 1) (e2 : m1 2 = m 2) (e13 : m1 13 2 = m 13 2) (eR : ∀ i, 220 ≤ i → i < 262 → m1 i = m i) (eI : ∀ i, 263 ≤ i → i < 996 → m1 i = m i) : CI (T, R, W1, IM, md) m1 := by
  obtain ⟨len, by_⟩ := T
  obtain ⟨nr, RS⟩ := R
  obtain ⟨⟨ct1, ct2, ct3⟩, ⟨cr1, cr2, cr3⟩, ⟨cW, cwf⟩, cm1, cm2⟩ := h
  refine ⟨⟨e1.trans ct1, ct2, by rw [e2]; exact ct3⟩, ⟨e13.trans cr1, cr2, fun r hr => (cr3 r hr).congr (fun i h1 h2 => eR i (by omega) (by omega))⟩, ⟨hW, hf⟩, by rw [eI _ (by omega) (by omega)]; exact cm1, fun k hk hm => ⟨(cm2 k hk hm).1.congr (fun i h1 h2 => eI i (by omega) (by omega)), (cm2 k hk hm).2⟩⟩
set_option maxRecDepth 4000 in
theorem MI.now {T : TT} {R : Nat × (Nat → RT)} {W W1 : WT} {IM : Nat → WT} {md : Nat → Bool} {m m1 : Nat → Nat → Int32} (h : MI (T, R, W, IM, md) m) (hW : MW (nv m1) W1) (e27 : m1 996 27 = m 996 27) (e31 : m1 996 31 = m 996 31) (e36 : m1 996 36 = m 996 36) (e47 : m1 996 47 = m 996 47) (eT : ∀ i, 1023 ≤ i → i < 1030 → m1 i = m i) (e39 : ∀ k, k < 6800 → m1 1039 k = m 1039 k) (e40 : m1 1040 = m 1040) : MI (T, R, W1, IM, md) m1 := by
  obtain ⟨len, by_⟩ := T
  obtain ⟨nr, RS⟩ := R
  obtain ⟨⟨mt1, mt2⟩, ⟨mr1, mr2⟩, mW, mm1, mm2, mw, ms⟩ := h
  refine ⟨⟨e27.trans mt1, by rw [eT _ (by omega) (by omega)]; exact mt2⟩, ⟨e31.trans mr1, fun r hr => (mr2 r hr).congr (fun i h1 h2 => eT i (by omega) (by omega))⟩, hW, by rw [e40]; exact mm1, fun k hk hm => (mm2 k hk hm).congr (iv_congr hk e39), e36.trans mw, e47.trans ms⟩
set_option maxRecDepth 4000 in
theorem CW.fx {m m1 : Nat → Nat → Int32} {b : Nat} {P A : Nat → Nat → Nat} {H : Nat → Nat → Nat → Nat} {n : Nat} {N : Nat → Nat → Nat} {nn fo x fo1 x1 : Nat} (h : CW m b (P, A, H, n, N, nn, fo, x)) (e : ∀ i, b < i → i < b + 183 → m1 i = m i) (e4 : m1 b 4 = fI fo1) (hf : fo1 ≤ 6) (e5 : m1 b 5 = nI x1) (hx : x1 < 2147483648) : CW m1 b (P, A, H, n, N, nn, fo1, x1) := by
  obtain ⟨cP, ⟨cA, cAh⟩, cH, ⟨cn1, cn2⟩, ⟨cf1, cf2⟩, ⟨cx1, cx2⟩⟩ := h
  obtain ⟨B0, B1, B2, B3, B4, B5⟩ := cP.bd
  refine ⟨cP.congr (fun k _ => ?_) (fun j k _ _ _ => ?_) (fun j k _ _ _ => ?_), ⟨cA.set (SEq.of (fun j hj => e _ (by omega) (by omega))) B2 B3 B5, cAh⟩, cH.congr B2 B3 B5 (fun i h1 h2 => e i (by omega) (by omega)), ⟨by rw [e _ (by omega) (by omega)]; exact cn1, ?_⟩, ⟨e4, hf⟩, ⟨e5, hx⟩⟩
  · exact congrFun (e _ (by omega) (by omega)) _
  · exact congrFun (e _ (by omega) (by omega)) _
  · exact congrFun (e _ (by omega) (by omega)) _
  · rw [e _ (by omega) (by omega), e _ (by omega) (by omega), e _ (by omega) (by omega)]; exact cn2
set_option maxRecDepth 4000 in
theorem CW.hs {m m1 : Nat → Nat → Int32} {b : Nat} {P A A1 : Nat → Nat → Nat} {H H1 : Nat → Nat → Nat → Nat} {n n1 : Nat} {N : Nat → Nat → Nat} {nn fo x : Nat} (h : CW m b (P, A, H, n, N, nn, fo, x)) (e : ∀ i, b ≤ i → i < b + 183 → i < b + 9 ∨ b + 179 ≤ i → m1 i = m i) (hA : SR P (blk m1 (b + 9)) A1) (hh : A1 0 1 ≤ 999) (hH : HistC P H1 n1 m1 (b + 17)) : CW m1 b (P, A1, H1, n1, N, nn, fo, x) := by
  obtain ⟨cP, ⟨cA, cAh⟩, cH, ⟨cn1, cn2⟩, ⟨cf1, cf2⟩, ⟨cx1, cx2⟩⟩ := h
  refine ⟨cP.congr (fun k _ => ?_) (fun j k _ _ _ => ?_) (fun j k _ _ _ => ?_), ⟨hA, hh⟩, hH, ⟨by rw [e _ (by omega) (by omega) (by omega)]; exact cn1, ?_⟩, ⟨by rw [e _ (by omega) (by omega) (by omega)]; exact cf1, cf2⟩, ⟨by rw [e _ (by omega) (by omega) (by omega)]; exact cx1, cx2⟩⟩
  · exact congrFun (e _ (by omega) (by omega) (by omega)) _
  · exact congrFun (e _ (by omega) (by omega) (by omega)) _
  · exact congrFun (e _ (by omega) (by omega) (by omega)) _
  · rw [e _ (by omega) (by omega) (by omega), e _ (by omega) (by omega) (by omega), e _ (by omega) (by omega) (by omega)]; exact cn2
set_option maxRecDepth 4000 in
theorem CW.nt {m m1 : Nat → Nat → Int32} {b : Nat} {P A : Nat → Nat → Nat} {H : Nat → Nat → Nat → Nat} {n : Nat} {N N1 : Nat → Nat → Nat} {nn nn1 fo x : Nat} (h : CW m b (P, A, H, n, N, nn, fo, x)) (e : ∀ i, b ≤ i → i < b + 179 → m1 i = m i) (e3 : m1 (b + 179) 3 = nI nn1) (hN : NotesOK P N1 (m1 (b + 180)) (m1 (b + 181)) (m1 (b + 182)) nn1) : CW m1 b (P, A, H, n, N1, nn1, fo, x) := by
  obtain ⟨cP, ⟨cA, cAh⟩, cH, ⟨cn1, cn2⟩, ⟨cf1, cf2⟩, ⟨cx1, cx2⟩⟩ := h
  obtain ⟨B0, B1, B2, B3, B4, B5⟩ := cP.bd
  refine ⟨cP.congr (fun k _ => ?_) (fun j k _ _ _ => ?_) (fun j k _ _ _ => ?_), ⟨cA.set (SEq.of (fun j hj => e _ (by omega) (by omega))) B2 B3 B5, cAh⟩, cH.congr B2 B3 B5 (fun i h1 h2 => e i (by omega) (by omega)), ⟨e3, hN⟩, ⟨by rw [e _ (by omega) (by omega)]; exact cf1, cf2⟩, ⟨by rw [e _ (by omega) (by omega)]; exact cx1, cx2⟩⟩
  · exact congrFun (e _ (by omega) (by omega)) _
  · exact congrFun (e _ (by omega) (by omega)) _
  · exact congrFun (e _ (by omega) (by omega)) _
set_option maxRecDepth 4000 in
/-- the PLATEAU's part of a view -/
theorem MW.pl {v v1 : Nat → Nat → Int32} {P : Nat → Nat → Nat} (h : PW (fun j k => v (vp j) k) P) (e0 : ∀ k, k < 5 → v1 0 k = v 0 k) (e : ∀ j k, 9 ≤ j → j < 19 → k < szv j → j < 14 ∨ 17 ≤ j → v1 j k = v j k) : PW (fun j k => v1 (vp j) k) P := by
  refine h.congr e0 ?_ ?_
  · intro j k h1 h2 hk
    rcases (show j = 1 ∨ j = 2 ∨ j = 3 by omega) with x | x | x <;> subst x <;> exact e _ _ (Nat.le_of_ble_eq_true rfl) (Nat.le_of_ble_eq_true rfl) hk (by decide)
  · intro j k h1 h2 hk
    rcases (show j = 4 ∨ j = 5 ∨ j = 6 ∨ j = 7 by omega) with x | x | x | x <;> subst x <;> exact e _ _ (Nat.le_of_ble_eq_true rfl) (Nat.le_of_ble_eq_true rfl) hk (by decide)
set_option maxRecDepth 4000 in
theorem MW.st0 {v v1 : Nat → Nat → Int32} {P A : Nat → Nat → Nat} (h : MS P v A) (hN : P 0 2 ≤ 6) (hM : P 0 3 ≤ 4) (hS : P 0 0 * P 0 0 ≤ 36) (e5 : v1 0 5 = v 0 5) (e6 : v1 0 6 = v 0 6) (e : ∀ j k, 1 ≤ j → j < 8 → k < szv j → v1 j k = v j k) : MS P v1 A := by
  refine h.congr hN hM hS e5 e6 ?_ (fun k hk => e 6 k (by omega) (by omega) hk) (fun k hk => e 7 k (by omega) (by omega) hk)
  intro j k h1 h2 hk
  rcases (show j = 1 ∨ j = 2 ∨ j = 3 ∨ j = 4 ∨ j = 5 by omega) with x | x | x | x | x <;> subst x <;> exact e _ _ (Nat.le_of_ble_eq_true rfl) (Nat.le_of_ble_eq_true rfl) hk
set_option maxRecDepth 4000 in
theorem MW.fx {v v1 : Nat → Nat → Int32} {P A : Nat → Nat → Nat} {H : Nat → Nat → Nat → Nat} {n : Nat} {N : Nat → Nat → Nat} {nn fo x fo1 x1 : Nat} (h : MW v (P, A, H, n, N, nn, fo, x)) (e : ∀ j k, j < 20 → k < szv j → j ≠ 0 ∨ k < 8 → v1 j k = v j k) (e9 : v1 0 9 = fI fo1) (hf : fo1 ≤ 6) (e8 : v1 0 8 = nI x1) (hx : x1 < 2147483648) : MW v1 (P, A, H, n, N, nn, fo1, x1) := by
  obtain ⟨mP, ⟨mA, mAh⟩, ⟨mh1, mh2, mh3⟩, ⟨mn1, mn2⟩, ⟨mf1, mf2⟩, ⟨mx1, mx2⟩⟩ := h
  obtain ⟨B0, B1, B2, B3, B4, B5⟩ := mP.bd
  have e0 : ∀ k, k < 8 → v1 0 k = v 0 k := fun k hk => e 0 k (by omega) (show k < 10 by omega) (.inr hk)
  exact ⟨MW.pl mP (fun k hk => e0 k (by omega)) (fun j k h1 h2 hk _ => e j k (by omega) hk (.inl (by omega))), ⟨MW.st0 mA B2 B3 B5 (e0 5 (by omega)) (e0 6 (by omega)) (fun j k h1 h2 hk => e j k (by omega) hk (.inl (by omega))), mAh⟩, ⟨(e 8 0 (by omega) Nat.one_pos (.inl (by omega))).trans mh1, mh2, fun i hi => ⟨pv_congr (mh3 i hi).1 B2 B3 B5 (fun k hk => e 19 _ (by omega) (by rw [szv_19]; omega) (.inl (by omega))), (mh3 i hi).2⟩⟩, ⟨(e0 7 (by omega)).trans mn1, mn2.congr (fun k hk => e 14 k (by omega) hk (.inl (by omega))) (fun k hk => e 15 k (by omega) hk (.inl (by omega))) (fun k hk => e 16 k (by omega) hk (.inl (by omega)))⟩, ⟨e9, hf⟩, ⟨e8, hx⟩⟩
set_option maxRecDepth 4000 in
theorem MW.hs {v v1 : Nat → Nat → Int32} {P A A1 : Nat → Nat → Nat} {H H1 : Nat → Nat → Nat → Nat} {n n1 : Nat} {N : Nat → Nat → Nat} {nn fo x : Nat} (h : MW v (P, A, H, n, N, nn, fo, x)) (e0 : ∀ k, k < 10 → k ≠ 5 → k ≠ 6 → v1 0 k = v 0 k) (e : ∀ j k, 9 ≤ j → j < 19 → k < szv j → v1 j k = v j k) (hA : MS P v1 A1) (hh : A1 0 1 ≤ 999) (h8 : v1 8 0 = nI n1) (hn : n1 ≤ 20) (hH : ∀ i, i < n1 → MS P (pv v1 (n1 - 1 - i)) (H1 i) ∧ H1 i 0 1 ≤ 999) : MW v1 (P, A1, H1, n1, N, nn, fo, x) := by
  obtain ⟨mP, ⟨mA, mAh⟩, ⟨mh1, mh2, mh3⟩, ⟨mn1, mn2⟩, ⟨mf1, mf2⟩, ⟨mx1, mx2⟩⟩ := h
  exact ⟨MW.pl mP (fun k hk => e0 k (by omega) (by omega) (by omega)) (fun j k h1 h2 hk _ => e j k (by omega) h2 hk), ⟨hA, hh⟩, ⟨h8, hn, hH⟩, ⟨(e0 7 (by omega) (by omega) (by omega)).trans mn1, mn2.congr (fun k hk => e 14 k (by omega) (by omega) hk) (fun k hk => e 15 k (by omega) (by omega) hk) (fun k hk => e 16 k (by omega) (by omega) hk)⟩, ⟨(e0 9 (by omega) (by omega) (by omega)).trans mf1, mf2⟩, ⟨(e0 8 (by omega) (by omega) (by omega)).trans mx1, mx2⟩⟩
set_option maxRecDepth 4000 in
theorem MW.nt {v v1 : Nat → Nat → Int32} {P A : Nat → Nat → Nat} {H : Nat → Nat → Nat → Nat} {n : Nat} {N N1 : Nat → Nat → Nat} {nn nn1 fo x : Nat} (h : MW v (P, A, H, n, N, nn, fo, x)) (e : ∀ j k, j < 20 → k < szv j → (j ≠ 0 ∨ k ≠ 7) → (j < 14 ∨ 17 ≤ j) → v1 j k = v j k) (e7 : v1 0 7 = nI nn1) (hN : NotesOK P N1 (v1 14) (v1 15) (v1 16) nn1) : MW v1 (P, A, H, n, N1, nn1, fo, x) := by
  obtain ⟨mP, ⟨mA, mAh⟩, ⟨mh1, mh2, mh3⟩, ⟨mn1, mn2⟩, ⟨mf1, mf2⟩, ⟨mx1, mx2⟩⟩ := h
  obtain ⟨B0, B1, B2, B3, B4, B5⟩ := mP.bd
  have e0 : ∀ k, k < 10 → k ≠ 7 → v1 0 k = v 0 k := fun k hk h7 => e 0 k (by omega) hk (.inr h7) (by omega)
  exact ⟨MW.pl mP (fun k hk => e0 k (by omega) (by omega)) (fun j k h1 h2 hk h3 => e j k (by omega) hk (.inl (by omega)) h3), ⟨MW.st0 mA B2 B3 B5 (e0 5 (by omega) (by omega)) (e0 6 (by omega) (by omega)) (fun j k h1 h2 hk => e j k (by omega) hk (.inl (by omega)) (by omega)), mAh⟩, ⟨(e 8 0 (by omega) Nat.one_pos (.inl (by omega)) (by omega)).trans mh1, mh2, fun i hi => ⟨pv_congr (mh3 i hi).1 B2 B3 B5 (fun k hk => e 19 _ (by omega) (by rw [szv_19]; omega) (.inl (by omega)) (by omega)), (mh3 i hi).2⟩⟩, ⟨e7, hN⟩, ⟨(e0 9 (by omega) (by omega)).trans mf1, mf2⟩, ⟨(e0 8 (by omega) (by omega)).trans mx1, mx2⟩⟩
set_option maxRecDepth 4000 in
/-- what nv is of -/
theorem nv_lt {m : Nat → Nat → Int32} {j k : Nat} (h : j < 8) : nv m j k = m (997 + j) k := by
  unfold nv
  rw [if_neg (by omega), if_pos h]
set_option maxRecDepth 4000 in
theorem nv_mid {m : Nat → Nat → Int32} {j k : Nat} (h : 8 < j) (h2 : j < 19) : nv m j k = m (996 + j) k := by
  unfold nv
  rw [if_neg (by omega), if_neg (by omega), if_pos h2]
set_option maxRecDepth 4000 in
theorem nv_8 {m : Nat → Nat → Int32} {k : Nat} : nv m 8 k = m 996 50 := rfl
set_option maxRecDepth 4000 in
theorem nv_19 {m : Nat → Nat → Int32} {k : Nat} : nv m 19 k = m 1033 k := rfl
set_option maxRecDepth 4000 in
theorem nv_eq {m m1 : Nat → Nat → Int32} {j k : Nat} (hj : j < 20) (h8 : j = 8 → m1 996 50 = m 996 50) (hl : j < 8 → m1 (997 + j) k = m (997 + j) k) (hm : 8 < j → j < 19 → m1 (996 + j) k = m (996 + j) k) (h19 : j = 19 → m1 1033 k = m 1033 k) : nv m1 j k = nv m j k := by
  unfold nv
  by_cases h : j = 8
  · rw [if_pos h, if_pos h]; exact h8 h
  · rw [if_neg h, if_neg h]
    by_cases h2 : j < 8
    · rw [if_pos h2, if_pos h2]; exact hl h2
    · rw [if_neg h2, if_neg h2]
      by_cases h3 : j < 19
      · rw [if_pos h3, if_pos h3]; exact hm (by omega) h3
      · rw [if_neg h3, if_neg h3]; exact h19 (by omega)
set_option maxRecDepth 4000 in
theorem EX.up {m m1 : Nat → Nat → Int32} (h : EX m) (e : ∀ i, 1041 ≤ i → m1 i = m i) : EX m1 := h.keep (fun j hj => e j (by omega))
set_option maxRecDepth 4000 in
theorem op_seed (x1 : Int32) : OP (F_X11_seed 0 x1) (F_X12_seed 996 x1) := by
  intro m q hI
  obtain ⟨⟨⟨⟨len, by_⟩, ⟨nr, RS⟩, ⟨P, A, H, n, N, nn, fo, x⟩, IM, md⟩, hC, hM⟩, hE⟩ := id hI
  obtain ⟨⟨ct1, ct2, ct3⟩, ⟨cr1, cr2, cr3⟩, ⟨⟨cP, ⟨cA, cAh⟩, cH, ⟨cn1, cn2⟩, ⟨cf1, cf2⟩, ⟨cx1, cx2⟩⟩, cwf⟩, cm1, cm2⟩ := id hC
  obtain ⟨⟨mt1, mt2⟩, ⟨mr1, mr2⟩, ⟨mP, ⟨mA, mAh⟩, ⟨mh1, mh2, mh3⟩, ⟨mn1, mn2⟩, ⟨mf1, mf2⟩, ⟨mx1, mx2⟩⟩, mm1, mm2, mw, ms⟩ := id hM
  have cP5 : m 15 0 = nI (P 0 0) ∧ m 15 1 = nI (P 0 1) ∧ m 15 2 = nI (P 0 2) ∧ m 15 3 = nI (P 0 3) ∧ m 15 4 = nI (P 0 4) := cP.five
  have mP5 : m 997 0 = nI (P 0 0) ∧ m 997 1 = nI (P 0 1) ∧ m 997 2 = nI (P 0 2) ∧ m 997 3 = nI (P 0 3) ∧ m 997 4 = nI (P 0 4) := mP.five
  obtain ⟨B0, B1, B2, B3, B4, B5⟩ := cP.bd
  have c5 : m 14 5 = nI x := cx1
  have d8 : m 997 8 = nI x := mx1
  by_cases h0 : 0 ≤ x1
  · obtain ⟨j, hj, rfl⟩ : ∃ j : Nat, j < 2147483648 ∧ x1 = nI j := by
      have h1 : 0 ≤ x1.toInt := by have := Int32.le_iff_toInt_le.mp h0; simpa using this
      obtain ⟨j, a, b, -⟩ := nI_of0 h1
      exact ⟨j, a, b⟩
    have h0' : nI 0 ≤ nI j := h0
    refine ⟨nI x, mk_u2 m 14 5 (nI j), q, mk_u2 (mk_u2 m 14 5 (nI j)) 997 8 (nI j), q, ?_, ?_, ⟨⟨((len, by_), (nr, RS), (P, A, H, n, N, nn, fo, j), IM, md), ?_, ?_⟩, hE.up ?_⟩, ?_⟩
    · unfold F_X11_seed; simp (disch := omega) only [ob_some, reduceIte, lit, le_T, le_F, lt_T, lt_F, eq_T, eq_F, nI_add, gac_0_0, gac_0_1, gac_0_2, gac_0_3, gac_0_4, gac_0_5, gac_0_6, gac_1_0, gic_1_1, gic_1_2, gic_1_3, gic_1_4, gic_1_5, gic_1_6, gac_3_0, gic_3_1, gic_3_2, gic_3_3, gic_3_4, gic_3_5, gic_3_6, gic_3_7, gic_5_0, gic_5_1, gic_5_2, gic_5_3, gic_5_4, gac_5_5, gac_5_6, gac_5_7, gac_5_8, gac_5_9, gac_5_10, gac_5_11, gac_13_0, gac_13_1, gic_13_2, gac_13_3, gac_13_4, gac_13_5, gac_13_6, gac_13_7, gac_13_8, gac_13_9, gic_13_10, gic_13_11, gic_13_12, gic_13_13, gac_14_0, gac_14_1, gac_14_2, gac_14_3, gic_14_4, gic_14_5, gic_15_0, gic_15_1, gic_15_2, gic_15_3, gic_15_4, gac_15_5, gac_15_6, gac_15_7, gac_15_8, gac_15_9, gac_15_10, gac_15_11, gac_23_0, gac_23_1, gac_23_2, gac_23_3, gac_23_4, gac_23_5, gac_23_6, gic_23_7, gic_23_8, gac_31_0, gic_31_1, gic_31_2, gac_193_0, gac_193_1, gac_193_2, gic_193_3, gac_198_0, gac_200_0, gac_200_1, gac_200_2, gac_200_3, gac_200_4, gac_200_5, gac_200_6, gic_200_7, gic_200_8, pic_1_1, pic_1_2, pic_1_3, pic_1_4, pic_1_5, pic_1_6, pic_3_1, pic_3_2, pic_3_3, pic_3_4, pic_3_5, pic_3_6, pic_3_7, pic_5_0, pic_5_1, pic_5_2, pic_5_3, pic_5_4, pic_13_2, pic_13_10, pic_13_11, pic_13_12, pic_13_13, pic_14_4, pic_14_5, pic_15_0, pic_15_1, pic_15_2, pic_15_3, pic_15_4, pic_23_7, pic_23_8, pic_31_1, pic_31_2, pic_193_3, pic_200_7, pic_200_8, gdc_0, gdc_1, gdc_3, gdc_5, gdc_13, gdc_14, gdc_15, gdc_23, gdc_31, gdc_193, gdc_198, gdc_200, ldc_2, stc_2, ldc_4, stc_4, ldc_6, stc_6, ldc_7, stc_7, ldc_8, stc_8, ldc_9, stc_9, ldc_10, stc_10, ldc_11, stc_11, ldc_12, stc_12, ldc_16, stc_16, ldc_17, stc_17, ldc_18, stc_18, ldc_19, stc_19, ldc_20, stc_20, ldc_21, stc_21, ldc_22, stc_22, ldc_24, stc_24, ldc_25, stc_25, ldc_26, stc_26, ldc_27, stc_27, ldc_28, stc_28, ldc_29, stc_29, ldc_30, stc_30, ldc_194, stc_194, ldc_195, stc_195, ldc_196, stc_196, ldc_199, stc_199, ldc_201, stc_201, ldc_202, stc_202, ldc_203, stc_203, ldc_204, stc_204, ldc_205, stc_205, ldc_206, stc_206, ldc_207, stc_207, ldc_208, stc_208, ldc_209, stc_209, ldc_210, stc_210, ldc_211, stc_211, ldc_213, stc_213, ldc_214, stc_214, ldc_215, stc_215, ldc_216, stc_216, ldc_217, stc_217, ldc_218, stc_218, ldc_219, stc_219, ldc_263, stc_263, lda_197, lda_262, lda_212, lda_32, u2_s, u2_a, u2_b, h0', c5]
    · unfold F_X12_seed; simp (disch := omega) only [gdm, gam_1, gam_2, gam_3, gam_4, gam_5, gam_6, gam_7, gam_8, gam_9, gam_10, gam_11, gam_12, gam_13, gam_14, gam_15, gam_16, gam_17, gam_18, gam_19, gam_20, gam_21, gam_22, gam_23, gam_24, gam_25, gam_26, gam_37, gam_38, gam_39, gam_40, gam_41, gam_42, gam_43, gam_44, gam_45, gam_46, gam_48, gam_49, gam_56, gam_57, gam_58, gam_59, gam_60, gam_61, gim_27, gim_28, gim_29, gim_30, gim_31, gim_32, gim_33, gim_34, gim_35, gim_36, gim_47, gim_50, gim_51, gim_52, gim_53, gim_54, gim_55, gim_62, gim_63, ob_some, reduceIte, lit, le_T, le_F, lt_T, lt_F, eq_T, eq_F, nI_add, ldm_997, stm_997, ldm_998, stm_998, ldm_999, stm_999, ldm_1000, stm_1000, ldm_1001, stm_1001, ldm_1002, stm_1002, ldm_1003, stm_1003, ldm_1004, stm_1004, ldm_1005, stm_1005, ldm_1006, stm_1006, ldm_1007, stm_1007, ldm_1008, stm_1008, ldm_1009, stm_1009, ldm_1010, stm_1010, ldm_1011, stm_1011, ldm_1012, stm_1012, ldm_1013, stm_1013, ldm_1014, stm_1014, ldm_1015, stm_1015, ldm_1016, stm_1016, ldm_1017, stm_1017, ldm_1018, stm_1018, ldm_1019, stm_1019, ldm_1020, stm_1020, ldm_1021, stm_1021, ldm_1022, stm_1022, u2_s, u2_a, u2_b, not_true, not_false_iff, h0', d8]
    · have e : ∀ i, i ≠ 14 → i ≠ 997 → mk_u2 (mk_u2 m 14 5 (nI j)) 997 8 (nI j) i = m i := fun i h1 h2 => by rw [mk_u2_ne h2, mk_u2_ne h1]
      refine CI.now (W := (P, A, H, n, N, nn, fo, x)) (m := m) hC ?_ cwf (by rw [e _ (by omega) (by omega)]) (e _ (by omega) (by omega)) (by rw [e _ (by omega) (by omega)]) (fun i _ _ => e i (by omega) (by omega)) (fun i _ _ => e i (by omega) (by omega))
      exact CW.fx (m := m) ⟨cP, ⟨cA, cAh⟩, cH, ⟨cn1, cn2⟩, ⟨cf1, cf2⟩, ⟨cx1, cx2⟩⟩ (fun i h1 h2 => e i (by omega) (by omega)) (by rw [u2_a (by omega), u2_b (by omega)]; exact cf1) cf2 (by rw [u2_a (by omega), u2_s]) hj
    · have e : ∀ i, i ≠ 14 → i ≠ 997 → mk_u2 (mk_u2 m 14 5 (nI j)) 997 8 (nI j) i = m i := fun i h1 h2 => by rw [mk_u2_ne h2, mk_u2_ne h1]
      refine MI.now (W := (P, A, H, n, N, nn, fo, x)) (m := m) hM ?_ (by rw [e _ (by omega) (by omega)]) (by rw [e _ (by omega) (by omega)]) (by rw [e _ (by omega) (by omega)]) (by rw [e _ (by omega) (by omega)]) (fun i _ _ => e i (by omega) (by omega)) (fun k _ => by rw [e _ (by omega) (by omega)]) (e _ (by omega) (by omega))
      refine MW.fx (v := nv m) (fo := fo) (x := x) ⟨mP, ⟨mA, mAh⟩, ⟨mh1, mh2, mh3⟩, ⟨mn1, mn2⟩, ⟨mf1, mf2⟩, ⟨mx1, mx2⟩⟩ ?_ ?_ mf2 ?_ hj
      · intro j k hj hk h
        refine nv_eq hj (fun _ => by rw [e _ (by omega) (by omega)]) (fun _ => ?_) (fun _ _ => by rw [e _ (by omega) (by omega)]) (fun _ => by rw [e _ (by omega) (by omega)])
        rcases h with h | h
        · rw [e _ (by omega) (by omega)]
        · rw [u2_b (by omega), u2_a (by omega)]
      · show mk_u2 (mk_u2 m 14 5 (nI j)) 997 8 (nI j) 997 9 = _
        rw [u2_b (by omega), u2_a (by omega)]; exact mf1
      · show mk_u2 (mk_u2 m 14 5 (nI j)) 997 8 (nI j) 997 8 = _
        exact u2_s
    · intro i hi; rw [mk_u2_ne (by omega), mk_u2_ne (by omega)]
    · intro i hi; rw [mk_u2_ne (by omega), mk_u2_ne (by omega)]
  · have h0' : ¬ nI 0 ≤ x1 := h0
    refine ⟨-nI 1, m, q, m, q, ?_, ?_, hI, fun _ _ => rfl⟩
    · unfold F_X11_seed; simp (disch := omega) only [ob_some, reduceIte, lit, le_T, le_F, lt_T, lt_F, eq_T, eq_F, nI_add, gac_0_0, gac_0_1, gac_0_2, gac_0_3, gac_0_4, gac_0_5, gac_0_6, gac_1_0, gic_1_1, gic_1_2, gic_1_3, gic_1_4, gic_1_5, gic_1_6, gac_3_0, gic_3_1, gic_3_2, gic_3_3, gic_3_4, gic_3_5, gic_3_6, gic_3_7, gic_5_0, gic_5_1, gic_5_2, gic_5_3, gic_5_4, gac_5_5, gac_5_6, gac_5_7, gac_5_8, gac_5_9, gac_5_10, gac_5_11, gac_13_0, gac_13_1, gic_13_2, gac_13_3, gac_13_4, gac_13_5, gac_13_6, gac_13_7, gac_13_8, gac_13_9, gic_13_10, gic_13_11, gic_13_12, gic_13_13, gac_14_0, gac_14_1, gac_14_2, gac_14_3, gic_14_4, gic_14_5, gic_15_0, gic_15_1, gic_15_2, gic_15_3, gic_15_4, gac_15_5, gac_15_6, gac_15_7, gac_15_8, gac_15_9, gac_15_10, gac_15_11, gac_23_0, gac_23_1, gac_23_2, gac_23_3, gac_23_4, gac_23_5, gac_23_6, gic_23_7, gic_23_8, gac_31_0, gic_31_1, gic_31_2, gac_193_0, gac_193_1, gac_193_2, gic_193_3, gac_198_0, gac_200_0, gac_200_1, gac_200_2, gac_200_3, gac_200_4, gac_200_5, gac_200_6, gic_200_7, gic_200_8, pic_1_1, pic_1_2, pic_1_3, pic_1_4, pic_1_5, pic_1_6, pic_3_1, pic_3_2, pic_3_3, pic_3_4, pic_3_5, pic_3_6, pic_3_7, pic_5_0, pic_5_1, pic_5_2, pic_5_3, pic_5_4, pic_13_2, pic_13_10, pic_13_11, pic_13_12, pic_13_13, pic_14_4, pic_14_5, pic_15_0, pic_15_1, pic_15_2, pic_15_3, pic_15_4, pic_23_7, pic_23_8, pic_31_1, pic_31_2, pic_193_3, pic_200_7, pic_200_8, gdc_0, gdc_1, gdc_3, gdc_5, gdc_13, gdc_14, gdc_15, gdc_23, gdc_31, gdc_193, gdc_198, gdc_200, ldc_2, stc_2, ldc_4, stc_4, ldc_6, stc_6, ldc_7, stc_7, ldc_8, stc_8, ldc_9, stc_9, ldc_10, stc_10, ldc_11, stc_11, ldc_12, stc_12, ldc_16, stc_16, ldc_17, stc_17, ldc_18, stc_18, ldc_19, stc_19, ldc_20, stc_20, ldc_21, stc_21, ldc_22, stc_22, ldc_24, stc_24, ldc_25, stc_25, ldc_26, stc_26, ldc_27, stc_27, ldc_28, stc_28, ldc_29, stc_29, ldc_30, stc_30, ldc_194, stc_194, ldc_195, stc_195, ldc_196, stc_196, ldc_199, stc_199, ldc_201, stc_201, ldc_202, stc_202, ldc_203, stc_203, ldc_204, stc_204, ldc_205, stc_205, ldc_206, stc_206, ldc_207, stc_207, ldc_208, stc_208, ldc_209, stc_209, ldc_210, stc_210, ldc_211, stc_211, ldc_213, stc_213, ldc_214, stc_214, ldc_215, stc_215, ldc_216, stc_216, ldc_217, stc_217, ldc_218, stc_218, ldc_219, stc_219, ldc_263, stc_263, lda_197, lda_262, lda_212, lda_32, u2_s, u2_a, u2_b, h0']
    · unfold F_X12_seed; simp (disch := omega) only [gdm, gam_1, gam_2, gam_3, gam_4, gam_5, gam_6, gam_7, gam_8, gam_9, gam_10, gam_11, gam_12, gam_13, gam_14, gam_15, gam_16, gam_17, gam_18, gam_19, gam_20, gam_21, gam_22, gam_23, gam_24, gam_25, gam_26, gam_37, gam_38, gam_39, gam_40, gam_41, gam_42, gam_43, gam_44, gam_45, gam_46, gam_48, gam_49, gam_56, gam_57, gam_58, gam_59, gam_60, gam_61, gim_27, gim_28, gim_29, gim_30, gim_31, gim_32, gim_33, gim_34, gim_35, gim_36, gim_47, gim_50, gim_51, gim_52, gim_53, gim_54, gim_55, gim_62, gim_63, ob_some, reduceIte, lit, le_T, le_F, lt_T, lt_F, eq_T, eq_F, nI_add, ldm_997, stm_997, ldm_998, stm_998, ldm_999, stm_999, ldm_1000, stm_1000, ldm_1001, stm_1001, ldm_1002, stm_1002, ldm_1003, stm_1003, ldm_1004, stm_1004, ldm_1005, stm_1005, ldm_1006, stm_1006, ldm_1007, stm_1007, ldm_1008, stm_1008, ldm_1009, stm_1009, ldm_1010, stm_1010, ldm_1011, stm_1011, ldm_1012, stm_1012, ldm_1013, stm_1013, ldm_1014, stm_1014, ldm_1015, stm_1015, ldm_1016, stm_1016, ldm_1017, stm_1017, ldm_1018, stm_1018, ldm_1019, stm_1019, ldm_1020, stm_1020, ldm_1021, stm_1021, ldm_1022, stm_1022, u2_s, u2_a, u2_b, not_true, not_false_iff, h0']
set_option maxRecDepth 4000 in
theorem within_Cm (x : Int32) (N : Nat) (hN : N < 2147483648) : x = -nI 1 ∨ (∃ j, j < N ∧ x = nI j) ∨ ∀ t, F_X11_within x (-nI 1) (nI N - nI 1) t = some (nI 0, t) := by
  by_cases h0 : 0 ≤ x.toInt
  · rcases within_C x 0 N hN (by omega) with ⟨j, -, h, e⟩ | h
    · exact .inr (.inl ⟨j, h, e⟩)
    · obtain ⟨j, hj, rfl, -⟩ := nI_of0 h0
      refine .inr (.inr (fun t => ?_))
      have e := h t
      unfold F_X11_within B_X11_within_14 at e ⊢
      have e1 : (nI j < -nI 1) = False := m1_lt hj
      simp (disch := omega) only [lt_F, reduceIte, lit] at e
      simp only [e1, reduceIte]
      exact e
  · by_cases h1 : x = -nI 1
    · exact .inl h1
    · refine .inr (.inr (fun t => ?_))
      unfold F_X11_within B_X11_within_14
      have e1 : (x < -nI 1) = True := eq_true (by
        rw [Int32.lt_iff_toInt_lt]
        have h2 : x.toInt ≠ (-nI 1).toInt := fun h => h1 (Int32.toInt_inj.mp h)
        have h3 : (-nI 1).toInt = -1 := by decide
        omega)
      simp only [e1, reduceIte, lit, rz0]
set_option maxRecDepth 4000 in
theorem within_m1 {N : Nat} (hN : N < 2147483648) (t : mk_S) : F_X11_within (-nI 1) (-nI 1) (nI N - nI 1) t = some (nI 1, t) := by
  unfold F_X11_within
  have e1 : ((-nI 1 : Int32) < -nI 1) = False := eq_false (by decide)
  have e2 : (nI N - nI 1 < -nI 1) = False := by
    rcases Nat.eq_zero_or_pos N with e | e
    · subst e; exact eq_false (by decide)
    · rw [sub1 e]; exact m1_lt (by omega)
  simp only [e1, e2, reduceIte, lit, rz1]
set_option maxRecDepth 4000 in
theorem within_mT {j N : Nat} (h : j < N) (hN : N < 2147483648) (t : mk_S) : F_X11_within (nI j) (-nI 1) (nI N - nI 1) t = some (nI 1, t) := by
  have e := within_T (lo := 0) (Nat.zero_le j) h hN t
  unfold F_X11_within at e ⊢
  have e1 : (nI j < -nI 1) = False := m1_lt (by omega)
  simp (disch := omega) only [lt_F, reduceIte, lit] at e
  simp only [e1, reduceIte]
  exact e
set_option maxRecDepth 4000 in
theorem force_set {m : Nat → Nat → Int32} {q : Nat → Nat → Int64} {x1 : Int32} {f1 : Nat} (hx : x1 = fI f1) (hI : Inv m) (hf : ∀ s, CI s m → f1 ≤ s.2.1.1) (hwC : ∀ nr q, nr ≤ 6 → f1 ≤ nr → F_X11_within x1 (-nI 1) (nI nr - nI 1) (KS, m, q) = some (nI 1, (KS, m, q))) (hw2 : ∀ nr m q, nr ≤ 6 → f1 ≤ nr → F_X11_within x1 (-nI 1) (nI nr - nI 1) (KS, m, q) = some (nI 1, (KS, m, q))) : ∃ a m1 q1 m2 q2, F_X11_force 0 x1 (KS, m, q) = some (a, (KS, m1, q1)) ∧ F_X12_force 996 x1 (KS, m1, q1) = some (a, (KS, m2, q2)) ∧ Inv m2 ∧ ∀ i, 1041 ≤ i → m2 i = m i := by
  obtain ⟨⟨⟨⟨len, by_⟩, ⟨nr, RS⟩, ⟨P, A, H, n, N, nn, fo, x⟩, IM, md⟩, hC, hM⟩, hE⟩ := id hI
  obtain ⟨⟨ct1, ct2, ct3⟩, ⟨cr1, cr2, cr3⟩, ⟨⟨cP, ⟨cA, cAh⟩, cH, ⟨cn1, cn2⟩, ⟨cf1, cf2⟩, ⟨cx1, cx2⟩⟩, cwf⟩, cm1, cm2⟩ := id hC
  obtain ⟨⟨mt1, mt2⟩, ⟨mr1, mr2⟩, ⟨mP, ⟨mA, mAh⟩, ⟨mh1, mh2, mh3⟩, ⟨mn1, mn2⟩, ⟨mf1, mf2⟩, ⟨mx1, mx2⟩⟩, mm1, mm2, mw, ms⟩ := id hM
  have hfr : f1 ≤ nr := hf _ hC
  have c4 : m 14 4 = fI fo := cf1
  have d9 : m 997 9 = fI fo := mf1
  have e : ∀ i, i ≠ 14 → i ≠ 997 → mk_u2 (mk_u2 m 14 4 x1) 997 9 x1 i = m i := fun i h1 h2 => by rw [mk_u2_ne h2, mk_u2_ne h1]
  refine ⟨fI fo, mk_u2 m 14 4 x1, q, mk_u2 (mk_u2 m 14 4 x1) 997 9 x1, q, ?_, ?_, ⟨⟨((len, by_), (nr, RS), (P, A, H, n, N, nn, f1, x), IM, md), ?_, ?_⟩, hE.up ?_⟩, ?_⟩
  · unfold F_X11_force; simp (disch := omega) only [ob_some, reduceIte, lit, le_T, le_F, lt_T, lt_F, eq_T, eq_F, nI_add, gac_0_0, gac_0_1, gac_0_2, gac_0_3, gac_0_4, gac_0_5, gac_0_6, gac_1_0, gic_1_1, gic_1_2, gic_1_3, gic_1_4, gic_1_5, gic_1_6, gac_3_0, gic_3_1, gic_3_2, gic_3_3, gic_3_4, gic_3_5, gic_3_6, gic_3_7, gic_5_0, gic_5_1, gic_5_2, gic_5_3, gic_5_4, gac_5_5, gac_5_6, gac_5_7, gac_5_8, gac_5_9, gac_5_10, gac_5_11, gac_13_0, gac_13_1, gic_13_2, gac_13_3, gac_13_4, gac_13_5, gac_13_6, gac_13_7, gac_13_8, gac_13_9, gic_13_10, gic_13_11, gic_13_12, gic_13_13, gac_14_0, gac_14_1, gac_14_2, gac_14_3, gic_14_4, gic_14_5, gic_15_0, gic_15_1, gic_15_2, gic_15_3, gic_15_4, gac_15_5, gac_15_6, gac_15_7, gac_15_8, gac_15_9, gac_15_10, gac_15_11, gac_23_0, gac_23_1, gac_23_2, gac_23_3, gac_23_4, gac_23_5, gac_23_6, gic_23_7, gic_23_8, gac_31_0, gic_31_1, gic_31_2, gac_193_0, gac_193_1, gac_193_2, gic_193_3, gac_198_0, gac_200_0, gac_200_1, gac_200_2, gac_200_3, gac_200_4, gac_200_5, gac_200_6, gic_200_7, gic_200_8, pic_1_1, pic_1_2, pic_1_3, pic_1_4, pic_1_5, pic_1_6, pic_3_1, pic_3_2, pic_3_3, pic_3_4, pic_3_5, pic_3_6, pic_3_7, pic_5_0, pic_5_1, pic_5_2, pic_5_3, pic_5_4, pic_13_2, pic_13_10, pic_13_11, pic_13_12, pic_13_13, pic_14_4, pic_14_5, pic_15_0, pic_15_1, pic_15_2, pic_15_3, pic_15_4, pic_23_7, pic_23_8, pic_31_1, pic_31_2, pic_193_3, pic_200_7, pic_200_8, gdc_0, gdc_1, gdc_3, gdc_5, gdc_13, gdc_14, gdc_15, gdc_23, gdc_31, gdc_193, gdc_198, gdc_200, ldc_2, stc_2, ldc_4, stc_4, ldc_6, stc_6, ldc_7, stc_7, ldc_8, stc_8, ldc_9, stc_9, ldc_10, stc_10, ldc_11, stc_11, ldc_12, stc_12, ldc_16, stc_16, ldc_17, stc_17, ldc_18, stc_18, ldc_19, stc_19, ldc_20, stc_20, ldc_21, stc_21, ldc_22, stc_22, ldc_24, stc_24, ldc_25, stc_25, ldc_26, stc_26, ldc_27, stc_27, ldc_28, stc_28, ldc_29, stc_29, ldc_30, stc_30, ldc_194, stc_194, ldc_195, stc_195, ldc_196, stc_196, ldc_199, stc_199, ldc_201, stc_201, ldc_202, stc_202, ldc_203, stc_203, ldc_204, stc_204, ldc_205, stc_205, ldc_206, stc_206, ldc_207, stc_207, ldc_208, stc_208, ldc_209, stc_209, ldc_210, stc_210, ldc_211, stc_211, ldc_213, stc_213, ldc_214, stc_214, ldc_215, stc_215, ldc_216, stc_216, ldc_217, stc_217, ldc_218, stc_218, ldc_219, stc_219, ldc_263, stc_263, lda_197, lda_262, lda_212, lda_32, u2_s, u2_a, u2_b, hw2 nr m q cr2 hfr, cr1, c4]
  · unfold F_X12_force; simp (disch := omega) only [gdm, gam_1, gam_2, gam_3, gam_4, gam_5, gam_6, gam_7, gam_8, gam_9, gam_10, gam_11, gam_12, gam_13, gam_14, gam_15, gam_16, gam_17, gam_18, gam_19, gam_20, gam_21, gam_22, gam_23, gam_24, gam_25, gam_26, gam_37, gam_38, gam_39, gam_40, gam_41, gam_42, gam_43, gam_44, gam_45, gam_46, gam_48, gam_49, gam_56, gam_57, gam_58, gam_59, gam_60, gam_61, gim_27, gim_28, gim_29, gim_30, gim_31, gim_32, gim_33, gim_34, gim_35, gim_36, gim_47, gim_50, gim_51, gim_52, gim_53, gim_54, gim_55, gim_62, gim_63, ob_some, reduceIte, lit, le_T, le_F, lt_T, lt_F, eq_T, eq_F, nI_add, ldm_997, stm_997, ldm_998, stm_998, ldm_999, stm_999, ldm_1000, stm_1000, ldm_1001, stm_1001, ldm_1002, stm_1002, ldm_1003, stm_1003, ldm_1004, stm_1004, ldm_1005, stm_1005, ldm_1006, stm_1006, ldm_1007, stm_1007, ldm_1008, stm_1008, ldm_1009, stm_1009, ldm_1010, stm_1010, ldm_1011, stm_1011, ldm_1012, stm_1012, ldm_1013, stm_1013, ldm_1014, stm_1014, ldm_1015, stm_1015, ldm_1016, stm_1016, ldm_1017, stm_1017, ldm_1018, stm_1018, ldm_1019, stm_1019, ldm_1020, stm_1020, ldm_1021, stm_1021, ldm_1022, stm_1022, u2_s, u2_a, u2_b, not_true, not_false_iff, in_mb, hw2 nr _ q cr2 hfr, mr1, d9]
  · refine CI.now (W := (P, A, H, n, N, nn, fo, x)) (m := m) hC ?_ hfr (by rw [e _ (by omega) (by omega)]) (e _ (by omega) (by omega)) (by rw [e _ (by omega) (by omega)]) (fun i _ _ => e i (by omega) (by omega)) (fun i _ _ => e i (by omega) (by omega))
    exact CW.fx (m := m) ⟨cP, ⟨cA, cAh⟩, cH, ⟨cn1, cn2⟩, ⟨cf1, cf2⟩, ⟨cx1, cx2⟩⟩ (fun i h1 h2 => e i (by omega) (by omega)) (by rw [u2_a (by omega), u2_s]; exact hx) (by omega) (by rw [u2_a (by omega), u2_b (by omega)]; exact cx1) cx2
  · refine MI.now (W := (P, A, H, n, N, nn, fo, x)) (m := m) hM ?_ (by rw [e _ (by omega) (by omega)]) (by rw [e _ (by omega) (by omega)]) (by rw [e _ (by omega) (by omega)]) (by rw [e _ (by omega) (by omega)]) (fun i _ _ => e i (by omega) (by omega)) (fun k _ => by rw [e _ (by omega) (by omega)]) (e _ (by omega) (by omega))
    refine MW.fx (v := nv m) (fo := fo) (x := x) ⟨mP, ⟨mA, mAh⟩, ⟨mh1, mh2, mh3⟩, ⟨mn1, mn2⟩, ⟨mf1, mf2⟩, ⟨mx1, mx2⟩⟩ ?_ ?_ (by omega) ?_ mx2
    · intro j k hj hk h
      refine nv_eq hj (fun _ => by rw [e _ (by omega) (by omega)]) (fun _ => ?_) (fun _ _ => by rw [e _ (by omega) (by omega)]) (fun _ => by rw [e _ (by omega) (by omega)])
      rcases h with h | h
      · rw [e _ (by omega) (by omega)]
      · rw [u2_b (by omega), u2_a (by omega)]
    · show mk_u2 (mk_u2 m 14 4 x1) 997 9 x1 997 9 = _
      rw [u2_s]; exact hx
    · show mk_u2 (mk_u2 m 14 4 x1) 997 9 x1 997 8 = _
      rw [u2_b (by omega), u2_a (by omega)]; exact mx1
  · intro i hi; rw [mk_u2_ne (by omega), mk_u2_ne (by omega)]
  · intro i hi; rw [mk_u2_ne (by omega), mk_u2_ne (by omega)]
set_option maxRecDepth 4000 in
theorem op_force (x1 : Int32) : OP (F_X11_force 0 x1) (F_X12_force 996 x1) := by
  intro m q hI
  obtain ⟨⟨⟨⟨len, by_⟩, ⟨nr, RS⟩, ⟨P, A, H, n, N, nn, fo, x⟩, IM, md⟩, hC, hM⟩, hE⟩ := id hI
  obtain ⟨⟨ct1, ct2, ct3⟩, ⟨cr1, cr2, cr3⟩, ⟨⟨cP, ⟨cA, cAh⟩, cH, ⟨cn1, cn2⟩, ⟨cf1, cf2⟩, ⟨cx1, cx2⟩⟩, cwf⟩, cm1, cm2⟩ := id hC
  obtain ⟨⟨mt1, mt2⟩, ⟨mr1, mr2⟩, ⟨mP, ⟨mA, mAh⟩, ⟨mh1, mh2, mh3⟩, ⟨mn1, mn2⟩, ⟨mf1, mf2⟩, ⟨mx1, mx2⟩⟩, mm1, mm2, mw, ms⟩ := id hM
  have cP5 : m 15 0 = nI (P 0 0) ∧ m 15 1 = nI (P 0 1) ∧ m 15 2 = nI (P 0 2) ∧ m 15 3 = nI (P 0 3) ∧ m 15 4 = nI (P 0 4) := cP.five
  have mP5 : m 997 0 = nI (P 0 0) ∧ m 997 1 = nI (P 0 1) ∧ m 997 2 = nI (P 0 2) ∧ m 997 3 = nI (P 0 3) ∧ m 997 4 = nI (P 0 4) := mP.five
  obtain ⟨B0, B1, B2, B3, B4, B5⟩ := cP.bd
  rcases within_Cm x1 nr (by omega) with rfl | ⟨j, hj, rfl⟩ | hno
  · exact force_set (f1 := 0) rfl hI (fun _ _ => Nat.zero_le _) (fun nr q _ _ => within_m1 (by omega) _) (fun nr m q _ _ => within_m1 (by omega) _)
  · by_cases hall : ∀ s, CI s m → j + 1 ≤ s.2.1.1
    · exact force_set (f1 := j + 1) rfl hI hall (fun nr q _ h => within_mT (by omega) (by omega) _) (fun nr m q _ h => within_mT (by omega) (by omega) _)
    · exfalso
      apply hall
      rintro ⟨⟨len2, by2⟩, ⟨nr2, RS2⟩, W2, IM2, md2⟩ ⟨-, ⟨h1, h2, -⟩, -⟩
      have h3 : nI nr2 = nI nr := h1.symm.trans cr1
      have := (nI_eq (by omega) (by omega)).mp h3
      show j + 1 ≤ nr2
      omega
  · refine ⟨-nI 2, m, q, m, q, ?_, ?_, hI, fun _ _ => rfl⟩
    · unfold F_X11_force; simp (disch := omega) only [ob_some, reduceIte, lit, le_T, le_F, lt_T, lt_F, eq_T, eq_F, nI_add, gac_0_0, gac_0_1, gac_0_2, gac_0_3, gac_0_4, gac_0_5, gac_0_6, gac_1_0, gic_1_1, gic_1_2, gic_1_3, gic_1_4, gic_1_5, gic_1_6, gac_3_0, gic_3_1, gic_3_2, gic_3_3, gic_3_4, gic_3_5, gic_3_6, gic_3_7, gic_5_0, gic_5_1, gic_5_2, gic_5_3, gic_5_4, gac_5_5, gac_5_6, gac_5_7, gac_5_8, gac_5_9, gac_5_10, gac_5_11, gac_13_0, gac_13_1, gic_13_2, gac_13_3, gac_13_4, gac_13_5, gac_13_6, gac_13_7, gac_13_8, gac_13_9, gic_13_10, gic_13_11, gic_13_12, gic_13_13, gac_14_0, gac_14_1, gac_14_2, gac_14_3, gic_14_4, gic_14_5, gic_15_0, gic_15_1, gic_15_2, gic_15_3, gic_15_4, gac_15_5, gac_15_6, gac_15_7, gac_15_8, gac_15_9, gac_15_10, gac_15_11, gac_23_0, gac_23_1, gac_23_2, gac_23_3, gac_23_4, gac_23_5, gac_23_6, gic_23_7, gic_23_8, gac_31_0, gic_31_1, gic_31_2, gac_193_0, gac_193_1, gac_193_2, gic_193_3, gac_198_0, gac_200_0, gac_200_1, gac_200_2, gac_200_3, gac_200_4, gac_200_5, gac_200_6, gic_200_7, gic_200_8, pic_1_1, pic_1_2, pic_1_3, pic_1_4, pic_1_5, pic_1_6, pic_3_1, pic_3_2, pic_3_3, pic_3_4, pic_3_5, pic_3_6, pic_3_7, pic_5_0, pic_5_1, pic_5_2, pic_5_3, pic_5_4, pic_13_2, pic_13_10, pic_13_11, pic_13_12, pic_13_13, pic_14_4, pic_14_5, pic_15_0, pic_15_1, pic_15_2, pic_15_3, pic_15_4, pic_23_7, pic_23_8, pic_31_1, pic_31_2, pic_193_3, pic_200_7, pic_200_8, gdc_0, gdc_1, gdc_3, gdc_5, gdc_13, gdc_14, gdc_15, gdc_23, gdc_31, gdc_193, gdc_198, gdc_200, ldc_2, stc_2, ldc_4, stc_4, ldc_6, stc_6, ldc_7, stc_7, ldc_8, stc_8, ldc_9, stc_9, ldc_10, stc_10, ldc_11, stc_11, ldc_12, stc_12, ldc_16, stc_16, ldc_17, stc_17, ldc_18, stc_18, ldc_19, stc_19, ldc_20, stc_20, ldc_21, stc_21, ldc_22, stc_22, ldc_24, stc_24, ldc_25, stc_25, ldc_26, stc_26, ldc_27, stc_27, ldc_28, stc_28, ldc_29, stc_29, ldc_30, stc_30, ldc_194, stc_194, ldc_195, stc_195, ldc_196, stc_196, ldc_199, stc_199, ldc_201, stc_201, ldc_202, stc_202, ldc_203, stc_203, ldc_204, stc_204, ldc_205, stc_205, ldc_206, stc_206, ldc_207, stc_207, ldc_208, stc_208, ldc_209, stc_209, ldc_210, stc_210, ldc_211, stc_211, ldc_213, stc_213, ldc_214, stc_214, ldc_215, stc_215, ldc_216, stc_216, ldc_217, stc_217, ldc_218, stc_218, ldc_219, stc_219, ldc_263, stc_263, lda_197, lda_262, lda_212, lda_32, u2_s, u2_a, u2_b, cr1, hno]
    · unfold F_X12_force; simp (disch := omega) only [gdm, gam_1, gam_2, gam_3, gam_4, gam_5, gam_6, gam_7, gam_8, gam_9, gam_10, gam_11, gam_12, gam_13, gam_14, gam_15, gam_16, gam_17, gam_18, gam_19, gam_20, gam_21, gam_22, gam_23, gam_24, gam_25, gam_26, gam_37, gam_38, gam_39, gam_40, gam_41, gam_42, gam_43, gam_44, gam_45, gam_46, gam_48, gam_49, gam_56, gam_57, gam_58, gam_59, gam_60, gam_61, gim_27, gim_28, gim_29, gim_30, gim_31, gim_32, gim_33, gim_34, gim_35, gim_36, gim_47, gim_50, gim_51, gim_52, gim_53, gim_54, gim_55, gim_62, gim_63, ob_some, reduceIte, lit, le_T, le_F, lt_T, lt_F, eq_T, eq_F, nI_add, ldm_997, stm_997, ldm_998, stm_998, ldm_999, stm_999, ldm_1000, stm_1000, ldm_1001, stm_1001, ldm_1002, stm_1002, ldm_1003, stm_1003, ldm_1004, stm_1004, ldm_1005, stm_1005, ldm_1006, stm_1006, ldm_1007, stm_1007, ldm_1008, stm_1008, ldm_1009, stm_1009, ldm_1010, stm_1010, ldm_1011, stm_1011, ldm_1012, stm_1012, ldm_1013, stm_1013, ldm_1014, stm_1014, ldm_1015, stm_1015, ldm_1016, stm_1016, ldm_1017, stm_1017, ldm_1018, stm_1018, ldm_1019, stm_1019, ldm_1020, stm_1020, ldm_1021, stm_1021, ldm_1022, stm_1022, u2_s, u2_a, u2_b, not_true, not_false_iff, in_mb, mr1, hno]
