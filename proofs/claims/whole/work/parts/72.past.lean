/-! the past of the reference -/
set_option maxRecDepth 4000 in
theorem moves_ok {m : Nat → Nat → Int32} {q : Nat → Nat → Int64} {v : Int32} {p tb : Nat} (h52 : m 996 52 = nI tb) (ht : tb < 2) (h51 : m 996 51 = nI p) (hp : p < 1440) : F_X12_moves 996 v (KS, m, q) = some (if tb = 1 then m 1033 p else v, (KS, mk_u2 (mk_u2 m 1033 p (if tb = 1 then m 1033 p else v)) 996 51 (nI (p + 1)), q)) := by
  unfold F_X12_moves B_X12_moves_20
  rcases (show tb = 0 ∨ tb = 1 by omega) with e | e <;> subst e <;> simp (disch := omega) only [gdm, gam_1, gam_2, gam_3, gam_4, gam_5, gam_6, gam_7, gam_8, gam_9, gam_10, gam_11, gam_12, gam_13, gam_14, gam_15, gam_16, gam_17, gam_18, gam_19, gam_20, gam_21, gam_22, gam_23, gam_24, gam_25, gam_26, gam_37, gam_38, gam_39, gam_40, gam_41, gam_42, gam_43, gam_44, gam_45, gam_46, gam_48, gam_49, gam_56, gam_57, gam_58, gam_59, gam_60, gam_61, gim_27, gim_28, gim_29, gim_30, gim_31, gim_32, gim_33, gim_34, gim_35, gim_36, gim_47, gim_50, gim_51, gim_52, gim_53, gim_54, gim_55, gim_62, gim_63, ob_some, reduceIte, lit, le_T, le_F, lt_T, lt_F, eq_T, eq_F, nI_add, ldm_997, stm_997, ldm_998, stm_998, ldm_999, stm_999, ldm_1000, stm_1000, ldm_1001, stm_1001, ldm_1002, stm_1002, ldm_1003, stm_1003, ldm_1004, stm_1004, ldm_1005, stm_1005, ldm_1006, stm_1006, ldm_1007, stm_1007, ldm_1008, stm_1008, ldm_1009, stm_1009, ldm_1010, stm_1010, ldm_1011, stm_1011, ldm_1012, stm_1012, ldm_1013, stm_1013, ldm_1014, stm_1014, ldm_1015, stm_1015, ldm_1016, stm_1016, ldm_1017, stm_1017, ldm_1018, stm_1018, ldm_1019, stm_1019, ldm_1020, stm_1020, ldm_1021, stm_1021, ldm_1022, stm_1022, u2_s, u2_a, u2_b, not_true, not_false_iff, pim_27, pim_28, pim_29, pim_30, pim_31, pim_32, pim_33, pim_34, pim_35, pim_36, pim_47, pim_50, pim_51, pim_52, pim_53, pim_54, pim_55, pim_62, pim_63, ldm_1033, stm_1033, h52, h51] <;> rfl
set_option maxRecDepth 4000 in
theorem movesRow_ok {q : Nat → Nat → Int64} {a L p tb : Nat} (m0 : Nat → Nat → Int32) (hK : KS[a]? = some (100, L, [])) (ha : a ≠ 996) (ha3 : a ≠ 1033) (ha2 : a < 2000) (hL : L ≤ 36) (h52 : m0 996 52 = nI tb) (ht : tb < 2) (h51 : m0 996 51 = nI p) (hp : p + L ≤ 1440) :
    ∃ m1, F_X12_movesRow 996 a (KS, m0, q) = some ((), (KS, m1, q)) ∧ (∀ i, i ≠ 996 → i ≠ 1033 → i ≠ a → m1 i = m0 i) ∧ (∀ k, k ≠ 51 → m1 996 k = m0 996 k) ∧ m1 996 51 = nI (p + L) ∧ (∀ k, k < L → m1 a k = (if tb = 1 then m0 1033 (p + k) else m0 a k) ∧ m1 1033 (p + k) = (if tb = 1 then m0 1033 (p + k) else m0 a k)) ∧ (∀ k, k < p ∨ p + L ≤ k → m1 1033 k = m0 1033 k) := by
  obtain ⟨f1, m1, e, i1, i2, i3, i4, i5, i6⟩ := loop_up (fun f i m => B_X12_movesRow_2 f 996 a (nI i) (KS, m, q)) L (fun i m => (∀ i, i ≠ 996 → i ≠ 1033 → i ≠ a → m i = m0 i) ∧ (∀ k, k ≠ 51 → m 996 k = m0 996 k) ∧ m 996 51 = nI (p + i) ∧ (∀ k, k < i → m a k = (if tb = 1 then m0 1033 (p + k) else m0 a k) ∧ m 1033 (p + k) = (if tb = 1 then m0 1033 (p + k) else m0 a k)) ∧ (∀ k, k < p ∨ p + i ≤ k → m 1033 k = m0 1033 k) ∧ (∀ k, i ≤ k → m a k = m0 a k)) (by
    intro f i m hi ⟨i1, i2, i3, i4, i5, i6⟩
    have h52' : m 996 52 = nI tb := (i2 52 (by omega)).trans h52
    have e33 : m 1033 (p + i) = m0 1033 (p + i) := i5 _ (.inr (Nat.le_refl _))
    have ea : m a i = m0 a i := i6 i (Nat.le_refl _)
    refine ⟨mk_u2 (mk_u2 (mk_u2 m 1033 (p + i) (if tb = 1 then m0 1033 (p + i) else m0 a i)) 996 51 (nI (p + i + 1))) a i (if tb = 1 then m0 1033 (p + i) else m0 a i), ?_, fun j h1 h2 h3 => ?_, fun k hk => ?_, ?_, fun k hk => ?_, fun k hk => ?_, fun k hk => ?_⟩
    · have h51' : m 996 51 = nI (p + i) := i3
      have hm := moves_ok (q := q) (v := m0 a i) h52' ht h51' (by omega)
      rw [e33] at hm
      simp only [B_X12_movesRow_2]
      rw [len_ok hK (by omega) (by omega), ob_some]
      simp (disch := omega) only [le_F, reduceIte]
      rw [ld_ok hK (by omega) hi (by omega), ob_some, ea, hm, ob_some, st_ok hK hi (by omega), ob_some, nI_1]
      rfl
    · rw [mk_u2_ne h3, mk_u2_ne h1, mk_u2_ne h2]; exact i1 j h1 h2 h3
    · rw [u2_a (Ne.symm ha), u2_b hk, u2_a (by omega)]; exact i2 k hk
    · rw [u2_a (Ne.symm ha), u2_s]; rfl
    · by_cases h : k = i
      · subst h
        rw [u2_s, u2_a (Ne.symm ha3), u2_a (by omega), u2_s]; exact ⟨rfl, rfl⟩
      · rw [u2_b h, u2_a ha, u2_a ha3, u2_a (Ne.symm ha3), u2_a (by omega), u2_b (by omega)]; exact i4 k (by omega)
    · rw [u2_a (Ne.symm ha3), u2_a (by omega), u2_b (by omega)]; exact i5 k (by omega)
    · rw [u2_b (by omega), u2_a ha, u2_a ha3]; exact i6 k (by omega)) L 0 mk_fu m0 (by omega) (by rw [mk_fu_eq]; omega) ⟨fun _ _ _ _ => rfl, fun _ _ => rfl, h51, fun _ h => absurd h (by omega), fun _ _ => rfl, fun _ _ => rfl⟩
  refine ⟨m1, ?_, i1, i2, i3, i4, i5⟩
  unfold F_X12_movesRow
  rw [gdm]
  refine Eq.trans e ?_
  simp only [B_X12_movesRow_2]
  rw [len_ok hK (by omega) (by omega), ob_some]
  simp (disch := omega) only [le_T, reduceIte]
/-- what is laid, or taken back -/
def msrc (m : Nat → Nat → Int32) (r tb j k : Nat) : Int32 := if tb = 1 then pv (nv m) r j k else m (997 + j) k
set_option maxRecDepth 4000 in
theorem msrc1 {m : Nat → Nat → Int32} {r tb k p : Nat} (h : p = 72 * r + (2 + k)) : (if tb = 1 then m 1033 p else m 998 k) = msrc m r tb 1 k := by
  subst h; rfl
set_option maxRecDepth 4000 in
theorem msrc2 {m : Nat → Nat → Int32} {r tb k p : Nat} (h : p = 72 * r + (8 + k)) : (if tb = 1 then m 1033 p else m 999 k) = msrc m r tb 2 k := by
  subst h; rfl
set_option maxRecDepth 4000 in
theorem msrc3 {m : Nat → Nat → Int32} {r tb k p : Nat} (h : p = 72 * r + (14 + k)) : (if tb = 1 then m 1033 p else m 1000 k) = msrc m r tb 3 k := by
  subst h; rfl
set_option maxRecDepth 4000 in
theorem msrc4 {m : Nat → Nat → Int32} {r tb k p : Nat} (h : p = 72 * r + (20 + k)) : (if tb = 1 then m 1033 p else m 1001 k) = msrc m r tb 4 k := by
  subst h; rfl
set_option maxRecDepth 4000 in
theorem msrc5 {m : Nat → Nat → Int32} {r tb k p : Nat} (h : p = 72 * r + (26 + k)) : (if tb = 1 then m 1033 p else m 1002 k) = msrc m r tb 5 k := by
  subst h; rfl
set_option maxRecDepth 4000 in
theorem msrc6 {m : Nat → Nat → Int32} {r tb k p : Nat} (h : p = 72 * r + (32 + k)) : (if tb = 1 then m 1033 p else m 1003 k) = msrc m r tb 6 k := by
  subst h; rfl
set_option maxRecDepth 4000 in
theorem msrc7 {m : Nat → Nat → Int32} {r tb k p : Nat} (h : p = 72 * r + (36 + k)) : (if tb = 1 then m 1033 p else m 1004 k) = msrc m r tb 7 k := by
  subst h; rfl
set_option maxRecDepth 4000 in
theorem movesAll_ok {q : Nat → Nat → Int64} {r tb : Nat} (m : Nat → Nat → Int32) (hr : r < 20) (ht : tb < 2) :
    ∃ m1, F_X12_movesAll 996 (nI r) (nI tb) (KS, m, q) = some ((), (KS, m1, q)) ∧ (∀ i, i < 996 ∨ 1004 < i → i ≠ 1033 → m1 i = m i) ∧ (∀ k, k ≠ 51 → k ≠ 52 → m1 996 k = m 996 k) ∧ (∀ k, k ≠ 5 → k ≠ 6 → m1 997 k = m 997 k) ∧ (∀ k, k < 72 * r ∨ 72 * r + 72 ≤ k → m1 1033 k = m 1033 k) ∧ (m1 997 5 = msrc m r tb 0 5 ∧ m1 997 6 = msrc m r tb 0 6) ∧ (∀ j k, 1 ≤ j → j < 8 → k < szv j → m1 (997 + j) k = msrc m r tb j k) ∧ (m1 1033 (72 * r) = msrc m r tb 0 5 ∧ m1 1033 (72 * r + 1) = msrc m r tb 0 6) ∧ (∀ k, k < 6 → m1 1033 (72 * r + 2 + k) = msrc m r tb 1 k) ∧ (∀ k, k < 6 → m1 1033 (72 * r + 8 + k) = msrc m r tb 2 k) ∧ (∀ k, k < 6 → m1 1033 (72 * r + 14 + k) = msrc m r tb 3 k) ∧ (∀ k, k < 6 → m1 1033 (72 * r + 20 + k) = msrc m r tb 4 k) ∧ (∀ k, k < 6 → m1 1033 (72 * r + 26 + k) = msrc m r tb 5 k) ∧ (∀ k, k < 4 → m1 1033 (72 * r + 32 + k) = msrc m r tb 6 k) ∧ (∀ k, k < 36 → m1 1033 (72 * r + 36 + k) = msrc m r tb 7 k) := by
  -- the two numbers
  generalize hm0 : mk_u2 (mk_u2 m 996 51 (nI (72 * r))) 996 52 (nI tb) = m0
  have a51 : m0 996 51 = nI (72 * r) := by rw [← hm0]; simp (disch := omega) only [u2_s, u2_a, u2_b]
  have a52 : m0 996 52 = nI tb := by rw [← hm0]; simp (disch := omega) only [u2_s, u2_a, u2_b]
  have aO : ∀ i, i ≠ 996 → m0 i = m i := fun i hi => by rw [← hm0, mk_u2_ne hi, mk_u2_ne hi]
  have a96 : ∀ k, k ≠ 51 → k ≠ 52 → m0 996 k = m 996 k := fun k h1 h2 => by rw [← hm0, u2_b h2, u2_b h1]
  have s1 := moves_ok (q := q) (v := m 997 5) a52 ht a51 (by omega)
  rw [aO 1033 (by omega)] at s1
  generalize hv1 : (if tb = 1 then m 1033 (72 * r) else m 997 5) = v1 at s1
  generalize hm1 : mk_u2 (mk_u2 (mk_u2 m0 1033 (72 * r) v1) 996 51 (nI (72 * r + 1))) 997 5 v1 = m1
  have b51 : m1 996 51 = nI (72 * r + 1) := by rw [← hm1]; simp (disch := omega) only [u2_s, u2_a, u2_b]
  have b52 : m1 996 52 = nI tb := by rw [← hm1]; simp (disch := omega) only [u2_s, u2_a, u2_b]; exact a52
  have b33 : m1 1033 (72 * r + 1) = m 1033 (72 * r + 1) := by rw [← hm1]; simp (disch := omega) only [u2_s, u2_a, u2_b, aO]
  have b97 : m1 997 6 = m 997 6 := by rw [← hm1]; simp (disch := omega) only [u2_s, u2_a, u2_b, aO]
  have s2 := moves_ok (q := q) (v := m 997 6) b52 ht b51 (by omega)
  rw [b33] at s2
  generalize hv2 : (if tb = 1 then m 1033 (72 * r + 1) else m 997 6) = v2 at s2
  generalize hm2 : mk_u2 (mk_u2 (mk_u2 m1 1033 (72 * r + 1) v2) 996 51 (nI (72 * r + 1 + 1))) 997 6 v2 = m2
  have c51 : m2 996 51 = nI (72 * r + 2) := by rw [← hm2]; simp (disch := omega) only [u2_s, u2_a, u2_b]
  have c52 : m2 996 52 = nI tb := by rw [← hm2]; simp (disch := omega) only [u2_s, u2_a, u2_b]; exact b52
  have cO : ∀ i, i ≠ 996 → i ≠ 997 → i ≠ 1033 → m2 i = m i := fun i h1 h2 h3 => by rw [← hm2, ← hm1, mk_u2_ne h2, mk_u2_ne h1, mk_u2_ne h3, mk_u2_ne h2, mk_u2_ne h1, mk_u2_ne h3, aO i h1]
  have c96 : ∀ k, k ≠ 51 → k ≠ 52 → m2 996 k = m 996 k := fun k h1 h2 => by rw [← hm2, ← hm1]; simp (disch := omega) only [u2_s, u2_a, u2_b]; exact a96 k h1 h2
  have c97 : ∀ k, k ≠ 5 → k ≠ 6 → m2 997 k = m 997 k := fun k h1 h2 => by rw [← hm2, ← hm1]; simp (disch := omega) only [u2_s, u2_a, u2_b, aO]
  have c5 : m2 997 5 = v1 := by rw [← hm2, ← hm1]; simp (disch := omega) only [u2_s, u2_a, u2_b]
  have c6 : m2 997 6 = v2 := by rw [← hm2]; simp (disch := omega) only [u2_s, u2_a, u2_b]
  have cp0 : m2 1033 (72 * r) = v1 := by rw [← hm2, ← hm1]; simp (disch := omega) only [u2_s, u2_a, u2_b]
  have cp1 : m2 1033 (72 * r + 1) = v2 := by rw [← hm2]; simp (disch := omega) only [u2_s, u2_a, u2_b]
  have cp : ∀ k, k ≠ 72 * r → k ≠ 72 * r + 1 → m2 1033 k = m 1033 k := fun k h1 h2 => by rw [← hm2, ← hm1]; simp (disch := omega) only [u2_s, u2_a, u2_b, aO]
  -- the rows
  obtain ⟨n1, A1, A2, A3, A4, A5, A6⟩ := movesRow_ok (q := q) m2 kk_998 (by omega) (by omega) (by omega) (by omega) c52 ht c51 (by omega)
  obtain ⟨n2, B1, B2, B3, B4, B5, B6⟩ := movesRow_ok (q := q) n1 kk_999 (by omega) (by omega) (by omega) (by omega) ((A3 52 (by omega)).trans c52) ht A4 (by omega)
  obtain ⟨n3, C1, C2, C3, C4, C5, C6⟩ := movesRow_ok (q := q) n2 kk_1000 (by omega) (by omega) (by omega) (by omega) ((B3 52 (by omega)).trans ((A3 52 (by omega)).trans c52)) ht B4 (by omega)
  obtain ⟨n4, D1, D2, D3, D4, D5, D6⟩ := movesRow_ok (q := q) n3 kk_1001 (by omega) (by omega) (by omega) (by omega) ((C3 52 (by omega)).trans ((B3 52 (by omega)).trans ((A3 52 (by omega)).trans c52))) ht C4 (by omega)
  obtain ⟨n5, E1, E2, E3, E4, E5, E6⟩ := movesRow_ok (q := q) n4 kk_1002 (by omega) (by omega) (by omega) (by omega) ((D3 52 (by omega)).trans ((C3 52 (by omega)).trans ((B3 52 (by omega)).trans ((A3 52 (by omega)).trans c52)))) ht D4 (by omega)
  obtain ⟨n6, F1, F2, F3, F4, F5, F6⟩ := movesRow_ok (q := q) n5 kk_1003 (by omega) (by omega) (by omega) (by omega) ((E3 52 (by omega)).trans ((D3 52 (by omega)).trans ((C3 52 (by omega)).trans ((B3 52 (by omega)).trans ((A3 52 (by omega)).trans c52))))) ht E4 (by omega)
  obtain ⟨n7, G1, G2, G3, G4, G5, G6⟩ := movesRow_ok (q := q) n6 kk_1004 (by omega) (by omega) (by omega) (by omega) ((F3 52 (by omega)).trans ((E3 52 (by omega)).trans ((D3 52 (by omega)).trans ((C3 52 (by omega)).trans ((B3 52 (by omega)).trans ((A3 52 (by omega)).trans c52)))))) ht F4 (by omega)
  have hbase : ∀ x y, 72 * r + 2 + x + y = 72 * r + 2 + x + y := fun _ _ => rfl
  have f7 : ∀ i, i ≠ 996 → i ≠ 1033 → (i < 998 ∨ 1004 < i) → n7 i = m2 i := fun i h1 h2 h3 => by rw [G2 i h1 h2 (by omega), F2 i h1 h2 (by omega), E2 i h1 h2 (by omega), D2 i h1 h2 (by omega), C2 i h1 h2 (by omega), B2 i h1 h2 (by omega), A2 i h1 h2 (by omega)]
  refine ⟨n7, ?_, fun i h1 h2 => ?_, fun k h1 h2 => ?_, fun k h1 h2 => ?_, fun k hk => ?_, ⟨?_, ?_⟩, ?_, ⟨?_, ?_⟩, fun k hk => ?_, fun k hk => ?_, fun k hk => ?_, fun k hk => ?_, fun k hk => ?_, fun k hk => ?_, fun k hk => ?_⟩
  · unfold F_X12_movesAll
    have hb01 : nI tb = nI 0 ∨ nI tb = nI 1 := by rcases (show tb = 0 ∨ tb = 1 by omega) with e | e <;> subst e <;> simp
    have e5 : m0 997 5 = m 997 5 := by rw [aO _ (by omega)]
    rw [gdm]
    simp (disch := omega) only [gdm, gam_1, gam_2, gam_3, gam_4, gam_5, gam_6, gam_7, gam_8, gam_9, gam_10, gam_11, gam_12, gam_13, gam_14, gam_15, gam_16, gam_17, gam_18, gam_19, gam_20, gam_21, gam_22, gam_23, gam_24, gam_25, gam_26, gam_37, gam_38, gam_39, gam_40, gam_41, gam_42, gam_43, gam_44, gam_45, gam_46, gam_48, gam_49, gam_56, gam_57, gam_58, gam_59, gam_60, gam_61, gim_27, gim_28, gim_29, gim_30, gim_31, gim_32, gim_33, gim_34, gim_35, gim_36, gim_47, gim_50, gim_51, gim_52, gim_53, gim_54, gim_55, gim_62, gim_63, ob_some, reduceIte, lit, le_T, le_F, lt_T, lt_F, eq_T, eq_F, nI_add, ldm_997, stm_997, ldm_998, stm_998, ldm_999, stm_999, ldm_1000, stm_1000, ldm_1001, stm_1001, ldm_1002, stm_1002, ldm_1003, stm_1003, ldm_1004, stm_1004, ldm_1005, stm_1005, ldm_1006, stm_1006, ldm_1007, stm_1007, ldm_1008, stm_1008, ldm_1009, stm_1009, ldm_1010, stm_1010, ldm_1011, stm_1011, ldm_1012, stm_1012, ldm_1013, stm_1013, ldm_1014, stm_1014, ldm_1015, stm_1015, ldm_1016, stm_1016, ldm_1017, stm_1017, ldm_1018, stm_1018, ldm_1019, stm_1019, ldm_1020, stm_1020, ldm_1021, stm_1021, ldm_1022, stm_1022, u2_s, u2_a, u2_b, not_true, not_false_iff, pim_51, pk_mul, pzm_52 hb01, hm0, e5, s1, hm1, b97, s2, hm2, A1, B1, C1, D1, E1, F1, G1]
  · rw [f7 i (by omega) h2 (by omega), cO i (by omega) (by omega) h2]
  · rw [G3 k h1, F3 k h1, E3 k h1, D3 k h1, C3 k h1, B3 k h1, A3 k h1, c96 k h1 h2]
  · rw [f7 997 (by omega) (by omega) (by omega), c97 k h1 h2]
  · rw [G6 k (by omega), F6 k (by omega), E6 k (by omega), D6 k (by omega), C6 k (by omega), B6 k (by omega), A6 k (by omega), cp k (by omega) (by omega)]
  · rw [f7 997 (by omega) (by omega) (by omega), c5, ← hv1]; rfl
  · rw [f7 997 (by omega) (by omega) (by omega), c6, ← hv2]; rfl
  · intro j k h1 h2 hk
    rcases (show j = 1 ∨ j = 2 ∨ j = 3 ∨ j = 4 ∨ j = 5 ∨ j = 6 ∨ j = 7 by omega) with x | x | x | x | x | x | x <;> subst x
    · have hk : k < 6 := hk
      show n7 998 k = _
      rw [G2 _ (by omega) (by omega) (by omega), F2 _ (by omega) (by omega) (by omega), E2 _ (by omega) (by omega) (by omega), D2 _ (by omega) (by omega) (by omega), C2 _ (by omega) (by omega) (by omega), B2 _ (by omega) (by omega) (by omega), (A5 k hk).1, cp _ (by omega) (by omega), cO 998 (by omega) (by omega) (by omega)]
      exact msrc1 (by omega)
    · have hk : k < 6 := hk
      show n7 999 k = _
      rw [G2 _ (by omega) (by omega) (by omega), F2 _ (by omega) (by omega) (by omega), E2 _ (by omega) (by omega) (by omega), D2 _ (by omega) (by omega) (by omega), C2 _ (by omega) (by omega) (by omega), (B5 k hk).1, A6 _ (by omega), cp _ (by omega) (by omega), A2 999 (by omega) (by omega) (by omega), cO 999 (by omega) (by omega) (by omega)]
      exact msrc2 (by omega)
    · have hk : k < 6 := hk
      show n7 1000 k = _
      rw [G2 _ (by omega) (by omega) (by omega), F2 _ (by omega) (by omega) (by omega), E2 _ (by omega) (by omega) (by omega), D2 _ (by omega) (by omega) (by omega), (C5 k hk).1, B6 _ (by omega), A6 _ (by omega), cp _ (by omega) (by omega), B2 1000 (by omega) (by omega) (by omega), A2 1000 (by omega) (by omega) (by omega), cO 1000 (by omega) (by omega) (by omega)]
      exact msrc3 (by omega)
    · have hk : k < 6 := hk
      show n7 1001 k = _
      rw [G2 _ (by omega) (by omega) (by omega), F2 _ (by omega) (by omega) (by omega), E2 _ (by omega) (by omega) (by omega), (D5 k hk).1, C6 _ (by omega), B6 _ (by omega), A6 _ (by omega), cp _ (by omega) (by omega), C2 1001 (by omega) (by omega) (by omega), B2 1001 (by omega) (by omega) (by omega), A2 1001 (by omega) (by omega) (by omega), cO 1001 (by omega) (by omega) (by omega)]
      exact msrc4 (by omega)
    · have hk : k < 6 := hk
      show n7 1002 k = _
      rw [G2 _ (by omega) (by omega) (by omega), F2 _ (by omega) (by omega) (by omega), (E5 k hk).1, D6 _ (by omega), C6 _ (by omega), B6 _ (by omega), A6 _ (by omega), cp _ (by omega) (by omega), D2 1002 (by omega) (by omega) (by omega), C2 1002 (by omega) (by omega) (by omega), B2 1002 (by omega) (by omega) (by omega), A2 1002 (by omega) (by omega) (by omega), cO 1002 (by omega) (by omega) (by omega)]
      exact msrc5 (by omega)
    · have hk : k < 4 := hk
      show n7 1003 k = _
      rw [G2 _ (by omega) (by omega) (by omega), (F5 k hk).1, E6 _ (by omega), D6 _ (by omega), C6 _ (by omega), B6 _ (by omega), A6 _ (by omega), cp _ (by omega) (by omega), E2 1003 (by omega) (by omega) (by omega), D2 1003 (by omega) (by omega) (by omega), C2 1003 (by omega) (by omega) (by omega), B2 1003 (by omega) (by omega) (by omega), A2 1003 (by omega) (by omega) (by omega), cO 1003 (by omega) (by omega) (by omega)]
      exact msrc6 (by omega)
    · have hk : k < 36 := hk
      show n7 1004 k = _
      rw [(G5 k hk).1, F6 _ (by omega), E6 _ (by omega), D6 _ (by omega), C6 _ (by omega), B6 _ (by omega), A6 _ (by omega), cp _ (by omega) (by omega), F2 1004 (by omega) (by omega) (by omega), E2 1004 (by omega) (by omega) (by omega), D2 1004 (by omega) (by omega) (by omega), C2 1004 (by omega) (by omega) (by omega), B2 1004 (by omega) (by omega) (by omega), A2 1004 (by omega) (by omega) (by omega), cO 1004 (by omega) (by omega) (by omega)]
      exact msrc7 (by omega)
  · rw [G6 _ (by omega), F6 _ (by omega), E6 _ (by omega), D6 _ (by omega), C6 _ (by omega), B6 _ (by omega), A6 _ (by omega), cp0, ← hv1]; rfl
  · rw [G6 _ (by omega), F6 _ (by omega), E6 _ (by omega), D6 _ (by omega), C6 _ (by omega), B6 _ (by omega), A6 _ (by omega), cp1, ← hv2]; rfl
  · rw [G6 _ (by omega), F6 _ (by omega), E6 _ (by omega), D6 _ (by omega), C6 _ (by omega), B6 _ (by omega), (A5 k hk).2, cp _ (by omega) (by omega), cO 998 (by omega) (by omega) (by omega)]
    exact msrc1 (by omega)
  · have h := (B5 k hk).2
    rw [A6 _ (by omega), cp _ (by omega) (by omega), A2 999 (by omega) (by omega) (by omega), cO 999 (by omega) (by omega) (by omega)] at h
    rw [G6 _ (by omega), F6 _ (by omega), E6 _ (by omega), D6 _ (by omega), C6 _ (by omega)]
    refine Eq.trans h ?_
    exact msrc2 (by omega)
  · have h := (C5 k hk).2
    rw [B6 _ (by omega), A6 _ (by omega), cp _ (by omega) (by omega), B2 1000 (by omega) (by omega) (by omega), A2 1000 (by omega) (by omega) (by omega), cO 1000 (by omega) (by omega) (by omega)] at h
    rw [G6 _ (by omega), F6 _ (by omega), E6 _ (by omega), D6 _ (by omega)]
    refine Eq.trans h ?_
    exact msrc3 (by omega)
  · have h := (D5 k hk).2
    rw [C6 _ (by omega), B6 _ (by omega), A6 _ (by omega), cp _ (by omega) (by omega), C2 1001 (by omega) (by omega) (by omega), B2 1001 (by omega) (by omega) (by omega), A2 1001 (by omega) (by omega) (by omega), cO 1001 (by omega) (by omega) (by omega)] at h
    rw [G6 _ (by omega), F6 _ (by omega), E6 _ (by omega)]
    refine Eq.trans h ?_
    exact msrc4 (by omega)
  · have h := (E5 k hk).2
    rw [D6 _ (by omega), C6 _ (by omega), B6 _ (by omega), A6 _ (by omega), cp _ (by omega) (by omega), D2 1002 (by omega) (by omega) (by omega), C2 1002 (by omega) (by omega) (by omega), B2 1002 (by omega) (by omega) (by omega), A2 1002 (by omega) (by omega) (by omega), cO 1002 (by omega) (by omega) (by omega)] at h
    rw [G6 _ (by omega), F6 _ (by omega)]
    refine Eq.trans h ?_
    exact msrc5 (by omega)
  · have h := (F5 k hk).2
    rw [E6 _ (by omega), D6 _ (by omega), C6 _ (by omega), B6 _ (by omega), A6 _ (by omega), cp _ (by omega) (by omega), E2 1003 (by omega) (by omega) (by omega), D2 1003 (by omega) (by omega) (by omega), C2 1003 (by omega) (by omega) (by omega), B2 1003 (by omega) (by omega) (by omega), A2 1003 (by omega) (by omega) (by omega), cO 1003 (by omega) (by omega) (by omega)] at h
    rw [G6 _ (by omega)]
    refine Eq.trans h ?_
    exact msrc6 (by omega)
  · have h := (G5 k hk).2
    rw [F6 _ (by omega), E6 _ (by omega), D6 _ (by omega), C6 _ (by omega), B6 _ (by omega), A6 _ (by omega), cp _ (by omega) (by omega), F2 1004 (by omega) (by omega) (by omega), E2 1004 (by omega) (by omega) (by omega), D2 1004 (by omega) (by omega) (by omega), C2 1004 (by omega) (by omega) (by omega), B2 1004 (by omega) (by omega) (by omega), A2 1004 (by omega) (by omega) (by omega), cO 1004 (by omega) (by omega) (by omega)] at h
    refine Eq.trans h ?_
    exact msrc7 (by omega)
