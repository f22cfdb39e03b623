/-! the reference: an hour -/
def MS (P : Nat → Nat → Nat) (v : Nat → Nat → Int32) (A : Nat → Nat → Nat) : Prop := (∀ p, p < P 0 2 → (v 1 p = nI (A 1 p) ∧ A 1 p < P 0 0 * P 0 0) ∧ (v 2 p = nI (A 2 p) ∧ A 2 p < 4) ∧ (v 3 p = nI (A 3 p) ∧ A 3 p ≤ 99) ∧ (v 4 p = nI (A 4 p) ∧ A 4 p ≤ A 0 1) ∧ ∃ L, v 5 p = nI (A 0 1) - nI L ∧ L ≤ A 0 1 + 1000 ∧ A 5 p = min 99 L) ∧ (∀ k, k < P 0 3 → v 6 k = nI (A 6 k) ∧ A 6 k ≤ 9999) ∧ (∀ c, c < P 0 0 * P 0 0 → v 7 c = nI (A 7 c) ∧ A 7 c ≤ 600) ∧ (v 0 6 = nI (A 0 0) ∧ A 0 0 < 16) ∧ (v 0 5 = nI (A 0 1) ∧ A 0 1 ≤ 100000)
set_option maxRecDepth 4000 in
theorem mhas_ok {G : Nat → Bool} {n i : Nat} (hn : n ≤ 6) (hi : i < n) (t : mk_S) : F_X12_has (nI (gb G n)) (nI i) t = some (if G i then nI 1 else nI 0, t) := by
  unfold F_X12_has
  rw [gb_test hn hi]
  cases G i <;> rfl
set_option maxRecDepth 4000 in
theorem mcells_ok {m : Nat → Nat → Int32} {q : Nat → Nat → Int64} {S : Nat} (hS : m 997 0 = nI S) : F_X12_cells 996 (KS, m, q) = some (nI (S * S), (KS, m, q)) := by
  unfold F_X12_cells
  simp (disch := omega) only [gdm, gam_1, gam_2, gam_3, gam_4, gam_5, gam_6, gam_7, gam_8, gam_9, gam_10, gam_11, gam_12, gam_13, gam_14, gam_15, gam_16, gam_17, gam_18, gam_19, gam_20, gam_21, gam_22, gam_23, gam_24, gam_25, gam_26, gam_37, gam_38, gam_39, gam_40, gam_41, gam_42, gam_43, gam_44, gam_45, gam_46, gam_48, gam_49, gam_56, gam_57, gam_58, gam_59, gam_60, gam_61, gim_27, gim_28, gim_29, gim_30, gim_31, gim_32, gim_33, gim_34, gim_35, gim_36, gim_47, gim_50, gim_51, gim_52, gim_53, gim_54, gim_55, gim_62, gim_63, ob_some, reduceIte, lit, le_T, le_F, lt_T, lt_F, eq_T, eq_F, nI_add, ldm_997, stm_997, ldm_998, stm_998, ldm_999, stm_999, ldm_1000, stm_1000, ldm_1001, stm_1001, ldm_1002, stm_1002, ldm_1003, stm_1003, ldm_1004, stm_1004, ldm_1005, stm_1005, ldm_1006, stm_1006, ldm_1007, stm_1007, ldm_1008, stm_1008, ldm_1009, stm_1009, ldm_1010, stm_1010, ldm_1011, stm_1011, ldm_1012, stm_1012, ldm_1013, stm_1013, ldm_1014, stm_1014, ldm_1015, stm_1015, ldm_1016, stm_1016, ldm_1017, stm_1017, ldm_1018, stm_1018, ldm_1019, stm_1019, ldm_1020, stm_1020, ldm_1021, stm_1021, ldm_1022, stm_1022, u2_s, u2_a, u2_b, not_true, not_false_iff, hS, pk_mul]
set_option maxRecDepth 4000 in
theorem mblow1 {q : Nat → Nat → Int64} {P A : Nat → Nat → Nat} {G : Nat → Bool} {k2 : Nat → Int32 → Int32 → mk_S → Option (Unit × mk_S)} {c : Nat} (m0 : Nat → Nat → Int32) (hS : m0 997 0 = nI (P 0 0)) (hN : m0 997 2 = nI (P 0 2)) (hS2 : P 0 0 ≤ 6) (hN2 : P 0 2 ≤ 6) (hc : c < P 0 0 * P 0 0)
    (hA : ∀ p, p < P 0 2 → (m0 998 p = nI (A 1 p) ∧ A 1 p < P 0 0 * P 0 0) ∧ (m0 999 p = nI (A 2 p) ∧ A 2 p < 4) ∧ (m0 1000 p = nI (A 3 p) ∧ A 3 p ≤ 99)) (h0 : m0 1004 c = nI 0) :
    ∃ m1, B_X12_blows_19 k2 mk_fu 996 (nI (gb G (P 0 2))) (nI c) 0 (KS, m0, q) = k2 996 (nI (gb G (P 0 2))) (nI (c + 1)) (KS, m1, q) ∧ (∀ j, j ≠ 1004 → m1 j = m0 j) ∧ (∀ k, k ≠ c → m1 1004 k = m0 1004 k) ∧ m1 1004 c = nI (wsum P A G c (P 0 2)) := by
  have hSS : P 0 0 * P 0 0 ≤ 36 := Nat.mul_le_mul hS2 hS2
  obtain ⟨f1, m1, e, i1, i2, i3⟩ := loop_up (fun f i m => B_X12_blows_19 k2 f 996 (nI (gb G (P 0 2))) (nI c) (nI i) (KS, m, q)) (P 0 2) (fun i m => (∀ j, j ≠ 1004 → m j = m0 j) ∧ (∀ k, k ≠ c → m 1004 k = m0 1004 k) ∧ m 1004 c = nI (wsum P A G c i)) (by
    intro f i m hi ⟨i1, i2, i3⟩
    have hS' : m 997 0 = nI (P 0 0) := by rw [i1 _ (by omega)]; exact hS
    have hN' : m 997 2 = nI (P 0 2) := by rw [i1 _ (by omega)]; exact hN
    obtain ⟨⟨c1, d1⟩, ⟨c2, d2⟩, ⟨c3, d3⟩⟩ := hA i hi
    have hpf := puffIn_ok (q := q) (m := m) (d := c) hS' hS2 (show i < 6 by omega) (by rw [i1 _ (by omega)]; exact c1) d1 (by rw [i1 _ (by omega)]; exact c2) d2 (by rw [i1 _ (by omega)]; exact c3) d3 hc
    refine ⟨mk_u2 m 1004 c (nI (wsum P A G c (i + 1))), ?_, fun j hj => ?_, fun k hk => ?_, u2_s⟩
    · simp only [B_X12_blows_19]
      cases hg : G i
      · simp (disch := omega) only [gdm, gam_1, gam_2, gam_3, gam_4, gam_5, gam_6, gam_7, gam_8, gam_9, gam_10, gam_11, gam_12, gam_13, gam_14, gam_15, gam_16, gam_17, gam_18, gam_19, gam_20, gam_21, gam_22, gam_23, gam_24, gam_25, gam_26, gam_37, gam_38, gam_39, gam_40, gam_41, gam_42, gam_43, gam_44, gam_45, gam_46, gam_48, gam_49, gam_56, gam_57, gam_58, gam_59, gam_60, gam_61, gim_27, gim_28, gim_29, gim_30, gim_31, gim_32, gim_33, gim_34, gim_35, gim_36, gim_47, gim_50, gim_51, gim_52, gim_53, gim_54, gim_55, gim_62, gim_63, ob_some, reduceIte, lit, le_T, le_F, lt_T, lt_F, eq_T, eq_F, nI_add, ldm_997, stm_997, ldm_998, stm_998, ldm_999, stm_999, ldm_1000, stm_1000, ldm_1001, stm_1001, ldm_1002, stm_1002, ldm_1003, stm_1003, ldm_1004, stm_1004, ldm_1005, stm_1005, ldm_1006, stm_1006, ldm_1007, stm_1007, ldm_1008, stm_1008, ldm_1009, stm_1009, ldm_1010, stm_1010, ldm_1011, stm_1011, ldm_1012, stm_1012, ldm_1013, stm_1013, ldm_1014, stm_1014, ldm_1015, stm_1015, ldm_1016, stm_1016, ldm_1017, stm_1017, ldm_1018, stm_1018, ldm_1019, stm_1019, ldm_1020, stm_1020, ldm_1021, stm_1021, ldm_1022, stm_1022, u2_s, u2_a, u2_b, not_true, not_false_iff, hN', mhas_ok hN2 hi, hg, Bool.false_eq_true, B_X12_blows_54, i3, wsum, Nat.add_zero]
      · simp (disch := omega) only [gdm, gam_1, gam_2, gam_3, gam_4, gam_5, gam_6, gam_7, gam_8, gam_9, gam_10, gam_11, gam_12, gam_13, gam_14, gam_15, gam_16, gam_17, gam_18, gam_19, gam_20, gam_21, gam_22, gam_23, gam_24, gam_25, gam_26, gam_37, gam_38, gam_39, gam_40, gam_41, gam_42, gam_43, gam_44, gam_45, gam_46, gam_48, gam_49, gam_56, gam_57, gam_58, gam_59, gam_60, gam_61, gim_27, gim_28, gim_29, gim_30, gim_31, gim_32, gim_33, gim_34, gim_35, gim_36, gim_47, gim_50, gim_51, gim_52, gim_53, gim_54, gim_55, gim_62, gim_63, ob_some, reduceIte, lit, le_T, le_F, lt_T, lt_F, eq_T, eq_F, nI_add, ldm_997, stm_997, ldm_998, stm_998, ldm_999, stm_999, ldm_1000, stm_1000, ldm_1001, stm_1001, ldm_1002, stm_1002, ldm_1003, stm_1003, ldm_1004, stm_1004, ldm_1005, stm_1005, ldm_1006, stm_1006, ldm_1007, stm_1007, ldm_1008, stm_1008, ldm_1009, stm_1009, ldm_1010, stm_1010, ldm_1011, stm_1011, ldm_1012, stm_1012, ldm_1013, stm_1013, ldm_1014, stm_1014, ldm_1015, stm_1015, ldm_1016, stm_1016, ldm_1017, stm_1017, ldm_1018, stm_1018, ldm_1019, stm_1019, ldm_1020, stm_1020, ldm_1021, stm_1021, ldm_1022, stm_1022, u2_s, u2_a, u2_b, not_true, not_false_iff, hN', mhas_ok hN2 hi, hg, Bool.false_eq_true, B_X12_blows_54, i3, wsum, Nat.add_zero, hpf]
    · rw [mk_u2_ne hj]; exact i1 j hj
    · rw [u2_b hk]; exact i2 k hk) (P 0 2) 0 mk_fu m0 (by omega) (by rw [mk_fu_eq]; omega) ⟨fun _ _ => rfl, fun _ _ => rfl, h0⟩
  refine ⟨m1, ?_, i1, i2, i3⟩
  refine Eq.trans e ?_
  have hN' : m1 997 2 = nI (P 0 2) := by rw [i1 _ (by omega)]; exact hN
  simp only [B_X12_blows_19]
  simp (disch := omega) only [gdm, gam_1, gam_2, gam_3, gam_4, gam_5, gam_6, gam_7, gam_8, gam_9, gam_10, gam_11, gam_12, gam_13, gam_14, gam_15, gam_16, gam_17, gam_18, gam_19, gam_20, gam_21, gam_22, gam_23, gam_24, gam_25, gam_26, gam_37, gam_38, gam_39, gam_40, gam_41, gam_42, gam_43, gam_44, gam_45, gam_46, gam_48, gam_49, gam_56, gam_57, gam_58, gam_59, gam_60, gam_61, gim_27, gim_28, gim_29, gim_30, gim_31, gim_32, gim_33, gim_34, gim_35, gim_36, gim_47, gim_50, gim_51, gim_52, gim_53, gim_54, gim_55, gim_62, gim_63, ob_some, reduceIte, lit, le_T, le_F, lt_T, lt_F, eq_T, eq_F, nI_add, ldm_997, stm_997, ldm_998, stm_998, ldm_999, stm_999, ldm_1000, stm_1000, ldm_1001, stm_1001, ldm_1002, stm_1002, ldm_1003, stm_1003, ldm_1004, stm_1004, ldm_1005, stm_1005, ldm_1006, stm_1006, ldm_1007, stm_1007, ldm_1008, stm_1008, ldm_1009, stm_1009, ldm_1010, stm_1010, ldm_1011, stm_1011, ldm_1012, stm_1012, ldm_1013, stm_1013, ldm_1014, stm_1014, ldm_1015, stm_1015, ldm_1016, stm_1016, ldm_1017, stm_1017, ldm_1018, stm_1018, ldm_1019, stm_1019, ldm_1020, stm_1020, ldm_1021, stm_1021, ldm_1022, stm_1022, u2_s, u2_a, u2_b, not_true, not_false_iff, hN']
set_option maxRecDepth 4000 in
theorem mblows_ok {q : Nat → Nat → Int64} {P A : Nat → Nat → Nat} {G : Nat → Bool} (m0 : Nat → Nat → Int32) (hS : m0 997 0 = nI (P 0 0)) (hN : m0 997 2 = nI (P 0 2)) (hS2 : P 0 0 ≤ 6) (hN2 : P 0 2 ≤ 6)
    (hA : ∀ p, p < P 0 2 → (m0 998 p = nI (A 1 p) ∧ A 1 p < P 0 0 * P 0 0) ∧ (m0 999 p = nI (A 2 p) ∧ A 2 p < 4) ∧ (m0 1000 p = nI (A 3 p) ∧ A 3 p ≤ 99)) (h4 : ∀ p, p < P 0 2 → m0 1001 p = nI (A 4 p)) :
    ∃ m1, F_X12_blows 996 (nI (gb G (P 0 2))) (KS, m0, q) = some ((), (KS, m1, q)) ∧ (∀ j, j ≠ 1004 → j ≠ 1000 → j ≠ 1001 → j ≠ 1002 → m1 j = m0 j) ∧ (∀ c, c < P 0 0 * P 0 0 → m1 1004 c = nI (wsum P A G c (P 0 2))) ∧ (∀ p, p < P 0 2 → m1 1000 p = (if G p then nI 0 else nI (A 3 p)) ∧ m1 1001 p = (if G p then nI (A 4 p + 1) else nI (A 4 p)) ∧ m1 1002 p = (if G p then m0 997 5 else m0 1002 p)) := by
  have hSS : P 0 0 * P 0 0 ≤ 36 := Nat.mul_le_mul hS2 hS2
  obtain ⟨f1, m1, e, i1, i2⟩ := loop_up (fun f i m => B_X12_blows_2 f 996 (nI (gb G (P 0 2))) (nI i) (KS, m, q)) (P 0 0 * P 0 0) (fun i m => (∀ j, j ≠ 1004 → m j = m0 j) ∧ (∀ c, c < i → m 1004 c = nI (wsum P A G c (P 0 2)))) (by
    intro f i m hi ⟨i1, i2⟩
    obtain ⟨m2, z1, z2, z3, z4⟩ := mblow1 (q := q) (P := P) (A := A) (G := G) (k2 := B_X12_blows_2 f) (c := i) (mk_u2 m 1004 i (nI 0)) (by rw [u2_a (by omega), i1 _ (by omega)]; exact hS) (by rw [u2_a (by omega), i1 _ (by omega)]; exact hN) hS2 hN2 hi (fun p hp => by rw [u2_a (by omega), u2_a (by omega), u2_a (by omega), i1 _ (by omega), i1 _ (by omega), i1 _ (by omega)]; exact hA p hp) u2_s
    refine ⟨m2, ?_, fun j hj => ?_, fun c hc => ?_⟩
    · simp only [B_X12_blows_2]
      rw [mcells_ok (S := P 0 0) (by rw [i1 _ (by omega)]; exact hS)]
      simp (disch := omega) only [gdm, gam_1, gam_2, gam_3, gam_4, gam_5, gam_6, gam_7, gam_8, gam_9, gam_10, gam_11, gam_12, gam_13, gam_14, gam_15, gam_16, gam_17, gam_18, gam_19, gam_20, gam_21, gam_22, gam_23, gam_24, gam_25, gam_26, gam_37, gam_38, gam_39, gam_40, gam_41, gam_42, gam_43, gam_44, gam_45, gam_46, gam_48, gam_49, gam_56, gam_57, gam_58, gam_59, gam_60, gam_61, gim_27, gim_28, gim_29, gim_30, gim_31, gim_32, gim_33, gim_34, gim_35, gim_36, gim_47, gim_50, gim_51, gim_52, gim_53, gim_54, gim_55, gim_62, gim_63, ob_some, reduceIte, lit, le_T, le_F, lt_T, lt_F, eq_T, eq_F, nI_add, ldm_997, stm_997, ldm_998, stm_998, ldm_999, stm_999, ldm_1000, stm_1000, ldm_1001, stm_1001, ldm_1002, stm_1002, ldm_1003, stm_1003, ldm_1004, stm_1004, ldm_1005, stm_1005, ldm_1006, stm_1006, ldm_1007, stm_1007, ldm_1008, stm_1008, ldm_1009, stm_1009, ldm_1010, stm_1010, ldm_1011, stm_1011, ldm_1012, stm_1012, ldm_1013, stm_1013, ldm_1014, stm_1014, ldm_1015, stm_1015, ldm_1016, stm_1016, ldm_1017, stm_1017, ldm_1018, stm_1018, ldm_1019, stm_1019, ldm_1020, stm_1020, ldm_1021, stm_1021, ldm_1022, stm_1022, u2_s, u2_a, u2_b, not_true, not_false_iff]
      exact z1
    · rw [z2 j hj, mk_u2_ne hj]; exact i1 j hj
    · by_cases h : c = i
      · subst h; exact z4
      · rw [z3 c h, u2_b h]; exact i2 c (by omega)) (P 0 0 * P 0 0) 0 mk_fu m0 (by omega) (by rw [mk_fu_eq]; omega) ⟨fun _ _ => rfl, fun _ h => absurd h (by omega)⟩
  have hN1 : m1 997 2 = nI (P 0 2) := by rw [i1 _ (by omega)]; exact hN
  obtain ⟨f2, m2, e2, j1, j2, j3⟩ := loop_up (fun f i m => B_X12_blows_70 f 996 (nI (gb G (P 0 2))) (nI i) (KS, m, q)) (P 0 2) (fun i m => (∀ j, j ≠ 1000 → j ≠ 1001 → j ≠ 1002 → m j = m1 j) ∧ (∀ p, p < P 0 2 → p < i → m 1000 p = (if G p then nI 0 else nI (A 3 p)) ∧ m 1001 p = (if G p then nI (A 4 p + 1) else nI (A 4 p)) ∧ m 1002 p = (if G p then m0 997 5 else m0 1002 p)) ∧ (∀ p, p < P 0 2 → i ≤ p → m 1000 p = nI (A 3 p) ∧ m 1001 p = nI (A 4 p) ∧ m 1002 p = m0 1002 p)) (by
    intro f i m hi ⟨i3, i4, i5⟩
    have hN' : m 997 2 = nI (P 0 2) := by rw [i3 _ (by omega) (by omega) (by omega)]; exact hN1
    have h5 : m 997 5 = m0 997 5 := by rw [i3 _ (by omega) (by omega) (by omega), i1 _ (by omega)]
    obtain ⟨k1, k2, k3⟩ := i5 i hi (Nat.le_refl _)
    cases hg : G i
    · refine ⟨m, ?_, i3, fun p hp hp2 => ?_, fun p hp hp2 => i5 p hp (by omega)⟩
      · simp only [B_X12_blows_70]
        simp (disch := omega) only [gdm, gam_1, gam_2, gam_3, gam_4, gam_5, gam_6, gam_7, gam_8, gam_9, gam_10, gam_11, gam_12, gam_13, gam_14, gam_15, gam_16, gam_17, gam_18, gam_19, gam_20, gam_21, gam_22, gam_23, gam_24, gam_25, gam_26, gam_37, gam_38, gam_39, gam_40, gam_41, gam_42, gam_43, gam_44, gam_45, gam_46, gam_48, gam_49, gam_56, gam_57, gam_58, gam_59, gam_60, gam_61, gim_27, gim_28, gim_29, gim_30, gim_31, gim_32, gim_33, gim_34, gim_35, gim_36, gim_47, gim_50, gim_51, gim_52, gim_53, gim_54, gim_55, gim_62, gim_63, ob_some, reduceIte, lit, le_T, le_F, lt_T, lt_F, eq_T, eq_F, nI_add, ldm_997, stm_997, ldm_998, stm_998, ldm_999, stm_999, ldm_1000, stm_1000, ldm_1001, stm_1001, ldm_1002, stm_1002, ldm_1003, stm_1003, ldm_1004, stm_1004, ldm_1005, stm_1005, ldm_1006, stm_1006, ldm_1007, stm_1007, ldm_1008, stm_1008, ldm_1009, stm_1009, ldm_1010, stm_1010, ldm_1011, stm_1011, ldm_1012, stm_1012, ldm_1013, stm_1013, ldm_1014, stm_1014, ldm_1015, stm_1015, ldm_1016, stm_1016, ldm_1017, stm_1017, ldm_1018, stm_1018, ldm_1019, stm_1019, ldm_1020, stm_1020, ldm_1021, stm_1021, ldm_1022, stm_1022, u2_s, u2_a, u2_b, not_true, not_false_iff, hN', mhas_ok hN2 hi, hg, Bool.false_eq_true, B_X12_blows_117]
      · by_cases h : p = i
        · subst h; rw [hg]; exact ⟨k1, k2, k3⟩
        · exact i4 p hp (by omega)
    · refine ⟨mk_u2 (mk_u2 (mk_u2 m 1000 i (nI 0)) 1001 i (nI (A 4 i + 1))) 1002 i (m0 997 5), ?_, fun j x1 x2 x3 => ?_, fun p hp hp2 => ?_, fun p hp hp2 => ?_⟩
      · simp only [B_X12_blows_70]
        simp (disch := omega) only [gdm, gam_1, gam_2, gam_3, gam_4, gam_5, gam_6, gam_7, gam_8, gam_9, gam_10, gam_11, gam_12, gam_13, gam_14, gam_15, gam_16, gam_17, gam_18, gam_19, gam_20, gam_21, gam_22, gam_23, gam_24, gam_25, gam_26, gam_37, gam_38, gam_39, gam_40, gam_41, gam_42, gam_43, gam_44, gam_45, gam_46, gam_48, gam_49, gam_56, gam_57, gam_58, gam_59, gam_60, gam_61, gim_27, gim_28, gim_29, gim_30, gim_31, gim_32, gim_33, gim_34, gim_35, gim_36, gim_47, gim_50, gim_51, gim_52, gim_53, gim_54, gim_55, gim_62, gim_63, ob_some, reduceIte, lit, le_T, le_F, lt_T, lt_F, eq_T, eq_F, nI_add, ldm_997, stm_997, ldm_998, stm_998, ldm_999, stm_999, ldm_1000, stm_1000, ldm_1001, stm_1001, ldm_1002, stm_1002, ldm_1003, stm_1003, ldm_1004, stm_1004, ldm_1005, stm_1005, ldm_1006, stm_1006, ldm_1007, stm_1007, ldm_1008, stm_1008, ldm_1009, stm_1009, ldm_1010, stm_1010, ldm_1011, stm_1011, ldm_1012, stm_1012, ldm_1013, stm_1013, ldm_1014, stm_1014, ldm_1015, stm_1015, ldm_1016, stm_1016, ldm_1017, stm_1017, ldm_1018, stm_1018, ldm_1019, stm_1019, ldm_1020, stm_1020, ldm_1021, stm_1021, ldm_1022, stm_1022, u2_s, u2_a, u2_b, not_true, not_false_iff, hN', mhas_ok hN2 hi, hg, B_X12_blows_117, k2, h5]
      · rw [mk_u2_ne x3, mk_u2_ne x2, mk_u2_ne x1]; exact i3 j x1 x2 x3
      · by_cases h : p = i
        · subst h
          simp (disch := omega) only [gdm, gam_1, gam_2, gam_3, gam_4, gam_5, gam_6, gam_7, gam_8, gam_9, gam_10, gam_11, gam_12, gam_13, gam_14, gam_15, gam_16, gam_17, gam_18, gam_19, gam_20, gam_21, gam_22, gam_23, gam_24, gam_25, gam_26, gam_37, gam_38, gam_39, gam_40, gam_41, gam_42, gam_43, gam_44, gam_45, gam_46, gam_48, gam_49, gam_56, gam_57, gam_58, gam_59, gam_60, gam_61, gim_27, gim_28, gim_29, gim_30, gim_31, gim_32, gim_33, gim_34, gim_35, gim_36, gim_47, gim_50, gim_51, gim_52, gim_53, gim_54, gim_55, gim_62, gim_63, ob_some, reduceIte, lit, le_T, le_F, lt_T, lt_F, eq_T, eq_F, nI_add, ldm_997, stm_997, ldm_998, stm_998, ldm_999, stm_999, ldm_1000, stm_1000, ldm_1001, stm_1001, ldm_1002, stm_1002, ldm_1003, stm_1003, ldm_1004, stm_1004, ldm_1005, stm_1005, ldm_1006, stm_1006, ldm_1007, stm_1007, ldm_1008, stm_1008, ldm_1009, stm_1009, ldm_1010, stm_1010, ldm_1011, stm_1011, ldm_1012, stm_1012, ldm_1013, stm_1013, ldm_1014, stm_1014, ldm_1015, stm_1015, ldm_1016, stm_1016, ldm_1017, stm_1017, ldm_1018, stm_1018, ldm_1019, stm_1019, ldm_1020, stm_1020, ldm_1021, stm_1021, ldm_1022, stm_1022, u2_s, u2_a, u2_b, not_true, not_false_iff, hg, and_self]
        · simp (disch := omega) only [u2_s, u2_a, u2_b]
          exact i4 p hp (by omega)
      · simp (disch := omega) only [u2_s, u2_a, u2_b]
        exact i5 p hp (by omega)) (P 0 2) 0 mk_fu m1 (by omega) (by rw [mk_fu_eq]; omega) ⟨fun _ _ _ _ => rfl, fun _ _ h => absurd h (by omega), fun p hp _ => by rw [i1 _ (by omega), i1 _ (by omega), i1 _ (by omega)]; exact ⟨(hA p hp).2.2.1, h4 p hp, rfl⟩⟩
  refine ⟨m2, ?_, fun j x1 x2 x3 x4 => (j1 j x2 x3 x4).trans (i1 j x1), fun c hc => by rw [j1 _ (by omega) (by omega) (by omega)]; exact i2 c hc, fun p hp => j2 p hp hp⟩
  unfold F_X12_blows
  rw [gdm]
  refine Eq.trans e ?_
  simp only [B_X12_blows_2]
  rw [mcells_ok (S := P 0 0) (by rw [i1 _ (by omega)]; exact hS)]
  simp (disch := omega) only [gdm, gam_1, gam_2, gam_3, gam_4, gam_5, gam_6, gam_7, gam_8, gam_9, gam_10, gam_11, gam_12, gam_13, gam_14, gam_15, gam_16, gam_17, gam_18, gam_19, gam_20, gam_21, gam_22, gam_23, gam_24, gam_25, gam_26, gam_37, gam_38, gam_39, gam_40, gam_41, gam_42, gam_43, gam_44, gam_45, gam_46, gam_48, gam_49, gam_56, gam_57, gam_58, gam_59, gam_60, gam_61, gim_27, gim_28, gim_29, gim_30, gim_31, gim_32, gim_33, gim_34, gim_35, gim_36, gim_47, gim_50, gim_51, gim_52, gim_53, gim_54, gim_55, gim_62, gim_63, ob_some, reduceIte, lit, le_T, le_F, lt_T, lt_F, eq_T, eq_F, nI_add, ldm_997, stm_997, ldm_998, stm_998, ldm_999, stm_999, ldm_1000, stm_1000, ldm_1001, stm_1001, ldm_1002, stm_1002, ldm_1003, stm_1003, ldm_1004, stm_1004, ldm_1005, stm_1005, ldm_1006, stm_1006, ldm_1007, stm_1007, ldm_1008, stm_1008, ldm_1009, stm_1009, ldm_1010, stm_1010, ldm_1011, stm_1011, ldm_1012, stm_1012, ldm_1013, stm_1013, ldm_1014, stm_1014, ldm_1015, stm_1015, ldm_1016, stm_1016, ldm_1017, stm_1017, ldm_1018, stm_1018, ldm_1019, stm_1019, ldm_1020, stm_1020, ldm_1021, stm_1021, ldm_1022, stm_1022, u2_s, u2_a, u2_b, not_true, not_false_iff]
  refine Eq.trans e2 ?_
  have hN' : m2 997 2 = nI (P 0 2) := by rw [j1 _ (by omega) (by omega) (by omega)]; exact hN1
  simp only [B_X12_blows_70]
  simp (disch := omega) only [gdm, gam_1, gam_2, gam_3, gam_4, gam_5, gam_6, gam_7, gam_8, gam_9, gam_10, gam_11, gam_12, gam_13, gam_14, gam_15, gam_16, gam_17, gam_18, gam_19, gam_20, gam_21, gam_22, gam_23, gam_24, gam_25, gam_26, gam_37, gam_38, gam_39, gam_40, gam_41, gam_42, gam_43, gam_44, gam_45, gam_46, gam_48, gam_49, gam_56, gam_57, gam_58, gam_59, gam_60, gam_61, gim_27, gim_28, gim_29, gim_30, gim_31, gim_32, gim_33, gim_34, gim_35, gim_36, gim_47, gim_50, gim_51, gim_52, gim_53, gim_54, gim_55, gim_62, gim_63, ob_some, reduceIte, lit, le_T, le_F, lt_T, lt_F, eq_T, eq_F, nI_add, ldm_997, stm_997, ldm_998, stm_998, ldm_999, stm_999, ldm_1000, stm_1000, ldm_1001, stm_1001, ldm_1002, stm_1002, ldm_1003, stm_1003, ldm_1004, stm_1004, ldm_1005, stm_1005, ldm_1006, stm_1006, ldm_1007, stm_1007, ldm_1008, stm_1008, ldm_1009, stm_1009, ldm_1010, stm_1010, ldm_1011, stm_1011, ldm_1012, stm_1012, ldm_1013, stm_1013, ldm_1014, stm_1014, ldm_1015, stm_1015, ldm_1016, stm_1016, ldm_1017, stm_1017, ldm_1018, stm_1018, ldm_1019, stm_1019, ldm_1020, stm_1020, ldm_1021, stm_1021, ldm_1022, stm_1022, u2_s, u2_a, u2_b, not_true, not_false_iff, hN']
set_option maxRecDepth 4000 in
theorem bit_orN {i o : Nat} (hi : i < 4) (ho : o < 16) : nI o ||| (nI 1 <<< (nI i &&& nI 31)) = nI (o ||| 2 ^ i) := (bit_or4 i hi o ho).1
set_option maxRecDepth 4000 in
theorem or_0 (x : Int32) : x ||| nI 0 = x := Int32.or_zero
set_option maxRecDepth 4000 in
theorem mworks_ok {q : Nat → Nat → Int64} {P A B : Nat → Nat → Nat} (m0 : Nat → Nat → Int32) (hP : MP m0 P) (hB : ∀ p, p < P 0 2 → (m0 998 p = nI (A 1 p) ∧ A 1 p < P 0 0 * P 0 0) ∧ m0 1000 p = nI (B 3 p) ∧ B 3 p ≤ 99) (h6 : ∀ k, k < P 0 3 → m0 1003 k = nI (A 6 k) ∧ A 6 k ≤ 9999) (h7 : ∀ c, c < P 0 0 * P 0 0 → m0 1004 c = nI (B 7 c) ∧ B 7 c ≤ 600) (ho : m0 997 6 = nI (A 0 0)) (ho2 : A 0 0 < 16) :
    ∃ m1, F_X12_works 996 (KS, m0, q) = some ((), (KS, m1, q)) ∧ (∀ j, j ≠ 997 → j ≠ 1000 → j ≠ 1003 → m1 j = m0 j) ∧ (∀ k, k ≠ 6 → m1 997 k = m0 997 k) ∧ m1 997 6 = nI (offN P (B 7) (A 0 0) (P 0 4)) ∧ (∀ k, k < P 0 3 → m1 1003 k = nI (min 9999 (A 6 k + min (P 5 k) (B 7 (P 4 k))))) ∧ (∀ p, p < P 0 2 → m1 1000 p = nI (min 99 (B 3 p + B 7 (A 1 p) / P 0 1))) := by
  obtain ⟨⟨p0, p1, p2, p3, p4⟩, ⟨b0, b1, b2, b3, b4, b5, b6⟩, hp5, hp6, hp7⟩ := id hP
  have hSS := hP.sq
  have p0 : m0 997 0 = nI (P 0 0) := p0
  have p1 : m0 997 1 = nI (P 0 1) := p1
  have p2 : m0 997 2 = nI (P 0 2) := p2
  have p3 : m0 997 3 = nI (P 0 3) := p3
  have p4 : m0 997 4 = nI (P 0 4) := p4
  obtain ⟨f1, m1, e, i1, i2⟩ := loop_up (fun f i m => B_X12_works_2 f 996 (nI i) (KS, m, q)) (P 0 3) (fun i m => (∀ j, j ≠ 1003 → m j = m0 j) ∧ (∀ k, k < P 0 3 → m 1003 k = if k < i then nI (min 9999 (A 6 k + min (P 5 k) (B 7 (P 4 k)))) else nI (A 6 k))) (by
    intro f i m hi ⟨i1, i2⟩
    obtain ⟨⟨k4, l4⟩, k5, l5⟩ := hp6 i hi
    have k4 : m0 1006 i = nI (P 4 i) := k4
    have k5 : m0 1007 i = nI (P 5 i) := k5
    have k6 := i2 i hi
    rw [if_neg (Nat.lt_irrefl i)] at k6
    obtain ⟨k7, l7⟩ := h7 _ l4
    have l6 := (h6 i hi).2
    refine ⟨mk_u2 m 1003 i (nI (min 9999 (A 6 i + min (P 5 i) (B 7 (P 4 i))))), ?_, fun j hj => ?_, fun k hk => ?_⟩
    · simp only [B_X12_works_2]
      simp (disch := omega) only [gdm, gam_1, gam_2, gam_3, gam_4, gam_5, gam_6, gam_7, gam_8, gam_9, gam_10, gam_11, gam_12, gam_13, gam_14, gam_15, gam_16, gam_17, gam_18, gam_19, gam_20, gam_21, gam_22, gam_23, gam_24, gam_25, gam_26, gam_37, gam_38, gam_39, gam_40, gam_41, gam_42, gam_43, gam_44, gam_45, gam_46, gam_48, gam_49, gam_56, gam_57, gam_58, gam_59, gam_60, gam_61, gim_27, gim_28, gim_29, gim_30, gim_31, gim_32, gim_33, gim_34, gim_35, gim_36, gim_47, gim_50, gim_51, gim_52, gim_53, gim_54, gim_55, gim_62, gim_63, ob_some, reduceIte, lit, le_T, le_F, lt_T, lt_F, eq_T, eq_F, nI_add, ldm_997, stm_997, ldm_998, stm_998, ldm_999, stm_999, ldm_1000, stm_1000, ldm_1001, stm_1001, ldm_1002, stm_1002, ldm_1003, stm_1003, ldm_1004, stm_1004, ldm_1005, stm_1005, ldm_1006, stm_1006, ldm_1007, stm_1007, ldm_1008, stm_1008, ldm_1009, stm_1009, ldm_1010, stm_1010, ldm_1011, stm_1011, ldm_1012, stm_1012, ldm_1013, stm_1013, ldm_1014, stm_1014, ldm_1015, stm_1015, ldm_1016, stm_1016, ldm_1017, stm_1017, ldm_1018, stm_1018, ldm_1019, stm_1019, ldm_1020, stm_1020, ldm_1021, stm_1021, ldm_1022, stm_1022, u2_s, u2_a, u2_b, not_true, not_false_iff, i1, p3, k4, k5, k6, k7, up_to]
    · rw [mk_u2_ne hj]; exact i1 j hj
    · by_cases h : k = i
      · subst h; rw [u2_s, if_pos (by omega)]
      · rw [u2_b h, i2 k hk]
        have e2 : k < i + 1 ↔ k < i := by omega
        simp only [e2]) (P 0 3) 0 mk_fu m0 (by omega) (by rw [mk_fu_eq]; omega) ⟨fun _ _ => rfl, fun k hk => by rw [if_neg (by omega)]; exact (h6 k hk).1⟩
  obtain ⟨f2, m2, e2, j1, j2, j3⟩ := loop_up (fun f i m => B_X12_works_59 f 996 (nI i) (KS, m, q)) (P 0 4) (fun i m => (∀ j, j ≠ 997 → m j = m1 j) ∧ (∀ k, k ≠ 6 → m 997 k = m1 997 k) ∧ m 997 6 = nI (offN P (B 7) (A 0 0) i)) (by
    intro f i m hi ⟨j1, j2, j3⟩
    obtain ⟨⟨k6, l6⟩, k7, l7⟩ := hp7 i hi
    have k6 : m0 1008 i = nI (P 6 i) := k6
    have k7 : m0 1009 i = nI (P 7 i) := k7
    obtain ⟨k8, l8⟩ := h7 _ l6
    have hof := offN_lt (P := P) (W := B 7) ho2 i (by omega)
    refine ⟨mk_u2 m 997 6 (nI (offN P (B 7) (A 0 0) (i + 1))), ?_, fun j hj => ?_, fun k hk => ?_, u2_s⟩
    · simp only [B_X12_works_59]
      by_cases h : P 7 i < B 7 (P 6 i)
      · simp (disch := omega) only [gdm, gam_1, gam_2, gam_3, gam_4, gam_5, gam_6, gam_7, gam_8, gam_9, gam_10, gam_11, gam_12, gam_13, gam_14, gam_15, gam_16, gam_17, gam_18, gam_19, gam_20, gam_21, gam_22, gam_23, gam_24, gam_25, gam_26, gam_37, gam_38, gam_39, gam_40, gam_41, gam_42, gam_43, gam_44, gam_45, gam_46, gam_48, gam_49, gam_56, gam_57, gam_58, gam_59, gam_60, gam_61, gim_27, gim_28, gim_29, gim_30, gim_31, gim_32, gim_33, gim_34, gim_35, gim_36, gim_47, gim_50, gim_51, gim_52, gim_53, gim_54, gim_55, gim_62, gim_63, ob_some, reduceIte, lit, le_T, le_F, lt_T, lt_F, eq_T, eq_F, nI_add, ldm_997, stm_997, ldm_998, stm_998, ldm_999, stm_999, ldm_1000, stm_1000, ldm_1001, stm_1001, ldm_1002, stm_1002, ldm_1003, stm_1003, ldm_1004, stm_1004, ldm_1005, stm_1005, ldm_1006, stm_1006, ldm_1007, stm_1007, ldm_1008, stm_1008, ldm_1009, stm_1009, ldm_1010, stm_1010, ldm_1011, stm_1011, ldm_1012, stm_1012, ldm_1013, stm_1013, ldm_1014, stm_1014, ldm_1015, stm_1015, ldm_1016, stm_1016, ldm_1017, stm_1017, ldm_1018, stm_1018, ldm_1019, stm_1019, ldm_1020, stm_1020, ldm_1021, stm_1021, ldm_1022, stm_1022, u2_s, u2_a, u2_b, not_true, not_false_iff, j1, j2, i1, p4, k6, k7, k8, j3, B_X12_works_104, bit_orN, offN, h]
      · simp (disch := omega) only [gdm, gam_1, gam_2, gam_3, gam_4, gam_5, gam_6, gam_7, gam_8, gam_9, gam_10, gam_11, gam_12, gam_13, gam_14, gam_15, gam_16, gam_17, gam_18, gam_19, gam_20, gam_21, gam_22, gam_23, gam_24, gam_25, gam_26, gam_37, gam_38, gam_39, gam_40, gam_41, gam_42, gam_43, gam_44, gam_45, gam_46, gam_48, gam_49, gam_56, gam_57, gam_58, gam_59, gam_60, gam_61, gim_27, gim_28, gim_29, gim_30, gim_31, gim_32, gim_33, gim_34, gim_35, gim_36, gim_47, gim_50, gim_51, gim_52, gim_53, gim_54, gim_55, gim_62, gim_63, ob_some, reduceIte, lit, le_T, le_F, lt_T, lt_F, eq_T, eq_F, nI_add, ldm_997, stm_997, ldm_998, stm_998, ldm_999, stm_999, ldm_1000, stm_1000, ldm_1001, stm_1001, ldm_1002, stm_1002, ldm_1003, stm_1003, ldm_1004, stm_1004, ldm_1005, stm_1005, ldm_1006, stm_1006, ldm_1007, stm_1007, ldm_1008, stm_1008, ldm_1009, stm_1009, ldm_1010, stm_1010, ldm_1011, stm_1011, ldm_1012, stm_1012, ldm_1013, stm_1013, ldm_1014, stm_1014, ldm_1015, stm_1015, ldm_1016, stm_1016, ldm_1017, stm_1017, ldm_1018, stm_1018, ldm_1019, stm_1019, ldm_1020, stm_1020, ldm_1021, stm_1021, ldm_1022, stm_1022, u2_s, u2_a, u2_b, not_true, not_false_iff, j1, j2, i1, p4, k6, k7, k8, j3, B_X12_works_104, or_0, offN, h]
    · rw [mk_u2_ne hj]; exact j1 j hj
    · rw [u2_b hk]; exact j2 k hk) (P 0 4) 0 mk_fu m1 (by omega) (by rw [mk_fu_eq]; omega) ⟨fun _ _ => rfl, fun _ _ => rfl, by rw [i1 _ (by omega)]; exact ho⟩
  obtain ⟨f3, m3, e3, k1, k2⟩ := loop_up (fun f i m => B_X12_works_114 f 996 (nI i) (KS, m, q)) (P 0 2) (fun i m => (∀ j, j ≠ 1000 → m j = m2 j) ∧ (∀ p, p < P 0 2 → m 1000 p = if p < i then nI (min 99 (B 3 p + B 7 (A 1 p) / P 0 1)) else nI (B 3 p))) (by
    intro f i m hi ⟨i3, i4⟩
    obtain ⟨⟨k1, l1⟩, k3, l3⟩ := hB i hi
    have k5 := i4 i hi
    rw [if_neg (Nat.lt_irrefl i)] at k5
    obtain ⟨k7, l7⟩ := h7 _ l1
    have hdv := Nat.div_le_self (B 7 (A 1 i)) (P 0 1)
    refine ⟨mk_u2 m 1000 i (nI (min 99 (B 3 i + B 7 (A 1 i) / P 0 1))), ?_, fun j hj => ?_, fun k hk => ?_⟩
    · simp only [B_X12_works_114]
      simp (disch := omega) only [gdm, gam_1, gam_2, gam_3, gam_4, gam_5, gam_6, gam_7, gam_8, gam_9, gam_10, gam_11, gam_12, gam_13, gam_14, gam_15, gam_16, gam_17, gam_18, gam_19, gam_20, gam_21, gam_22, gam_23, gam_24, gam_25, gam_26, gam_37, gam_38, gam_39, gam_40, gam_41, gam_42, gam_43, gam_44, gam_45, gam_46, gam_48, gam_49, gam_56, gam_57, gam_58, gam_59, gam_60, gam_61, gim_27, gim_28, gim_29, gim_30, gim_31, gim_32, gim_33, gim_34, gim_35, gim_36, gim_47, gim_50, gim_51, gim_52, gim_53, gim_54, gim_55, gim_62, gim_63, ob_some, reduceIte, lit, le_T, le_F, lt_T, lt_F, eq_T, eq_F, nI_add, ldm_997, stm_997, ldm_998, stm_998, ldm_999, stm_999, ldm_1000, stm_1000, ldm_1001, stm_1001, ldm_1002, stm_1002, ldm_1003, stm_1003, ldm_1004, stm_1004, ldm_1005, stm_1005, ldm_1006, stm_1006, ldm_1007, stm_1007, ldm_1008, stm_1008, ldm_1009, stm_1009, ldm_1010, stm_1010, ldm_1011, stm_1011, ldm_1012, stm_1012, ldm_1013, stm_1013, ldm_1014, stm_1014, ldm_1015, stm_1015, ldm_1016, stm_1016, ldm_1017, stm_1017, ldm_1018, stm_1018, ldm_1019, stm_1019, ldm_1020, stm_1020, ldm_1021, stm_1021, ldm_1022, stm_1022, u2_s, u2_a, u2_b, not_true, not_false_iff, i3, j1, j2, i1, p1, p2, k1, k5, k7, pk_div, up_to]
    · rw [mk_u2_ne hj]; exact i3 j hj
    · by_cases h : k = i
      · subst h; rw [u2_s, if_pos (by omega)]
      · rw [u2_b h, i4 k hk]
        have e2 : k < i + 1 ↔ k < i := by omega
        simp only [e2]) (P 0 2) 0 mk_fu m2 (by omega) (by rw [mk_fu_eq]; omega) ⟨fun _ _ => rfl, fun p hp => by rw [if_neg (by omega), j1 _ (by omega), i1 _ (by omega)]; exact (hB p hp).2.1⟩
  refine ⟨m3, ?_, fun j x1 x2 x3 => (k1 j x2).trans ((j1 j x1).trans (i1 j x3)), fun k hk => by rw [k1 _ (by omega), j2 k hk, i1 _ (by omega)], by rw [k1 _ (by omega)]; exact j3, fun k hk => by rw [k1 _ (by omega), j1 _ (by omega), i2 k hk, if_pos hk], fun p hp => by rw [k2 p hp, if_pos hp]⟩
  unfold F_X12_works
  rw [gdm]
  refine Eq.trans e ?_
  simp only [B_X12_works_2]
  simp (disch := omega) only [gdm, gam_1, gam_2, gam_3, gam_4, gam_5, gam_6, gam_7, gam_8, gam_9, gam_10, gam_11, gam_12, gam_13, gam_14, gam_15, gam_16, gam_17, gam_18, gam_19, gam_20, gam_21, gam_22, gam_23, gam_24, gam_25, gam_26, gam_37, gam_38, gam_39, gam_40, gam_41, gam_42, gam_43, gam_44, gam_45, gam_46, gam_48, gam_49, gam_56, gam_57, gam_58, gam_59, gam_60, gam_61, gim_27, gim_28, gim_29, gim_30, gim_31, gim_32, gim_33, gim_34, gim_35, gim_36, gim_47, gim_50, gim_51, gim_52, gim_53, gim_54, gim_55, gim_62, gim_63, ob_some, reduceIte, lit, le_T, le_F, lt_T, lt_F, eq_T, eq_F, nI_add, ldm_997, stm_997, ldm_998, stm_998, ldm_999, stm_999, ldm_1000, stm_1000, ldm_1001, stm_1001, ldm_1002, stm_1002, ldm_1003, stm_1003, ldm_1004, stm_1004, ldm_1005, stm_1005, ldm_1006, stm_1006, ldm_1007, stm_1007, ldm_1008, stm_1008, ldm_1009, stm_1009, ldm_1010, stm_1010, ldm_1011, stm_1011, ldm_1012, stm_1012, ldm_1013, stm_1013, ldm_1014, stm_1014, ldm_1015, stm_1015, ldm_1016, stm_1016, ldm_1017, stm_1017, ldm_1018, stm_1018, ldm_1019, stm_1019, ldm_1020, stm_1020, ldm_1021, stm_1021, ldm_1022, stm_1022, u2_s, u2_a, u2_b, not_true, not_false_iff, i1, p3]
  refine Eq.trans e2 ?_
  simp only [B_X12_works_59]
  simp (disch := omega) only [gdm, gam_1, gam_2, gam_3, gam_4, gam_5, gam_6, gam_7, gam_8, gam_9, gam_10, gam_11, gam_12, gam_13, gam_14, gam_15, gam_16, gam_17, gam_18, gam_19, gam_20, gam_21, gam_22, gam_23, gam_24, gam_25, gam_26, gam_37, gam_38, gam_39, gam_40, gam_41, gam_42, gam_43, gam_44, gam_45, gam_46, gam_48, gam_49, gam_56, gam_57, gam_58, gam_59, gam_60, gam_61, gim_27, gim_28, gim_29, gim_30, gim_31, gim_32, gim_33, gim_34, gim_35, gim_36, gim_47, gim_50, gim_51, gim_52, gim_53, gim_54, gim_55, gim_62, gim_63, ob_some, reduceIte, lit, le_T, le_F, lt_T, lt_F, eq_T, eq_F, nI_add, ldm_997, stm_997, ldm_998, stm_998, ldm_999, stm_999, ldm_1000, stm_1000, ldm_1001, stm_1001, ldm_1002, stm_1002, ldm_1003, stm_1003, ldm_1004, stm_1004, ldm_1005, stm_1005, ldm_1006, stm_1006, ldm_1007, stm_1007, ldm_1008, stm_1008, ldm_1009, stm_1009, ldm_1010, stm_1010, ldm_1011, stm_1011, ldm_1012, stm_1012, ldm_1013, stm_1013, ldm_1014, stm_1014, ldm_1015, stm_1015, ldm_1016, stm_1016, ldm_1017, stm_1017, ldm_1018, stm_1018, ldm_1019, stm_1019, ldm_1020, stm_1020, ldm_1021, stm_1021, ldm_1022, stm_1022, u2_s, u2_a, u2_b, not_true, not_false_iff, j1, j2, i1, p4]
  refine Eq.trans e3 ?_
  simp only [B_X12_works_114]
  simp (disch := omega) only [gdm, gam_1, gam_2, gam_3, gam_4, gam_5, gam_6, gam_7, gam_8, gam_9, gam_10, gam_11, gam_12, gam_13, gam_14, gam_15, gam_16, gam_17, gam_18, gam_19, gam_20, gam_21, gam_22, gam_23, gam_24, gam_25, gam_26, gam_37, gam_38, gam_39, gam_40, gam_41, gam_42, gam_43, gam_44, gam_45, gam_46, gam_48, gam_49, gam_56, gam_57, gam_58, gam_59, gam_60, gam_61, gim_27, gim_28, gim_29, gim_30, gim_31, gim_32, gim_33, gim_34, gim_35, gim_36, gim_47, gim_50, gim_51, gim_52, gim_53, gim_54, gim_55, gim_62, gim_63, ob_some, reduceIte, lit, le_T, le_F, lt_T, lt_F, eq_T, eq_F, nI_add, ldm_997, stm_997, ldm_998, stm_998, ldm_999, stm_999, ldm_1000, stm_1000, ldm_1001, stm_1001, ldm_1002, stm_1002, ldm_1003, stm_1003, ldm_1004, stm_1004, ldm_1005, stm_1005, ldm_1006, stm_1006, ldm_1007, stm_1007, ldm_1008, stm_1008, ldm_1009, stm_1009, ldm_1010, stm_1010, ldm_1011, stm_1011, ldm_1012, stm_1012, ldm_1013, stm_1013, ldm_1014, stm_1014, ldm_1015, stm_1015, ldm_1016, stm_1016, ldm_1017, stm_1017, ldm_1018, stm_1018, ldm_1019, stm_1019, ldm_1020, stm_1020, ldm_1021, stm_1021, ldm_1022, stm_1022, u2_s, u2_a, u2_b, not_true, not_false_iff, k1, j1, j2, i1, p2]
set_option maxRecDepth 4000 in
theorem sub_s (a b : Int32) : a + 1 - (b + 1) = a - b := by grind
set_option maxRecDepth 4000 in
theorem gb_orN {G : Nat → Bool} {i : Nat} (hi : i < 6) (h : G i = true) : nI (gb G i) ||| (nI 1 <<< (nI i &&& nI 31)) = nI (gb G (i + 1)) := gb_or hi h
set_option maxRecDepth 4000 in
/-- an hour of the reference -/
theorem goes_ok {q : Nat → Nat → Int64} {P A : Nat → Nat → Nat} {G : Nat → Bool} (m0 : Nat → Nat → Int32) (hP : MP m0 P) (hA : MS P (blk m0 997) A) (hh : A 0 1 < 100000)
    (hSay : ∀ m1, (∀ j, j ≠ 1000 → m1 j = m0 j) → (∀ p, p < P 0 2 → m1 1000 p = nI (min 99 (A 3 p + 1))) → ∀ p, p < P 0 2 → ∀ q, ∃ q1, F_X12_givesWay 996 (nI p) (KS, m1, q) = some (if G p then nI 1 else nI 0, (KS, m1, q1))) :
    ∃ m1 q1, F_X12_goes 996 (KS, m0, q) = some (nI (gb G (P 0 2)), (KS, m1, q1)) ∧ (∀ j, j ≠ 997 → j ≠ 1000 → j ≠ 1001 → j ≠ 1002 → j ≠ 1003 → j ≠ 1004 → m1 j = m0 j) ∧ (∀ k, k ≠ 5 → k ≠ 6 → m1 997 k = m0 997 k) ∧ MS P (blk m1 997) (aP P A G) := by
  obtain ⟨⟨p0, p1, p2, p3, p4⟩, ⟨b0, b1, b2, b3, b4, b5, b6⟩, hp5, hp6, hp7⟩ := id hP
  have hSS := hP.sq
  have p0 : m0 997 0 = nI (P 0 0) := p0
  have p2 : m0 997 2 = nI (P 0 2) := p2
  obtain ⟨a1, a2, a3, ⟨a4, a4b⟩, ⟨a5, a5b⟩⟩ := hA
  have a4 : m0 997 6 = nI (A 0 0) := a4
  have a5 : m0 997 5 = nI (A 0 1) := a5
  have hW : ∀ c, aW P A G c ≤ 600 := fun c => aW_le b4
  obtain ⟨f1, m1, e, i1, i2⟩ := loop_up (fun f i m => B_X12_goes_4 f 996 0 (nI i) (KS, m, q)) (P 0 2) (fun i m => (∀ j, j ≠ 1000 → m j = m0 j) ∧ (∀ p, p < P 0 2 → m 1000 p = if p < i then nI (min 99 (A 3 p + 1)) else nI (A 3 p))) (by
    intro f i m hi ⟨i1, i2⟩
    have k6 := i2 i hi
    rw [if_neg (Nat.lt_irrefl i)] at k6
    have l6 := (a1 i hi).2.2.1.2
    refine ⟨mk_u2 m 1000 i (nI (min 99 (A 3 i + 1))), ?_, fun j hj => ?_, fun k hk => ?_⟩
    · simp only [B_X12_goes_4]
      simp (disch := omega) only [gdm, gam_1, gam_2, gam_3, gam_4, gam_5, gam_6, gam_7, gam_8, gam_9, gam_10, gam_11, gam_12, gam_13, gam_14, gam_15, gam_16, gam_17, gam_18, gam_19, gam_20, gam_21, gam_22, gam_23, gam_24, gam_25, gam_26, gam_37, gam_38, gam_39, gam_40, gam_41, gam_42, gam_43, gam_44, gam_45, gam_46, gam_48, gam_49, gam_56, gam_57, gam_58, gam_59, gam_60, gam_61, gim_27, gim_28, gim_29, gim_30, gim_31, gim_32, gim_33, gim_34, gim_35, gim_36, gim_47, gim_50, gim_51, gim_52, gim_53, gim_54, gim_55, gim_62, gim_63, ob_some, reduceIte, lit, le_T, le_F, lt_T, lt_F, eq_T, eq_F, nI_add, ldm_997, stm_997, ldm_998, stm_998, ldm_999, stm_999, ldm_1000, stm_1000, ldm_1001, stm_1001, ldm_1002, stm_1002, ldm_1003, stm_1003, ldm_1004, stm_1004, ldm_1005, stm_1005, ldm_1006, stm_1006, ldm_1007, stm_1007, ldm_1008, stm_1008, ldm_1009, stm_1009, ldm_1010, stm_1010, ldm_1011, stm_1011, ldm_1012, stm_1012, ldm_1013, stm_1013, ldm_1014, stm_1014, ldm_1015, stm_1015, ldm_1016, stm_1016, ldm_1017, stm_1017, ldm_1018, stm_1018, ldm_1019, stm_1019, ldm_1020, stm_1020, ldm_1021, stm_1021, ldm_1022, stm_1022, u2_s, u2_a, u2_b, not_true, not_false_iff, i1, p2, k6, up_to]
    · rw [mk_u2_ne hj]; exact i1 j hj
    · by_cases h : k = i
      · subst h; rw [u2_s, if_pos (by omega)]
      · rw [u2_b h, i2 k hk]
        have e2 : k < i + 1 ↔ k < i := by omega
        simp only [e2]) (P 0 2) 0 mk_fu m0 (by omega) (by rw [mk_fu_eq]; omega) ⟨fun _ _ => rfl, fun p hp => by rw [if_neg (by omega)]; exact (a1 p hp).2.2.1.1⟩
  have i2' : ∀ p, p < P 0 2 → m1 1000 p = nI (min 99 (A 3 p + 1)) := fun p hp => by rw [i2 p hp, if_pos hp]
  have hS1 := hSay m1 i1 i2'
  obtain ⟨f2, s2, e2, q2, hq2⟩ := loop_up (fun f i (s : Int32 × (Nat → Nat → Int64)) => B_X12_goes_41 f 996 s.1 (nI i) (KS, m1, s.2)) (P 0 2) (fun i s => ∃ q2, s = (nI (gb G i), q2)) (by
    rintro f i s hi ⟨q2, rfl⟩
    obtain ⟨q3, h3⟩ := hS1 i hi q2
    refine ⟨(nI (gb G (i + 1)), q3), ?_, q3, rfl⟩
    simp only [B_X12_goes_41]
    cases hg : G i
    · simp (disch := omega) only [gdm, gam_1, gam_2, gam_3, gam_4, gam_5, gam_6, gam_7, gam_8, gam_9, gam_10, gam_11, gam_12, gam_13, gam_14, gam_15, gam_16, gam_17, gam_18, gam_19, gam_20, gam_21, gam_22, gam_23, gam_24, gam_25, gam_26, gam_37, gam_38, gam_39, gam_40, gam_41, gam_42, gam_43, gam_44, gam_45, gam_46, gam_48, gam_49, gam_56, gam_57, gam_58, gam_59, gam_60, gam_61, gim_27, gim_28, gim_29, gim_30, gim_31, gim_32, gim_33, gim_34, gim_35, gim_36, gim_47, gim_50, gim_51, gim_52, gim_53, gim_54, gim_55, gim_62, gim_63, ob_some, reduceIte, lit, le_T, le_F, lt_T, lt_F, eq_T, eq_F, nI_add, ldm_997, stm_997, ldm_998, stm_998, ldm_999, stm_999, ldm_1000, stm_1000, ldm_1001, stm_1001, ldm_1002, stm_1002, ldm_1003, stm_1003, ldm_1004, stm_1004, ldm_1005, stm_1005, ldm_1006, stm_1006, ldm_1007, stm_1007, ldm_1008, stm_1008, ldm_1009, stm_1009, ldm_1010, stm_1010, ldm_1011, stm_1011, ldm_1012, stm_1012, ldm_1013, stm_1013, ldm_1014, stm_1014, ldm_1015, stm_1015, ldm_1016, stm_1016, ldm_1017, stm_1017, ldm_1018, stm_1018, ldm_1019, stm_1019, ldm_1020, stm_1020, ldm_1021, stm_1021, ldm_1022, stm_1022, u2_s, u2_a, u2_b, not_true, not_false_iff, i1, p2, h3, hg, Bool.false_eq_true, B_X12_goes_67, or_0, gb_no hg]
    · simp (disch := omega) only [gdm, gam_1, gam_2, gam_3, gam_4, gam_5, gam_6, gam_7, gam_8, gam_9, gam_10, gam_11, gam_12, gam_13, gam_14, gam_15, gam_16, gam_17, gam_18, gam_19, gam_20, gam_21, gam_22, gam_23, gam_24, gam_25, gam_26, gam_37, gam_38, gam_39, gam_40, gam_41, gam_42, gam_43, gam_44, gam_45, gam_46, gam_48, gam_49, gam_56, gam_57, gam_58, gam_59, gam_60, gam_61, gim_27, gim_28, gim_29, gim_30, gim_31, gim_32, gim_33, gim_34, gim_35, gim_36, gim_47, gim_50, gim_51, gim_52, gim_53, gim_54, gim_55, gim_62, gim_63, ob_some, reduceIte, lit, le_T, le_F, lt_T, lt_F, eq_T, eq_F, nI_add, ldm_997, stm_997, ldm_998, stm_998, ldm_999, stm_999, ldm_1000, stm_1000, ldm_1001, stm_1001, ldm_1002, stm_1002, ldm_1003, stm_1003, ldm_1004, stm_1004, ldm_1005, stm_1005, ldm_1006, stm_1006, ldm_1007, stm_1007, ldm_1008, stm_1008, ldm_1009, stm_1009, ldm_1010, stm_1010, ldm_1011, stm_1011, ldm_1012, stm_1012, ldm_1013, stm_1013, ldm_1014, stm_1014, ldm_1015, stm_1015, ldm_1016, stm_1016, ldm_1017, stm_1017, ldm_1018, stm_1018, ldm_1019, stm_1019, ldm_1020, stm_1020, ldm_1021, stm_1021, ldm_1022, stm_1022, u2_s, u2_a, u2_b, not_true, not_false_iff, i1, p2, h3, hg, Bool.false_eq_true, B_X12_goes_67, gb_orN (show i < 6 by omega) hg]) (P 0 2) 0 mk_fu (nI 0, q) (by omega) (by rw [mk_fu_eq]; omega) ⟨q, rfl⟩
  subst hq2
  obtain ⟨m2, x1, x2, x3, x4⟩ := mblows_ok (q := q2) (P := P) (A := aU A) (G := G) m1 (by rw [i1 _ (by omega)]; exact p0) (by rw [i1 _ (by omega)]; exact p2) b1 b4 (fun p hp => by
      obtain ⟨⟨c1, d1⟩, ⟨c2, d2⟩, -⟩ := a1 p hp
      rw [i1 998 (by omega), i1 999 (by omega), i2' p hp]
      exact ⟨⟨c1, d1⟩, ⟨c2, d2⟩, rfl, by simp only [aU, if_true]; omega⟩) (fun p hp => by rw [i1 _ (by omega)]; exact (a1 p hp).2.2.2.1.1)
  have x3' : ∀ c, c < P 0 0 * P 0 0 → m2 1004 c = nI (aW P A G c) := x3
  have hP2 : MP m2 P := by
    have e997 : m2 997 = m0 997 := by rw [x2 _ (by omega) (by omega) (by omega) (by omega), i1 _ (by omega)]
    unfold MP PR mpi at *
    simp (disch := omega) only [x2, i1] at *
    exact hP
  obtain ⟨m3, y1, y2, y3, y4, y5, y6⟩ := mworks_ok (q := q2) (P := P) (A := A) (B := fun j k => if j = 3 then (if G k then 0 else aU A 3 k) else aW P A G k) m2 hP2 (fun p hp => by
      obtain ⟨⟨c1, d1⟩, -⟩ := a1 p hp
      rw [x2 998 (by omega) (by omega) (by omega) (by omega), i1 998 (by omega), (x4 p hp).1]
      refine ⟨⟨c1, d1⟩, ?_, ?_⟩
      · cases G p <;> simp
      · cases G p <;> simp [aU] <;> omega) (fun k hk => by rw [x2 _ (by omega) (by omega) (by omega) (by omega), i1 _ (by omega)]; exact a2 k hk) (fun c hc => ⟨x3' c hc, hW c⟩) (by rw [x2 _ (by omega) (by omega) (by omega) (by omega), i1 _ (by omega)]; exact a4) a4b
  have h5 : m3 997 5 = nI (A 0 1) := by rw [y3 _ (by omega), x2 _ (by omega) (by omega) (by omega) (by omega), i1 _ (by omega)]; exact a5
  refine ⟨mk_u2 m3 997 5 (nI (A 0 1 + 1)), q2, ?_, fun j z1 z2 z3 z4 z5 z6 => ?_, fun k z1 z2 => ?_, ?_⟩
  · unfold F_X12_goes
    rw [gdm]
    refine Eq.trans e ?_
    simp only [B_X12_goes_4]
    simp (disch := omega) only [gdm, gam_1, gam_2, gam_3, gam_4, gam_5, gam_6, gam_7, gam_8, gam_9, gam_10, gam_11, gam_12, gam_13, gam_14, gam_15, gam_16, gam_17, gam_18, gam_19, gam_20, gam_21, gam_22, gam_23, gam_24, gam_25, gam_26, gam_37, gam_38, gam_39, gam_40, gam_41, gam_42, gam_43, gam_44, gam_45, gam_46, gam_48, gam_49, gam_56, gam_57, gam_58, gam_59, gam_60, gam_61, gim_27, gim_28, gim_29, gim_30, gim_31, gim_32, gim_33, gim_34, gim_35, gim_36, gim_47, gim_50, gim_51, gim_52, gim_53, gim_54, gim_55, gim_62, gim_63, ob_some, reduceIte, lit, le_T, le_F, lt_T, lt_F, eq_T, eq_F, nI_add, ldm_997, stm_997, ldm_998, stm_998, ldm_999, stm_999, ldm_1000, stm_1000, ldm_1001, stm_1001, ldm_1002, stm_1002, ldm_1003, stm_1003, ldm_1004, stm_1004, ldm_1005, stm_1005, ldm_1006, stm_1006, ldm_1007, stm_1007, ldm_1008, stm_1008, ldm_1009, stm_1009, ldm_1010, stm_1010, ldm_1011, stm_1011, ldm_1012, stm_1012, ldm_1013, stm_1013, ldm_1014, stm_1014, ldm_1015, stm_1015, ldm_1016, stm_1016, ldm_1017, stm_1017, ldm_1018, stm_1018, ldm_1019, stm_1019, ldm_1020, stm_1020, ldm_1021, stm_1021, ldm_1022, stm_1022, u2_s, u2_a, u2_b, not_true, not_false_iff, i1, p2]
    refine Eq.trans e2 ?_
    simp only [B_X12_goes_41]
    simp (disch := omega) only [gdm, gam_1, gam_2, gam_3, gam_4, gam_5, gam_6, gam_7, gam_8, gam_9, gam_10, gam_11, gam_12, gam_13, gam_14, gam_15, gam_16, gam_17, gam_18, gam_19, gam_20, gam_21, gam_22, gam_23, gam_24, gam_25, gam_26, gam_37, gam_38, gam_39, gam_40, gam_41, gam_42, gam_43, gam_44, gam_45, gam_46, gam_48, gam_49, gam_56, gam_57, gam_58, gam_59, gam_60, gam_61, gim_27, gim_28, gim_29, gim_30, gim_31, gim_32, gim_33, gim_34, gim_35, gim_36, gim_47, gim_50, gim_51, gim_52, gim_53, gim_54, gim_55, gim_62, gim_63, ob_some, reduceIte, lit, le_T, le_F, lt_T, lt_F, eq_T, eq_F, nI_add, ldm_997, stm_997, ldm_998, stm_998, ldm_999, stm_999, ldm_1000, stm_1000, ldm_1001, stm_1001, ldm_1002, stm_1002, ldm_1003, stm_1003, ldm_1004, stm_1004, ldm_1005, stm_1005, ldm_1006, stm_1006, ldm_1007, stm_1007, ldm_1008, stm_1008, ldm_1009, stm_1009, ldm_1010, stm_1010, ldm_1011, stm_1011, ldm_1012, stm_1012, ldm_1013, stm_1013, ldm_1014, stm_1014, ldm_1015, stm_1015, ldm_1016, stm_1016, ldm_1017, stm_1017, ldm_1018, stm_1018, ldm_1019, stm_1019, ldm_1020, stm_1020, ldm_1021, stm_1021, ldm_1022, stm_1022, u2_s, u2_a, u2_b, not_true, not_false_iff, i1, p2, x1, y1, h5]
  · rw [mk_u2_ne z1, y2 _ z1 z2 z5, x2 _ z6 z2 z3 z4, i1 _ z2]
  · rw [u2_b z1, y3 _ z2, x2 _ (by omega) (by omega) (by omega) (by omega), i1 _ (by omega)]
  · refine ⟨fun p hp => ?_, fun k hk => ?_, fun c hc => ?_, ⟨?_, ?_⟩, ⟨?_, ?_⟩⟩
    · obtain ⟨⟨c1, d1⟩, ⟨c2, d2⟩, -, ⟨c4, d4⟩, L, c5, d5, f5⟩ := a1 p hp
      refine ⟨⟨?_, d1⟩, ⟨?_, d2⟩, ⟨?_, ?_⟩, ⟨?_, ?_⟩, ?_⟩
      · show mk_u2 m3 997 5 _ 998 p = _
        rw [u2_a (by omega), y2 _ (by omega) (by omega) (by omega), x2 _ (by omega) (by omega) (by omega) (by omega), i1 _ (by omega)]
        exact c1
      · show mk_u2 m3 997 5 _ 999 p = _
        rw [u2_a (by omega), y2 _ (by omega) (by omega) (by omega), x2 _ (by omega) (by omega) (by omega) (by omega), i1 _ (by omega)]
        exact c2
      · show mk_u2 m3 997 5 _ 1000 p = _
        rw [u2_a (by omega), y6 p hp]
        rfl
      · simp only [aP]; omega
      · show mk_u2 m3 997 5 _ 1001 p = _
        rw [u2_a (by omega), y2 _ (by omega) (by omega) (by omega), (x4 p hp).2.1]
        simp only [aP]
        cases G p <;> rfl
      · simp only [aP, Nat.one_ne_zero, if_false]
        split <;> omega
      · have e5 : mk_u2 m3 997 5 (nI (A 0 1 + 1)) 1002 p = if G p then nI (A 0 1) else m0 1002 p := by
          rw [u2_a (by omega), y2 _ (by omega) (by omega) (by omega), (x4 p hp).2.2, i1 997 (by omega), i1 1002 (by omega), a5]
        simp only [aP, Nat.one_ne_zero, if_false]
        cases hg : G p
        · refine ⟨L + 1, ?_, by omega, by simp only [Bool.false_eq_true, if_false]; omega⟩
          refine Eq.trans e5 ?_
          rw [hg, ← nI_1, ← nI_1 L]
          refine Eq.trans c5 ?_
          exact (sub_s _ _).symm
        · refine ⟨1, ?_, by omega, by simp only [if_true]; omega⟩
          refine Eq.trans e5 ?_
          rw [hg, pk_sub (by omega)]
          rfl
    · refine ⟨?_, by simp only [aP]; omega⟩
      show mk_u2 m3 997 5 _ 1003 k = _
      rw [u2_a (by omega), y5 k hk]
      rfl
    · refine ⟨?_, hW c⟩
      show mk_u2 m3 997 5 _ 1004 c = _
      rw [u2_a (by omega), y2 _ (by omega) (by omega) (by omega), x3' c hc]
      rfl
    · show mk_u2 m3 997 5 _ 997 6 = _
      rw [u2_b (by omega), y4]
      rfl
    · exact offN_lt a4b _ b6
    · show mk_u2 m3 997 5 _ 997 5 = _
      rw [u2_s]
      rfl
    · simp only [aP, Nat.one_ne_zero, if_false]
      omega
