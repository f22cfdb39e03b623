/-! the reference: puffs -/
def mpi (j : Nat) : Nat := match j with | 0 => 997 | 1 => 1013 | 2 => 1005 | 3 => 1014 | 4 => 1006 | 5 => 1007 | 6 => 1008 | _ => 1009
/-- the reference's PLATEAU -/
def MP (m : Nat → Nat → Int32) (P : Nat → Nat → Nat) : Prop := PR (fun j k => m (mpi j) k) P
def ncell (S : Nat) (z : Option (Nat × Nat)) : Int32 := match z with | none => -nI 1 | some (r, k) => nI (S * r + k)
theorem neg1 : (-1 : Int32) = -nI 1 := rfl
theorem ad_m1 {n : Nat} (h : 0 < n) : nI n + -nI 1 = nI (n - 1) := nI_m1 h
theorem m1_lt0 : (-nI 1 < nI 0) = True := eq_true (by decide)
theorem m1_eq {a : Nat} (h : a < 2147483648) : (nI a = -nI 1) = False := m1_F h
theorem sq_pos {S d : Nat} (h : d < S * S) : 0 < S := by
  rcases Nat.eq_zero_or_pos S with e | e
  · subst e; omega
  · exact e
theorem before_ok {m : Nat → Nat → Int32} {q : Nat → Nat → Int64} {S r k way : Nat} (hS : m 997 0 = nI S) (hS2 : S ≤ 6) (hr : r < S) (hk : k < S) (hw : way < 4) : F_X12_before 996 (nI (S * r + k)) (nI way) (KS, m, q) = some (ncell S (nxR S r k way), (KS, m, q)) := by
  have hc : r * S + k < S * S := cell_lt hr hk
  have hSS : S * S ≤ 36 := Nat.mul_le_mul hS2 hS2
  obtain ⟨e1, e2⟩ := cell_rc (c := S * r + k) hk (by rw [Nat.mul_comm])
  have hc2 : S * r + k < 36 := by rw [Nat.mul_comm]; omega
  have hrem : nI (S * r + k) - nI r * nI S = nI k := by
    rw [pk_mul, pk_sub (by rw [Nat.mul_comm]; omega), Nat.mul_comm r S, Nat.add_sub_cancel_left]
  unfold F_X12_before
  simp (disch := omega) only [gdm, g_mdl, Option.bind_some, reduceIte, lit, le_T, le_F, lt_T, lt_F, eq_T, eq_F, nI_add, ldm_997, stm_997, ldm_998, stm_998, ldm_999, stm_999, ldm_1000, stm_1000, ldm_1001, stm_1001, ldm_1002, stm_1002, ldm_1003, stm_1003, ldm_1004, stm_1004, ldm_1005, stm_1005, ldm_1006, stm_1006, ldm_1007, stm_1007, ldm_1008, stm_1008, ldm_1009, stm_1009, ldm_1010, stm_1010, ldm_1011, stm_1011, ldm_1012, stm_1012, ldm_1013, stm_1013, ldm_1014, stm_1014, ldm_1015, stm_1015, ldm_1016, stm_1016, ldm_1017, stm_1017, ldm_1018, stm_1018, ldm_1019, stm_1019, ldm_1020, stm_1020, ldm_1021, stm_1021, ldm_1022, stm_1022, u2_s, u2_a, u2_b, not_true, not_false_iff, hS, pk_div, e1]
  rcases (show way = 0 ∨ way = 1 ∨ way = 2 ∨ way = 3 by omega) with e | e | e | e <;> subst e <;> simp (disch := omega) only [gdm, g_mdl, Option.bind_some, reduceIte, lit, le_T, le_F, lt_T, lt_F, eq_T, eq_F, nI_add, ldm_997, stm_997, ldm_998, stm_998, ldm_999, stm_999, ldm_1000, stm_1000, ldm_1001, stm_1001, ldm_1002, stm_1002, ldm_1003, stm_1003, ldm_1004, stm_1004, ldm_1005, stm_1005, ldm_1006, stm_1006, ldm_1007, stm_1007, ldm_1008, stm_1008, ldm_1009, stm_1009, ldm_1010, stm_1010, ldm_1011, stm_1011, ldm_1012, stm_1012, ldm_1013, stm_1013, ldm_1014, stm_1014, ldm_1015, stm_1015, ldm_1016, stm_1016, ldm_1017, stm_1017, ldm_1018, stm_1018, ldm_1019, stm_1019, ldm_1020, stm_1020, ldm_1021, stm_1021, ldm_1022, stm_1022, u2_s, u2_a, u2_b, not_true, not_false_iff, B_X12_before_28, B_X12_before_53, B_X12_before_78, hS, hrem, pk_div, e1, e2, nxR, Nat.add_zero]
  · by_cases h : r = 0
    · subst h
      rfl
    · simp (disch := omega) only [gdm, g_mdl, Option.bind_some, reduceIte, lit, le_T, le_F, lt_T, lt_F, eq_T, eq_F, nI_add, ldm_997, stm_997, ldm_998, stm_998, ldm_999, stm_999, ldm_1000, stm_1000, ldm_1001, stm_1001, ldm_1002, stm_1002, ldm_1003, stm_1003, ldm_1004, stm_1004, ldm_1005, stm_1005, ldm_1006, stm_1006, ldm_1007, stm_1007, ldm_1008, stm_1008, ldm_1009, stm_1009, ldm_1010, stm_1010, ldm_1011, stm_1011, ldm_1012, stm_1012, ldm_1013, stm_1013, ldm_1014, stm_1014, ldm_1015, stm_1015, ldm_1016, stm_1016, ldm_1017, stm_1017, ldm_1018, stm_1018, ldm_1019, stm_1019, ldm_1020, stm_1020, ldm_1021, stm_1021, ldm_1022, stm_1022, u2_s, u2_a, u2_b, not_true, not_false_iff, ad_m1, h, pk_mul, ncell]
  · by_cases h : k + 1 < S
    · simp (disch := omega) only [gdm, g_mdl, Option.bind_some, reduceIte, lit, le_T, le_F, lt_T, lt_F, eq_T, eq_F, nI_add, ldm_997, stm_997, ldm_998, stm_998, ldm_999, stm_999, ldm_1000, stm_1000, ldm_1001, stm_1001, ldm_1002, stm_1002, ldm_1003, stm_1003, ldm_1004, stm_1004, ldm_1005, stm_1005, ldm_1006, stm_1006, ldm_1007, stm_1007, ldm_1008, stm_1008, ldm_1009, stm_1009, ldm_1010, stm_1010, ldm_1011, stm_1011, ldm_1012, stm_1012, ldm_1013, stm_1013, ldm_1014, stm_1014, ldm_1015, stm_1015, ldm_1016, stm_1016, ldm_1017, stm_1017, ldm_1018, stm_1018, ldm_1019, stm_1019, ldm_1020, stm_1020, ldm_1021, stm_1021, ldm_1022, stm_1022, u2_s, u2_a, u2_b, not_true, not_false_iff, pk_mul, h, ncell]
    · simp (disch := omega) only [gdm, g_mdl, Option.bind_some, reduceIte, lit, le_T, le_F, lt_T, lt_F, eq_T, eq_F, nI_add, ldm_997, stm_997, ldm_998, stm_998, ldm_999, stm_999, ldm_1000, stm_1000, ldm_1001, stm_1001, ldm_1002, stm_1002, ldm_1003, stm_1003, ldm_1004, stm_1004, ldm_1005, stm_1005, ldm_1006, stm_1006, ldm_1007, stm_1007, ldm_1008, stm_1008, ldm_1009, stm_1009, ldm_1010, stm_1010, ldm_1011, stm_1011, ldm_1012, stm_1012, ldm_1013, stm_1013, ldm_1014, stm_1014, ldm_1015, stm_1015, ldm_1016, stm_1016, ldm_1017, stm_1017, ldm_1018, stm_1018, ldm_1019, stm_1019, ldm_1020, stm_1020, ldm_1021, stm_1021, ldm_1022, stm_1022, u2_s, u2_a, u2_b, not_true, not_false_iff, pk_mul, h, ncell]
  · by_cases h : r + 1 < S
    · simp (disch := omega) only [gdm, g_mdl, Option.bind_some, reduceIte, lit, le_T, le_F, lt_T, lt_F, eq_T, eq_F, nI_add, ldm_997, stm_997, ldm_998, stm_998, ldm_999, stm_999, ldm_1000, stm_1000, ldm_1001, stm_1001, ldm_1002, stm_1002, ldm_1003, stm_1003, ldm_1004, stm_1004, ldm_1005, stm_1005, ldm_1006, stm_1006, ldm_1007, stm_1007, ldm_1008, stm_1008, ldm_1009, stm_1009, ldm_1010, stm_1010, ldm_1011, stm_1011, ldm_1012, stm_1012, ldm_1013, stm_1013, ldm_1014, stm_1014, ldm_1015, stm_1015, ldm_1016, stm_1016, ldm_1017, stm_1017, ldm_1018, stm_1018, ldm_1019, stm_1019, ldm_1020, stm_1020, ldm_1021, stm_1021, ldm_1022, stm_1022, u2_s, u2_a, u2_b, not_true, not_false_iff, pk_mul, h, ncell, Nat.add_zero]
    · simp (disch := omega) only [gdm, g_mdl, Option.bind_some, reduceIte, lit, le_T, le_F, lt_T, lt_F, eq_T, eq_F, nI_add, ldm_997, stm_997, ldm_998, stm_998, ldm_999, stm_999, ldm_1000, stm_1000, ldm_1001, stm_1001, ldm_1002, stm_1002, ldm_1003, stm_1003, ldm_1004, stm_1004, ldm_1005, stm_1005, ldm_1006, stm_1006, ldm_1007, stm_1007, ldm_1008, stm_1008, ldm_1009, stm_1009, ldm_1010, stm_1010, ldm_1011, stm_1011, ldm_1012, stm_1012, ldm_1013, stm_1013, ldm_1014, stm_1014, ldm_1015, stm_1015, ldm_1016, stm_1016, ldm_1017, stm_1017, ldm_1018, stm_1018, ldm_1019, stm_1019, ldm_1020, stm_1020, ldm_1021, stm_1021, ldm_1022, stm_1022, u2_s, u2_a, u2_b, not_true, not_false_iff, pk_mul, h, ncell]
  · by_cases h : k = 0
    · subst h
      have e5 : nI 0 + -nI 1 = -nI 1 := by decide
      rw [e5]
      simp (disch := omega) only [gdm, g_mdl, Option.bind_some, reduceIte, lit, le_T, le_F, lt_T, lt_F, eq_T, eq_F, nI_add, ldm_997, stm_997, ldm_998, stm_998, ldm_999, stm_999, ldm_1000, stm_1000, ldm_1001, stm_1001, ldm_1002, stm_1002, ldm_1003, stm_1003, ldm_1004, stm_1004, ldm_1005, stm_1005, ldm_1006, stm_1006, ldm_1007, stm_1007, ldm_1008, stm_1008, ldm_1009, stm_1009, ldm_1010, stm_1010, ldm_1011, stm_1011, ldm_1012, stm_1012, ldm_1013, stm_1013, ldm_1014, stm_1014, ldm_1015, stm_1015, ldm_1016, stm_1016, ldm_1017, stm_1017, ldm_1018, stm_1018, ldm_1019, stm_1019, ldm_1020, stm_1020, ldm_1021, stm_1021, ldm_1022, stm_1022, u2_s, u2_a, u2_b, not_true, not_false_iff, m1_lt0]
      rfl
    · simp (disch := omega) only [gdm, g_mdl, Option.bind_some, reduceIte, lit, le_T, le_F, lt_T, lt_F, eq_T, eq_F, nI_add, ldm_997, stm_997, ldm_998, stm_998, ldm_999, stm_999, ldm_1000, stm_1000, ldm_1001, stm_1001, ldm_1002, stm_1002, ldm_1003, stm_1003, ldm_1004, stm_1004, ldm_1005, stm_1005, ldm_1006, stm_1006, ldm_1007, stm_1007, ldm_1008, stm_1008, ldm_1009, stm_1009, ldm_1010, stm_1010, ldm_1011, stm_1011, ldm_1012, stm_1012, ldm_1013, stm_1013, ldm_1014, stm_1014, ldm_1015, stm_1015, ldm_1016, stm_1016, ldm_1017, stm_1017, ldm_1018, stm_1018, ldm_1019, stm_1019, ldm_1020, stm_1020, ldm_1021, stm_1021, ldm_1022, stm_1022, u2_s, u2_a, u2_b, not_true, not_false_iff, ad_m1, h, pk_mul, ncell, Nat.add_zero]
set_option maxRecDepth 4000 in
theorem puffIn_loop {m : Nat → Nat → Int32} {q : Nat → Nat → Int64} {S way p d : Nat} (hS : m 997 0 = nI S) (hS2 : S ≤ 6) (hw : way < 4) (hp : p < 6) (hf : m 999 p = nI way) (hd : d < S * S) : ∀ (u r k f : Nat), r < S → k < S → u < f → u ≤ 1000 →
    B_X12_puffIn_25 f 996 (nI p) (nI d) (nI u) (ncell S (nxR S r k way)) (KS, m, q) = some (nI (pfR r k way u (d / S) (d % S)), (KS, m, q)) := by
  have hSS : S * S ≤ 36 := Nat.mul_le_mul hS2 hS2
  have hd1 : d / S < S := Nat.div_lt_of_lt_mul hd
  have hd2 : d % S < S := Nat.mod_lt _ (sq_pos hd)
  intro u
  induction u with
  | zero =>
    intro r k f hr hk hfu _
    obtain ⟨f, rfl⟩ : ∃ g, f = g + 1 := ⟨f - 1, by omega⟩
    rw [B_X12_puffIn_25, pfR_0]
    split <;> rfl
  | succ u ih =>
    intro r k f hr hk hfu hu
    obtain ⟨f, rfl⟩ : ∃ g, f = g + 1 := ⟨f - 1, by omega⟩
    rw [B_X12_puffIn_25]
    cases hn : nxR S r k way with
    | none =>
      rw [pfR_none hw hr hk hd1 hd2 hn]
      rfl
    | some z =>
      obtain ⟨r1, k1⟩ := z
      obtain ⟨hr1, hk1⟩ := nxR_lt hr hk hn
      have hcl := cell_lt hr1 hk1
      have hcl2 : S * r1 + k1 < 36 := by rw [Nat.mul_comm]; omega
      rw [pfR_some hw hr hk hd1 hd2 hn]
      simp (disch := omega) only [gdm, g_mdl, Option.bind_some, reduceIte, lit, le_T, le_F, lt_T, lt_F, eq_T, eq_F, nI_add, ldm_997, stm_997, ldm_998, stm_998, ldm_999, stm_999, ldm_1000, stm_1000, ldm_1001, stm_1001, ldm_1002, stm_1002, ldm_1003, stm_1003, ldm_1004, stm_1004, ldm_1005, stm_1005, ldm_1006, stm_1006, ldm_1007, stm_1007, ldm_1008, stm_1008, ldm_1009, stm_1009, ldm_1010, stm_1010, ldm_1011, stm_1011, ldm_1012, stm_1012, ldm_1013, stm_1013, ldm_1014, stm_1014, ldm_1015, stm_1015, ldm_1016, stm_1016, ldm_1017, stm_1017, ldm_1018, stm_1018, ldm_1019, stm_1019, ldm_1020, stm_1020, ldm_1021, stm_1021, ldm_1022, stm_1022, u2_s, u2_a, u2_b, not_true, not_false_iff, ncell, m1_eq]
      by_cases e : S * r1 + k1 = d
      · obtain ⟨g1, g2⟩ := cell_rc (c := d) hk1 (by rw [← e, Nat.mul_comm])
        have e0 : pfR r1 k1 way u r1 k1 = 0 := by
          unfold pfR
          split <;> split <;> omega
        simp (disch := omega) only [gdm, g_mdl, Option.bind_some, reduceIte, lit, le_T, le_F, lt_T, lt_F, eq_T, eq_F, nI_add, ldm_997, stm_997, ldm_998, stm_998, ldm_999, stm_999, ldm_1000, stm_1000, ldm_1001, stm_1001, ldm_1002, stm_1002, ldm_1003, stm_1003, ldm_1004, stm_1004, ldm_1005, stm_1005, ldm_1006, stm_1006, ldm_1007, stm_1007, ldm_1008, stm_1008, ldm_1009, stm_1009, ldm_1010, stm_1010, ldm_1011, stm_1011, ldm_1012, stm_1012, ldm_1013, stm_1013, ldm_1014, stm_1014, ldm_1015, stm_1015, ldm_1016, stm_1016, ldm_1017, stm_1017, ldm_1018, stm_1018, ldm_1019, stm_1019, ldm_1020, stm_1020, ldm_1021, stm_1021, ldm_1022, stm_1022, u2_s, u2_a, u2_b, not_true, not_false_iff, g1, g2, and_self, e0, Nat.add_zero]
      · have e3 : ¬ (d / S = r1 ∧ d % S = k1) := by
          rintro ⟨g1, g2⟩
          apply e
          rw [← g1, ← g2]
          exact Nat.div_add_mod d S
        simp (disch := omega) only [gdm, g_mdl, Option.bind_some, reduceIte, lit, le_T, le_F, lt_T, lt_F, eq_T, eq_F, nI_add, ldm_997, stm_997, ldm_998, stm_998, ldm_999, stm_999, ldm_1000, stm_1000, ldm_1001, stm_1001, ldm_1002, stm_1002, ldm_1003, stm_1003, ldm_1004, stm_1004, ldm_1005, stm_1005, ldm_1006, stm_1006, ldm_1007, stm_1007, ldm_1008, stm_1008, ldm_1009, stm_1009, ldm_1010, stm_1010, ldm_1011, stm_1011, ldm_1012, stm_1012, ldm_1013, stm_1013, ldm_1014, stm_1014, ldm_1015, stm_1015, ldm_1016, stm_1016, ldm_1017, stm_1017, ldm_1018, stm_1018, ldm_1019, stm_1019, ldm_1020, stm_1020, ldm_1021, stm_1021, ldm_1022, stm_1022, u2_s, u2_a, u2_b, not_true, not_false_iff, hf, before_ok hS hS2 hr1 hk1 hw, ad_m1, e3, Nat.zero_add, Nat.add_sub_cancel]
        exact ih r1 k1 f hr1 hk1 (by omega) (by omega)
theorem puffIn_ok {m : Nat → Nat → Int32} {q : Nat → Nat → Int64} {S p d c way u : Nat} (hS : m 997 0 = nI S) (hS2 : S ≤ 6) (hp : p < 6) (c1 : m 998 p = nI c) (d1 : c < S * S) (c2 : m 999 p = nI way) (d2 : way < 4) (c3 : m 1000 p = nI u) (d3 : u ≤ 99) (hd : d < S * S) : F_X12_puffIn 996 (nI p) (nI d) (KS, m, q) = some (nI (pf S c way u d), (KS, m, q)) := by
  have hb : F_X12_before 996 (nI c) (nI way) (KS, m, q) = some (ncell S (nxR S (c / S) (c % S) way), (KS, m, q)) := by
    have h := before_ok (q := q) hS hS2 (Nat.div_lt_of_lt_mul d1) (Nat.mod_lt c (sq_pos d1)) d2
    rwa [Nat.div_add_mod] at h
  have h0 : 0 < S := sq_pos d1
  unfold F_X12_puffIn
  simp (disch := omega) only [gdm, g_mdl, Option.bind_some, reduceIte, lit, le_T, le_F, lt_T, lt_F, eq_T, eq_F, nI_add, ldm_997, stm_997, ldm_998, stm_998, ldm_999, stm_999, ldm_1000, stm_1000, ldm_1001, stm_1001, ldm_1002, stm_1002, ldm_1003, stm_1003, ldm_1004, stm_1004, ldm_1005, stm_1005, ldm_1006, stm_1006, ldm_1007, stm_1007, ldm_1008, stm_1008, ldm_1009, stm_1009, ldm_1010, stm_1010, ldm_1011, stm_1011, ldm_1012, stm_1012, ldm_1013, stm_1013, ldm_1014, stm_1014, ldm_1015, stm_1015, ldm_1016, stm_1016, ldm_1017, stm_1017, ldm_1018, stm_1018, ldm_1019, stm_1019, ldm_1020, stm_1020, ldm_1021, stm_1021, ldm_1022, stm_1022, u2_s, u2_a, u2_b, not_true, not_false_iff, c1, c2, c3, hb]
  exact puffIn_loop hS hS2 d2 hp c2 hd u _ _ mk_fu (Nat.div_lt_of_lt_mul d1) (Nat.mod_lt _ h0) (by rw [mk_fu_eq]; omega) (by omega)
