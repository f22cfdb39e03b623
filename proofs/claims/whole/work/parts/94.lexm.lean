/-! the reference's looks at the text -/
def TM (T : TT) (m : Nat → Nat → Int32) : Prop := m 996 27 = nI T.1 ∧ T.1 ≤ 400 ∧ ∀ i, i < T.1 → m 1023 i = mk_nar 102 (nI (T.2 i)) ∧ T.2 i < 256
set_option maxRecDepth 4000 in
theorem TM.b {T : TT} {m : Nat → Nat → Int32} (h : TM T m) (i : Nat) : bt T i < 256 ∨ bt T i = 1000 := bt_lt (fun i hi => (h.2.2 i hi).2) i
set_option maxRecDepth 4000 in
theorem nar_and : ∀ b, b < 256 → mk_nar 102 (nI b) &&& nI 255 = nI b := by decide +kernel
set_option maxRecDepth 4000 in
theorem nar_lo : ∀ b, b < 128 → mk_nar 102 (nI b) = nI b := by decide +kernel
set_option maxRecDepth 4000 in
theorem nar_hi : ∀ b, b < 256 → 128 ≤ b → mk_nar 102 (nI b) < nI 0 := by decide +kernel
set_option maxRecDepth 4000 in
theorem nar_l {b : Nat} (hb : b < 256) : (mk_nar 102 (nI b) < nI 97) = (b < 97 ∨ 128 ≤ b) := by
  rcases Nat.lt_or_ge b 128 with c | c
  · rw [nar_lo b c, lt_I (by omega) (by omega)]
    exact propext ⟨fun h => .inl h, fun h => by omega⟩
  · exact propext ⟨fun _ => .inr c, fun _ => Int32.lt_trans (nar_hi b hb c) (by decide)⟩
set_option maxRecDepth 4000 in
theorem nar_g {b : Nat} (hb : b < 256) (h : ¬ (b < 97 ∨ 128 ≤ b)) : (nI 122 < mk_nar 102 (nI b)) = (122 < b) := by
  rw [nar_lo b (by omega), lt_I (by omega) (by omega)]
set_option maxRecDepth 4000 in
theorem nar_eq {b c : Nat} (hb : b < 256) (hc : c < 128) : (mk_nar 102 (nI b) = nI c) = (b = c) := by
  rcases Nat.lt_or_ge b 128 with d | d
  · rw [nar_lo b d, eq_I (by omega) (by omega)]
  · refine propext ⟨fun h => ?_, fun h => by omega⟩
    have := nar_hi b hb d
    rw [h] at this
    exact absurd this (nI_nlt (by omega) (by omega))
set_option maxRecDepth 4000 in
theorem u2_u2 {m : Nat → Nat → Int32} {a k : Nat} {v w : Int32} : mk_u2 (mk_u2 m a k v) a k w = mk_u2 m a k w := by
  funext i j
  simp only [u2_at]
  split <;> rfl
set_option maxRecDepth 4000 in
theorem u2_id {m : Nat → Nat → Int32} {a k : Nat} {v : Int32} (h : m a k = v) : mk_u2 m a k v = m := by
  funext i j
  simp only [u2_at]
  split
  · rename_i c
    rw [c.1, c.2, h]
  · rfl
set_option maxRecDepth 4000 in
theorem TM.up {T : TT} {m : Nat → Nat → Int32} {k : Nat} {v : Int32} (h : TM T m) (h1 : k ≠ 27) : TM T (mk_u2 m 996 k v) := ⟨(u2_b (by omega)).trans h.1, h.2.1, fun i hi => by rw [u2_a (by omega)]; exact h.2.2 i hi⟩
set_option maxRecDepth 4000 in
theorem TM.eq {T : TT} {m m1 : Nat → Nat → Int32} (h : TM T m) (h1 : m1 996 27 = m 996 27) (h2 : m1 1023 = m 1023) : TM T m1 := ⟨h1.trans h.1, h.2.1, fun i hi => by rw [h2]; exact h.2.2 i hi⟩
set_option maxRecDepth 4000 in
theorem sgM {T : TT} {m : Nat → Nat → Int32} {q : Nat → Nat → Int64} {p : Nat} (h : TM T m) (hp : m 996 28 = nI p) (hi : p < 100000) : F_X12_sign 996 (KS, m, q) = some (sI (bt T p), (KS, m, q)) := by
  obtain ⟨h1, h2, h3⟩ := h
  unfold F_X12_sign
  by_cases c : p < T.1
  · obtain ⟨h4, h5⟩ := h3 p c
    rw [bt_in c, sI_n (by omega), ← nar_and _ h5]
    simp (disch := omega) only [gdm, gam_1, gam_2, gam_3, gam_4, gam_5, gam_6, gam_7, gam_8, gam_9, gam_10, gam_11, gam_12, gam_13, gam_14, gam_15, gam_16, gam_17, gam_18, gam_19, gam_20, gam_21, gam_22, gam_23, gam_24, gam_25, gam_26, gam_37, gam_38, gam_39, gam_40, gam_41, gam_42, gam_43, gam_44, gam_45, gam_46, gam_48, gam_49, gam_56, gam_57, gam_58, gam_59, gam_60, gam_61, gim_27, gim_28, gim_29, gim_30, gim_31, gim_32, gim_33, gim_34, gim_35, gim_36, gim_47, gim_50, gim_51, gim_52, gim_53, gim_54, gim_55, gim_62, gim_63, ob_some, reduceIte, lit, le_T, le_F, lt_T, lt_F, eq_T, eq_F, nI_add, ldm_997, stm_997, ldm_998, stm_998, ldm_999, stm_999, ldm_1000, stm_1000, ldm_1001, stm_1001, ldm_1002, stm_1002, ldm_1003, stm_1003, ldm_1004, stm_1004, ldm_1005, stm_1005, ldm_1006, stm_1006, ldm_1007, stm_1007, ldm_1008, stm_1008, ldm_1009, stm_1009, ldm_1010, stm_1010, ldm_1011, stm_1011, ldm_1012, stm_1012, ldm_1013, stm_1013, ldm_1014, stm_1014, ldm_1015, stm_1015, ldm_1016, stm_1016, ldm_1017, stm_1017, ldm_1018, stm_1018, ldm_1019, stm_1019, ldm_1020, stm_1020, ldm_1021, stm_1021, ldm_1022, stm_1022, u2_s, u2_a, u2_b, not_true, not_false_iff, ldm_1023, stm_1023, ldm_1024, stm_1024, ldm_1025, stm_1025, ldm_1026, stm_1026, ldm_1027, stm_1027, ldm_1028, stm_1028, ldm_1029, stm_1029, ldm_1030, stm_1030, ldm_1031, stm_1031, ldm_1032, stm_1032, ldm_1033, stm_1033, ldm_1034, stm_1034, ldm_1035, stm_1035, ldm_1036, stm_1036, ldm_1037, stm_1037, ldm_1038, stm_1038, ldm_1039, stm_1039, ldm_1040, stm_1040, h1, hp, h4]
  · rw [bt_end (by omega), sI_e]
    simp (disch := omega) only [gdm, gam_1, gam_2, gam_3, gam_4, gam_5, gam_6, gam_7, gam_8, gam_9, gam_10, gam_11, gam_12, gam_13, gam_14, gam_15, gam_16, gam_17, gam_18, gam_19, gam_20, gam_21, gam_22, gam_23, gam_24, gam_25, gam_26, gam_37, gam_38, gam_39, gam_40, gam_41, gam_42, gam_43, gam_44, gam_45, gam_46, gam_48, gam_49, gam_56, gam_57, gam_58, gam_59, gam_60, gam_61, gim_27, gim_28, gim_29, gim_30, gim_31, gim_32, gim_33, gim_34, gim_35, gim_36, gim_47, gim_50, gim_51, gim_52, gim_53, gim_54, gim_55, gim_62, gim_63, ob_some, reduceIte, lit, le_T, le_F, lt_T, lt_F, eq_T, eq_F, nI_add, ldm_997, stm_997, ldm_998, stm_998, ldm_999, stm_999, ldm_1000, stm_1000, ldm_1001, stm_1001, ldm_1002, stm_1002, ldm_1003, stm_1003, ldm_1004, stm_1004, ldm_1005, stm_1005, ldm_1006, stm_1006, ldm_1007, stm_1007, ldm_1008, stm_1008, ldm_1009, stm_1009, ldm_1010, stm_1010, ldm_1011, stm_1011, ldm_1012, stm_1012, ldm_1013, stm_1013, ldm_1014, stm_1014, ldm_1015, stm_1015, ldm_1016, stm_1016, ldm_1017, stm_1017, ldm_1018, stm_1018, ldm_1019, stm_1019, ldm_1020, stm_1020, ldm_1021, stm_1021, ldm_1022, stm_1022, u2_s, u2_a, u2_b, not_true, not_false_iff, ldm_1023, stm_1023, ldm_1024, stm_1024, ldm_1025, stm_1025, ldm_1026, stm_1026, ldm_1027, stm_1027, ldm_1028, stm_1028, ldm_1029, stm_1029, ldm_1030, stm_1030, ldm_1031, stm_1031, ldm_1032, stm_1032, ldm_1033, stm_1033, ldm_1034, stm_1034, ldm_1035, stm_1035, ldm_1036, stm_1036, ldm_1037, stm_1037, ldm_1038, stm_1038, ldm_1039, stm_1039, ldm_1040, stm_1040, h1, hp]
set_option maxRecDepth 4000 in
theorem blL {T : TT} {q : Nat → Nat → Int64} : ∀ (n p f : Nat) (m : Nat → Nat → Int32), T.1 - p ≤ n → n < f → p < 10000 → TM T m → m 996 28 = nI p → B_X12_blanks_0 f 996 (KS, m, q) = some ((), (KS, (mk_u2 m 996 28 (nI (sp isB T p))), q)) := by
  intro n
  induction n with
  | zero =>
    intro p f m hi hf hp hT h2
    obtain ⟨f, rfl⟩ : ∃ g, f = g + 1 := ⟨f - 1, by omega⟩
    have e := bt_end (T := T) (i := p) (by omega)
    rw [sp_stop (by rw [e]; rfl), u2_id h2, B_X12_blanks_0]
    simp (disch := omega) only [gdm, gam_1, gam_2, gam_3, gam_4, gam_5, gam_6, gam_7, gam_8, gam_9, gam_10, gam_11, gam_12, gam_13, gam_14, gam_15, gam_16, gam_17, gam_18, gam_19, gam_20, gam_21, gam_22, gam_23, gam_24, gam_25, gam_26, gam_37, gam_38, gam_39, gam_40, gam_41, gam_42, gam_43, gam_44, gam_45, gam_46, gam_48, gam_49, gam_56, gam_57, gam_58, gam_59, gam_60, gam_61, gim_27, gim_28, gim_29, gim_30, gim_31, gim_32, gim_33, gim_34, gim_35, gim_36, gim_47, gim_50, gim_51, gim_52, gim_53, gim_54, gim_55, gim_62, gim_63, ob_some, reduceIte, lit, le_T, le_F, lt_T, lt_F, eq_T, eq_F, nI_add, ldm_997, stm_997, ldm_998, stm_998, ldm_999, stm_999, ldm_1000, stm_1000, ldm_1001, stm_1001, ldm_1002, stm_1002, ldm_1003, stm_1003, ldm_1004, stm_1004, ldm_1005, stm_1005, ldm_1006, stm_1006, ldm_1007, stm_1007, ldm_1008, stm_1008, ldm_1009, stm_1009, ldm_1010, stm_1010, ldm_1011, stm_1011, ldm_1012, stm_1012, ldm_1013, stm_1013, ldm_1014, stm_1014, ldm_1015, stm_1015, ldm_1016, stm_1016, ldm_1017, stm_1017, ldm_1018, stm_1018, ldm_1019, stm_1019, ldm_1020, stm_1020, ldm_1021, stm_1021, ldm_1022, stm_1022, u2_s, u2_a, u2_b, not_true, not_false_iff, sgM hT h2, sI_eqc, e, Nat.reduceEqDiff]
  | succ n ih =>
    intro p f m hi hf hp hT h2
    obtain ⟨f, rfl⟩ : ∃ g, f = g + 1 := ⟨f - 1, by omega⟩
    have hl := hT.2.1
    have hb := hT.b p
    by_cases d : bt T p = 32
    · obtain ⟨hlt, e⟩ := sp_go (P := isB) (T := T) (i := p) hB (by rw [d]; rfl)
      have a := ih (p + 1) f ((mk_u2 m 996 28 (nI (p + 1)))) (by omega) (by omega) (by omega) (hT.up (by omega)) u2_s
      rw [u2_u2] at a
      rw [e, ← a, B_X12_blanks_0]
      simp (disch := omega) only [gdm, gam_1, gam_2, gam_3, gam_4, gam_5, gam_6, gam_7, gam_8, gam_9, gam_10, gam_11, gam_12, gam_13, gam_14, gam_15, gam_16, gam_17, gam_18, gam_19, gam_20, gam_21, gam_22, gam_23, gam_24, gam_25, gam_26, gam_37, gam_38, gam_39, gam_40, gam_41, gam_42, gam_43, gam_44, gam_45, gam_46, gam_48, gam_49, gam_56, gam_57, gam_58, gam_59, gam_60, gam_61, gim_27, gim_28, gim_29, gim_30, gim_31, gim_32, gim_33, gim_34, gim_35, gim_36, gim_47, gim_50, gim_51, gim_52, gim_53, gim_54, gim_55, gim_62, gim_63, ob_some, reduceIte, lit, le_T, le_F, lt_T, lt_F, eq_T, eq_F, nI_add, ldm_997, stm_997, ldm_998, stm_998, ldm_999, stm_999, ldm_1000, stm_1000, ldm_1001, stm_1001, ldm_1002, stm_1002, ldm_1003, stm_1003, ldm_1004, stm_1004, ldm_1005, stm_1005, ldm_1006, stm_1006, ldm_1007, stm_1007, ldm_1008, stm_1008, ldm_1009, stm_1009, ldm_1010, stm_1010, ldm_1011, stm_1011, ldm_1012, stm_1012, ldm_1013, stm_1013, ldm_1014, stm_1014, ldm_1015, stm_1015, ldm_1016, stm_1016, ldm_1017, stm_1017, ldm_1018, stm_1018, ldm_1019, stm_1019, ldm_1020, stm_1020, ldm_1021, stm_1021, ldm_1022, stm_1022, u2_s, u2_a, u2_b, not_true, not_false_iff, pim_27, pim_28, pim_29, pim_30, pim_31, pim_32, pim_33, pim_34, pim_35, pim_36, pim_47, pim_50, pim_51, pim_52, pim_53, pim_54, pim_55, pim_62, pim_63, sgM hT h2, sI_eqc, d, h2]
    · rw [sp_stop (by simp [isB, d]), u2_id h2, B_X12_blanks_0]
      simp (disch := omega) only [gdm, gam_1, gam_2, gam_3, gam_4, gam_5, gam_6, gam_7, gam_8, gam_9, gam_10, gam_11, gam_12, gam_13, gam_14, gam_15, gam_16, gam_17, gam_18, gam_19, gam_20, gam_21, gam_22, gam_23, gam_24, gam_25, gam_26, gam_37, gam_38, gam_39, gam_40, gam_41, gam_42, gam_43, gam_44, gam_45, gam_46, gam_48, gam_49, gam_56, gam_57, gam_58, gam_59, gam_60, gam_61, gim_27, gim_28, gim_29, gim_30, gim_31, gim_32, gim_33, gim_34, gim_35, gim_36, gim_47, gim_50, gim_51, gim_52, gim_53, gim_54, gim_55, gim_62, gim_63, ob_some, reduceIte, lit, le_T, le_F, lt_T, lt_F, eq_T, eq_F, nI_add, ldm_997, stm_997, ldm_998, stm_998, ldm_999, stm_999, ldm_1000, stm_1000, ldm_1001, stm_1001, ldm_1002, stm_1002, ldm_1003, stm_1003, ldm_1004, stm_1004, ldm_1005, stm_1005, ldm_1006, stm_1006, ldm_1007, stm_1007, ldm_1008, stm_1008, ldm_1009, stm_1009, ldm_1010, stm_1010, ldm_1011, stm_1011, ldm_1012, stm_1012, ldm_1013, stm_1013, ldm_1014, stm_1014, ldm_1015, stm_1015, ldm_1016, stm_1016, ldm_1017, stm_1017, ldm_1018, stm_1018, ldm_1019, stm_1019, ldm_1020, stm_1020, ldm_1021, stm_1021, ldm_1022, stm_1022, u2_s, u2_a, u2_b, not_true, not_false_iff, sgM hT h2, sI_eqc, d]
set_option maxRecDepth 4000 in
theorem blkM {T : TT} {m : Nat → Nat → Int32} {q : Nat → Nat → Int64} {p : Nat} (h : TM T m) (hp : m 996 28 = nI p) (hi : p < 10000) : F_X12_blanks 996 (KS, m, q) = some ((), (KS, (mk_u2 m 996 28 (nI (sp isB T p))), q)) := by
  unfold F_X12_blanks
  rw [gdm]
  exact blL (T.1 - p) p mk_fu m (Nat.le_refl _) (by have := h.2.1; rw [mk_fu_eq]; omega) hi h hp
set_option maxRecDepth 4000 in
theorem inD {s : Nat} (hs : s < 256 ∨ s = 1000) (t : mk_S) : ((F_X12_in (sI s).toInt64 48 57 t).bind fun z => mk_rz z.1 z.2) = some (bI (isD s), t) := by
  have e : F_X12_in (sI s).toInt64 48 57 t = F_X11_within (sI s) (nI 48) (nI 57) t := in_eq (sI s) (nI 48) (nI 57) t
  rw [e]
  unfold F_X11_within B_X11_within_14
  simp (disch := omega) only [sI_ltc, sI_gtc]
  by_cases c : s = 1000 ∨ s < 48
  · rw [isD_F (by omega)]
    simp only [c, if_true, lit, rz0, ob_some, bI_F]
  · by_cases d : 57 < s ∧ s ≠ 1000
    · rw [isD_F (by omega)]
      have c' : (s = 1000 ∨ s < 48) = False := eq_false c
      have d' : (57 < s ∧ s ≠ 1000) = True := eq_true d
      simp only [c', d', if_true, if_false, lit, rz0, ob_some, bI_F]
    · rw [isD_T (by omega) (by omega)]
      simp only [c, d, if_false, lit, rz1, ob_some, bI_T]
set_option maxRecDepth 4000 in
theorem idM {T : TT} {m : Nat → Nat → Int32} {q : Nat → Nat → Int64} {p : Nat} (h : TM T m) (hp : m 996 28 = nI p) (hi : p < 10000) : F_X12_isDigit 996 (KS, m, q) = some (bI (isD (bt T p)), (KS, m, q)) := by
  unfold F_X12_isDigit
  rw [gdm, sgM h hp (by omega), ob_some]
  exact inD (h.b p) _
set_option maxRecDepth 4000 in
/-- a word stands here -/
theorem stL {T : TT} {m : Nat → Nat → Int32} {q : Nat → Nat → Int64} {p k : Nat} (hk : k < 41) (h : TM T m) (hp : m 996 28 = nI p) (hl : p + (wd k).length ≤ T.1) : ∀ (n i f : Nat) (b : Bool), (wd k).length - i = n → i ≤ (wd k).length → n < f → b = eqf T p (wd k) i → B_X12_stood_63 f 996 (1000000 + k) (bI b) (nI i) (KS, m, q) = some (bI (eqf T p (wd k) (wd k).length), (KS, m, q)) := by
  intro n
  have h7 := wd_len k hk
  have h4 := h.2.1
  induction n with
  | zero =>
    intro i f b hi hi2 hf hb
    obtain ⟨f, rfl⟩ : ∃ g, f = g + 1 := ⟨f - 1, by omega⟩
    have e : i = (wd k).length := by omega
    subst e
    rw [← hb, B_X12_stood_63]
    cases b <;> simp (disch := omega) only [gdm, gam_1, gam_2, gam_3, gam_4, gam_5, gam_6, gam_7, gam_8, gam_9, gam_10, gam_11, gam_12, gam_13, gam_14, gam_15, gam_16, gam_17, gam_18, gam_19, gam_20, gam_21, gam_22, gam_23, gam_24, gam_25, gam_26, gam_37, gam_38, gam_39, gam_40, gam_41, gam_42, gam_43, gam_44, gam_45, gam_46, gam_48, gam_49, gam_56, gam_57, gam_58, gam_59, gam_60, gam_61, gim_27, gim_28, gim_29, gim_30, gim_31, gim_32, gim_33, gim_34, gim_35, gim_36, gim_47, gim_50, gim_51, gim_52, gim_53, gim_54, gim_55, gim_62, gim_63, ob_some, reduceIte, lit, le_T, le_F, lt_T, lt_F, eq_T, eq_F, nI_add, ldm_997, stm_997, ldm_998, stm_998, ldm_999, stm_999, ldm_1000, stm_1000, ldm_1001, stm_1001, ldm_1002, stm_1002, ldm_1003, stm_1003, ldm_1004, stm_1004, ldm_1005, stm_1005, ldm_1006, stm_1006, ldm_1007, stm_1007, ldm_1008, stm_1008, ldm_1009, stm_1009, ldm_1010, stm_1010, ldm_1011, stm_1011, ldm_1012, stm_1012, ldm_1013, stm_1013, ldm_1014, stm_1014, ldm_1015, stm_1015, ldm_1016, stm_1016, ldm_1017, stm_1017, ldm_1018, stm_1018, ldm_1019, stm_1019, ldm_1020, stm_1020, ldm_1021, stm_1021, ldm_1022, stm_1022, u2_s, u2_a, u2_b, not_true, not_false_iff, wsln hk, bI_T, bI_F, rz0, rz1]
  | succ n ih =>
    intro i f b hi hi2 hf hb
    obtain ⟨f, rfl⟩ : ∃ g, f = g + 1 := ⟨f - 1, by omega⟩
    cases b with
    | false =>
      have e : eqf T p (wd k) (wd k).length = false := by
        cases c : eqf T p (wd k) (wd k).length with
        | false => rfl
        | true =>
          have := (eqf_all (T := T) (s := p) (w := wd k) i).mpr (fun j hj => (eqf_all _).mp c j (by omega))
          rw [this] at hb; cases hb
      rw [e, B_X12_stood_63]
      simp (disch := omega) only [gdm, gam_1, gam_2, gam_3, gam_4, gam_5, gam_6, gam_7, gam_8, gam_9, gam_10, gam_11, gam_12, gam_13, gam_14, gam_15, gam_16, gam_17, gam_18, gam_19, gam_20, gam_21, gam_22, gam_23, gam_24, gam_25, gam_26, gam_37, gam_38, gam_39, gam_40, gam_41, gam_42, gam_43, gam_44, gam_45, gam_46, gam_48, gam_49, gam_56, gam_57, gam_58, gam_59, gam_60, gam_61, gim_27, gim_28, gim_29, gim_30, gim_31, gim_32, gim_33, gim_34, gim_35, gim_36, gim_47, gim_50, gim_51, gim_52, gim_53, gim_54, gim_55, gim_62, gim_63, ob_some, reduceIte, lit, le_T, le_F, lt_T, lt_F, eq_T, eq_F, nI_add, ldm_997, stm_997, ldm_998, stm_998, ldm_999, stm_999, ldm_1000, stm_1000, ldm_1001, stm_1001, ldm_1002, stm_1002, ldm_1003, stm_1003, ldm_1004, stm_1004, ldm_1005, stm_1005, ldm_1006, stm_1006, ldm_1007, stm_1007, ldm_1008, stm_1008, ldm_1009, stm_1009, ldm_1010, stm_1010, ldm_1011, stm_1011, ldm_1012, stm_1012, ldm_1013, stm_1013, ldm_1014, stm_1014, ldm_1015, stm_1015, ldm_1016, stm_1016, ldm_1017, stm_1017, ldm_1018, stm_1018, ldm_1019, stm_1019, ldm_1020, stm_1020, ldm_1021, stm_1021, ldm_1022, stm_1022, u2_s, u2_a, u2_b, not_true, not_false_iff, wsln hk, bI_F, rz0]
    | true =>
      obtain ⟨w1, w2⟩ := wd_chr k hk i (by omega)
      obtain ⟨t1, t2⟩ := h.2.2 (p + i) (by omega)
      by_cases d : T.2 (p + i) = (wd k).getD i 0
      · have a := ih (i + 1) f true (by omega) (by omega) (by omega) (by simp only [eqf, ← hb, d, decide_true, Bool.and_self])
        rw [← a, B_X12_stood_63]
        simp (disch := omega) only [gdm, gam_1, gam_2, gam_3, gam_4, gam_5, gam_6, gam_7, gam_8, gam_9, gam_10, gam_11, gam_12, gam_13, gam_14, gam_15, gam_16, gam_17, gam_18, gam_19, gam_20, gam_21, gam_22, gam_23, gam_24, gam_25, gam_26, gam_37, gam_38, gam_39, gam_40, gam_41, gam_42, gam_43, gam_44, gam_45, gam_46, gam_48, gam_49, gam_56, gam_57, gam_58, gam_59, gam_60, gam_61, gim_27, gim_28, gim_29, gim_30, gim_31, gim_32, gim_33, gim_34, gim_35, gim_36, gim_47, gim_50, gim_51, gim_52, gim_53, gim_54, gim_55, gim_62, gim_63, ob_some, reduceIte, lit, le_T, le_F, lt_T, lt_F, eq_T, eq_F, nI_add, ldm_997, stm_997, ldm_998, stm_998, ldm_999, stm_999, ldm_1000, stm_1000, ldm_1001, stm_1001, ldm_1002, stm_1002, ldm_1003, stm_1003, ldm_1004, stm_1004, ldm_1005, stm_1005, ldm_1006, stm_1006, ldm_1007, stm_1007, ldm_1008, stm_1008, ldm_1009, stm_1009, ldm_1010, stm_1010, ldm_1011, stm_1011, ldm_1012, stm_1012, ldm_1013, stm_1013, ldm_1014, stm_1014, ldm_1015, stm_1015, ldm_1016, stm_1016, ldm_1017, stm_1017, ldm_1018, stm_1018, ldm_1019, stm_1019, ldm_1020, stm_1020, ldm_1021, stm_1021, ldm_1022, stm_1022, u2_s, u2_a, u2_b, not_true, not_false_iff, ldm_1023, stm_1023, ldm_1024, stm_1024, ldm_1025, stm_1025, ldm_1026, stm_1026, ldm_1027, stm_1027, ldm_1028, stm_1028, ldm_1029, stm_1029, ldm_1030, stm_1030, ldm_1031, stm_1031, ldm_1032, stm_1032, ldm_1033, stm_1033, ldm_1034, stm_1034, ldm_1035, stm_1035, ldm_1036, stm_1036, ldm_1037, stm_1037, ldm_1038, stm_1038, ldm_1039, stm_1039, ldm_1040, stm_1040, wsln hk, wsch hk, hp, t1, bI_T, nar_eq, d, B_X12_stood_102]
      · have a := ih (i + 1) f false (by omega) (by omega) (by omega) (by simp only [eqf, d, decide_false, Bool.and_false])
        rw [← a, B_X12_stood_63]
        simp (disch := omega) only [gdm, gam_1, gam_2, gam_3, gam_4, gam_5, gam_6, gam_7, gam_8, gam_9, gam_10, gam_11, gam_12, gam_13, gam_14, gam_15, gam_16, gam_17, gam_18, gam_19, gam_20, gam_21, gam_22, gam_23, gam_24, gam_25, gam_26, gam_37, gam_38, gam_39, gam_40, gam_41, gam_42, gam_43, gam_44, gam_45, gam_46, gam_48, gam_49, gam_56, gam_57, gam_58, gam_59, gam_60, gam_61, gim_27, gim_28, gim_29, gim_30, gim_31, gim_32, gim_33, gim_34, gim_35, gim_36, gim_47, gim_50, gim_51, gim_52, gim_53, gim_54, gim_55, gim_62, gim_63, ob_some, reduceIte, lit, le_T, le_F, lt_T, lt_F, eq_T, eq_F, nI_add, ldm_997, stm_997, ldm_998, stm_998, ldm_999, stm_999, ldm_1000, stm_1000, ldm_1001, stm_1001, ldm_1002, stm_1002, ldm_1003, stm_1003, ldm_1004, stm_1004, ldm_1005, stm_1005, ldm_1006, stm_1006, ldm_1007, stm_1007, ldm_1008, stm_1008, ldm_1009, stm_1009, ldm_1010, stm_1010, ldm_1011, stm_1011, ldm_1012, stm_1012, ldm_1013, stm_1013, ldm_1014, stm_1014, ldm_1015, stm_1015, ldm_1016, stm_1016, ldm_1017, stm_1017, ldm_1018, stm_1018, ldm_1019, stm_1019, ldm_1020, stm_1020, ldm_1021, stm_1021, ldm_1022, stm_1022, u2_s, u2_a, u2_b, not_true, not_false_iff, ldm_1023, stm_1023, ldm_1024, stm_1024, ldm_1025, stm_1025, ldm_1026, stm_1026, ldm_1027, stm_1027, ldm_1028, stm_1028, ldm_1029, stm_1029, ldm_1030, stm_1030, ldm_1031, stm_1031, ldm_1032, stm_1032, ldm_1033, stm_1033, ldm_1034, stm_1034, ldm_1035, stm_1035, ldm_1036, stm_1036, ldm_1037, stm_1037, ldm_1038, stm_1038, ldm_1039, stm_1039, ldm_1040, stm_1040, wsln hk, wsch hk, hp, t1, bI_T, bI_F, nar_eq, d, B_X12_stood_102]
set_option maxRecDepth 4000 in
theorem stE {T : TT} {m : Nat → Nat → Int32} {q : Nat → Nat → Int64} {p k : Nat} (hk : k < 41) (hk2 : k ≠ 20) (h : TM T m) (hp : m 996 28 = nI p) (hpl : p < 10000) : B_X12_stood_41 996 (1000000 + k) (nI (sp isL T p)) (KS, m, q) = some (bI (stW T p (wd k)), (KS, m, q)) := by
  have h7 := wd_len k hk
  have hpos := wd_pos k hk hk2
  have h4 := h.2.1
  have hg := sp_ge (P := isL) (T := T) hL p
  have hc := sp_cap (P := isL) (T := T) hL (i := p) (c := 10000) (by omega) (by omega)
  have hsub : nI (sp isL T p) - nI p = nI (sp isL T p - p) := pk_sub hg
  unfold B_X12_stood_41 B_X12_stood_59
  by_cases c : sp isL T p = p + (wd k).length
  · have e : sp isL T p - p = (wd k).length := by omega
    have hpT : p ≤ T.1 := by
      apply Classical.byContradiction
      intro d
      have := sp_stop (P := isL) (T := T) (i := p) (by rw [bt_end (by omega)]; rfl)
      omega
    have hle := sp_le (P := isL) (T := T) hL hpT
    have a := stL (q := q) hk h hp (by omega) (wd k).length 0 mk_fu true (by omega) (by omega) (by rw [mk_fu_eq]; omega) rfl
    have e2 : stW T p (wd k) = eqf T p (wd k) (wd k).length := by simp only [stW, c, decide_true, Bool.true_and]
    rw [e2, ← a]
    simp (disch := omega) only [gdm, gam_1, gam_2, gam_3, gam_4, gam_5, gam_6, gam_7, gam_8, gam_9, gam_10, gam_11, gam_12, gam_13, gam_14, gam_15, gam_16, gam_17, gam_18, gam_19, gam_20, gam_21, gam_22, gam_23, gam_24, gam_25, gam_26, gam_37, gam_38, gam_39, gam_40, gam_41, gam_42, gam_43, gam_44, gam_45, gam_46, gam_48, gam_49, gam_56, gam_57, gam_58, gam_59, gam_60, gam_61, gim_27, gim_28, gim_29, gim_30, gim_31, gim_32, gim_33, gim_34, gim_35, gim_36, gim_47, gim_50, gim_51, gim_52, gim_53, gim_54, gim_55, gim_62, gim_63, ob_some, reduceIte, lit, le_T, le_F, lt_T, lt_F, eq_T, eq_F, nI_add, ldm_997, stm_997, ldm_998, stm_998, ldm_999, stm_999, ldm_1000, stm_1000, ldm_1001, stm_1001, ldm_1002, stm_1002, ldm_1003, stm_1003, ldm_1004, stm_1004, ldm_1005, stm_1005, ldm_1006, stm_1006, ldm_1007, stm_1007, ldm_1008, stm_1008, ldm_1009, stm_1009, ldm_1010, stm_1010, ldm_1011, stm_1011, ldm_1012, stm_1012, ldm_1013, stm_1013, ldm_1014, stm_1014, ldm_1015, stm_1015, ldm_1016, stm_1016, ldm_1017, stm_1017, ldm_1018, stm_1018, ldm_1019, stm_1019, ldm_1020, stm_1020, ldm_1021, stm_1021, ldm_1022, stm_1022, u2_s, u2_a, u2_b, not_true, not_false_iff, hp, hsub, wsln hk, bI_T]
  · have e2 : stW T p (wd k) = false := by simp only [stW, c, decide_false, Bool.false_and]
    rw [e2]
    obtain ⟨g, e3⟩ : ∃ g, mk_fu = g + 1 := ⟨99999, rfl⟩
    rw [e3]
    simp only [B_X12_stood_63]
    simp (disch := omega) only [gdm, gam_1, gam_2, gam_3, gam_4, gam_5, gam_6, gam_7, gam_8, gam_9, gam_10, gam_11, gam_12, gam_13, gam_14, gam_15, gam_16, gam_17, gam_18, gam_19, gam_20, gam_21, gam_22, gam_23, gam_24, gam_25, gam_26, gam_37, gam_38, gam_39, gam_40, gam_41, gam_42, gam_43, gam_44, gam_45, gam_46, gam_48, gam_49, gam_56, gam_57, gam_58, gam_59, gam_60, gam_61, gim_27, gim_28, gim_29, gim_30, gim_31, gim_32, gim_33, gim_34, gim_35, gim_36, gim_47, gim_50, gim_51, gim_52, gim_53, gim_54, gim_55, gim_62, gim_63, ob_some, reduceIte, lit, le_T, le_F, lt_T, lt_F, eq_T, eq_F, nI_add, ldm_997, stm_997, ldm_998, stm_998, ldm_999, stm_999, ldm_1000, stm_1000, ldm_1001, stm_1001, ldm_1002, stm_1002, ldm_1003, stm_1003, ldm_1004, stm_1004, ldm_1005, stm_1005, ldm_1006, stm_1006, ldm_1007, stm_1007, ldm_1008, stm_1008, ldm_1009, stm_1009, ldm_1010, stm_1010, ldm_1011, stm_1011, ldm_1012, stm_1012, ldm_1013, stm_1013, ldm_1014, stm_1014, ldm_1015, stm_1015, ldm_1016, stm_1016, ldm_1017, stm_1017, ldm_1018, stm_1018, ldm_1019, stm_1019, ldm_1020, stm_1020, ldm_1021, stm_1021, ldm_1022, stm_1022, u2_s, u2_a, u2_b, not_true, not_false_iff, hp, hsub, wsln hk, bI_F, rz0]
set_option maxRecDepth 4000 in
theorem stF {T : TT} {m : Nat → Nat → Int32} {q : Nat → Nat → Int64} {a : Nat} (h : TM T m) : ∀ (n i f : Nat), T.1 - i ≤ n → n < f → i < 10000 → B_X12_stood_5 f 996 a (nI i) (KS, m, q) = B_X12_stood_41 996 a (nI (sp isL T i)) (KS, m, q) := by
  intro n
  have h4 := h.2.1
  induction n with
  | zero =>
    intro i f hi hf hp
    obtain ⟨f, rfl⟩ : ∃ g, f = g + 1 := ⟨f - 1, by omega⟩
    rw [sp_stop (by rw [bt_end (by omega)]; rfl), B_X12_stood_5]
    simp (disch := omega) only [gdm, gam_1, gam_2, gam_3, gam_4, gam_5, gam_6, gam_7, gam_8, gam_9, gam_10, gam_11, gam_12, gam_13, gam_14, gam_15, gam_16, gam_17, gam_18, gam_19, gam_20, gam_21, gam_22, gam_23, gam_24, gam_25, gam_26, gam_37, gam_38, gam_39, gam_40, gam_41, gam_42, gam_43, gam_44, gam_45, gam_46, gam_48, gam_49, gam_56, gam_57, gam_58, gam_59, gam_60, gam_61, gim_27, gim_28, gim_29, gim_30, gim_31, gim_32, gim_33, gim_34, gim_35, gim_36, gim_47, gim_50, gim_51, gim_52, gim_53, gim_54, gim_55, gim_62, gim_63, ob_some, reduceIte, lit, le_T, le_F, lt_T, lt_F, eq_T, eq_F, nI_add, ldm_997, stm_997, ldm_998, stm_998, ldm_999, stm_999, ldm_1000, stm_1000, ldm_1001, stm_1001, ldm_1002, stm_1002, ldm_1003, stm_1003, ldm_1004, stm_1004, ldm_1005, stm_1005, ldm_1006, stm_1006, ldm_1007, stm_1007, ldm_1008, stm_1008, ldm_1009, stm_1009, ldm_1010, stm_1010, ldm_1011, stm_1011, ldm_1012, stm_1012, ldm_1013, stm_1013, ldm_1014, stm_1014, ldm_1015, stm_1015, ldm_1016, stm_1016, ldm_1017, stm_1017, ldm_1018, stm_1018, ldm_1019, stm_1019, ldm_1020, stm_1020, ldm_1021, stm_1021, ldm_1022, stm_1022, u2_s, u2_a, u2_b, not_true, not_false_iff, h.1]
  | succ n ih =>
    intro i f hi hf hp
    obtain ⟨f, rfl⟩ : ∃ g, f = g + 1 := ⟨f - 1, by omega⟩
    by_cases c : i < T.1
    · obtain ⟨t1, t2⟩ := h.2.2 i c
      by_cases d : isL (bt T i) = true
      · obtain ⟨-, e⟩ := sp_go (P := isL) (T := T) (i := i) hL d
        have d0 := isL_of d
        rw [bt_in c] at d0
        have g : ¬ (T.2 i < 97 ∨ 128 ≤ T.2 i) := by omega
        have g2 : ¬ 122 < T.2 i := by omega
        rw [e, ← ih (i + 1) f (by omega) (by omega) (by omega), B_X12_stood_5]
        simp (disch := omega) only [gdm, gam_1, gam_2, gam_3, gam_4, gam_5, gam_6, gam_7, gam_8, gam_9, gam_10, gam_11, gam_12, gam_13, gam_14, gam_15, gam_16, gam_17, gam_18, gam_19, gam_20, gam_21, gam_22, gam_23, gam_24, gam_25, gam_26, gam_37, gam_38, gam_39, gam_40, gam_41, gam_42, gam_43, gam_44, gam_45, gam_46, gam_48, gam_49, gam_56, gam_57, gam_58, gam_59, gam_60, gam_61, gim_27, gim_28, gim_29, gim_30, gim_31, gim_32, gim_33, gim_34, gim_35, gim_36, gim_47, gim_50, gim_51, gim_52, gim_53, gim_54, gim_55, gim_62, gim_63, ob_some, reduceIte, lit, le_T, le_F, lt_T, lt_F, eq_T, eq_F, nI_add, ldm_997, stm_997, ldm_998, stm_998, ldm_999, stm_999, ldm_1000, stm_1000, ldm_1001, stm_1001, ldm_1002, stm_1002, ldm_1003, stm_1003, ldm_1004, stm_1004, ldm_1005, stm_1005, ldm_1006, stm_1006, ldm_1007, stm_1007, ldm_1008, stm_1008, ldm_1009, stm_1009, ldm_1010, stm_1010, ldm_1011, stm_1011, ldm_1012, stm_1012, ldm_1013, stm_1013, ldm_1014, stm_1014, ldm_1015, stm_1015, ldm_1016, stm_1016, ldm_1017, stm_1017, ldm_1018, stm_1018, ldm_1019, stm_1019, ldm_1020, stm_1020, ldm_1021, stm_1021, ldm_1022, stm_1022, u2_s, u2_a, u2_b, not_true, not_false_iff, ldm_1023, stm_1023, ldm_1024, stm_1024, ldm_1025, stm_1025, ldm_1026, stm_1026, ldm_1027, stm_1027, ldm_1028, stm_1028, ldm_1029, stm_1029, ldm_1030, stm_1030, ldm_1031, stm_1031, ldm_1032, stm_1032, ldm_1033, stm_1033, ldm_1034, stm_1034, ldm_1035, stm_1035, ldm_1036, stm_1036, ldm_1037, stm_1037, ldm_1038, stm_1038, ldm_1039, stm_1039, ldm_1040, stm_1040, h.1, t1, nar_l t2, nar_g t2 g, g, g2]
      · have d' : isL (bt T i) = false := by simpa using d
        have d0 := isL_no d'
        rw [bt_in c] at d0
        rw [sp_stop d', B_X12_stood_5]
        by_cases g : T.2 i < 97 ∨ 128 ≤ T.2 i
        · simp (disch := omega) only [gdm, gam_1, gam_2, gam_3, gam_4, gam_5, gam_6, gam_7, gam_8, gam_9, gam_10, gam_11, gam_12, gam_13, gam_14, gam_15, gam_16, gam_17, gam_18, gam_19, gam_20, gam_21, gam_22, gam_23, gam_24, gam_25, gam_26, gam_37, gam_38, gam_39, gam_40, gam_41, gam_42, gam_43, gam_44, gam_45, gam_46, gam_48, gam_49, gam_56, gam_57, gam_58, gam_59, gam_60, gam_61, gim_27, gim_28, gim_29, gim_30, gim_31, gim_32, gim_33, gim_34, gim_35, gim_36, gim_47, gim_50, gim_51, gim_52, gim_53, gim_54, gim_55, gim_62, gim_63, ob_some, reduceIte, lit, le_T, le_F, lt_T, lt_F, eq_T, eq_F, nI_add, ldm_997, stm_997, ldm_998, stm_998, ldm_999, stm_999, ldm_1000, stm_1000, ldm_1001, stm_1001, ldm_1002, stm_1002, ldm_1003, stm_1003, ldm_1004, stm_1004, ldm_1005, stm_1005, ldm_1006, stm_1006, ldm_1007, stm_1007, ldm_1008, stm_1008, ldm_1009, stm_1009, ldm_1010, stm_1010, ldm_1011, stm_1011, ldm_1012, stm_1012, ldm_1013, stm_1013, ldm_1014, stm_1014, ldm_1015, stm_1015, ldm_1016, stm_1016, ldm_1017, stm_1017, ldm_1018, stm_1018, ldm_1019, stm_1019, ldm_1020, stm_1020, ldm_1021, stm_1021, ldm_1022, stm_1022, u2_s, u2_a, u2_b, not_true, not_false_iff, ldm_1023, stm_1023, ldm_1024, stm_1024, ldm_1025, stm_1025, ldm_1026, stm_1026, ldm_1027, stm_1027, ldm_1028, stm_1028, ldm_1029, stm_1029, ldm_1030, stm_1030, ldm_1031, stm_1031, ldm_1032, stm_1032, ldm_1033, stm_1033, ldm_1034, stm_1034, ldm_1035, stm_1035, ldm_1036, stm_1036, ldm_1037, stm_1037, ldm_1038, stm_1038, ldm_1039, stm_1039, ldm_1040, stm_1040, h.1, t1, nar_l t2, g]
        · have g2 : 122 < T.2 i := by omega
          simp (disch := omega) only [gdm, gam_1, gam_2, gam_3, gam_4, gam_5, gam_6, gam_7, gam_8, gam_9, gam_10, gam_11, gam_12, gam_13, gam_14, gam_15, gam_16, gam_17, gam_18, gam_19, gam_20, gam_21, gam_22, gam_23, gam_24, gam_25, gam_26, gam_37, gam_38, gam_39, gam_40, gam_41, gam_42, gam_43, gam_44, gam_45, gam_46, gam_48, gam_49, gam_56, gam_57, gam_58, gam_59, gam_60, gam_61, gim_27, gim_28, gim_29, gim_30, gim_31, gim_32, gim_33, gim_34, gim_35, gim_36, gim_47, gim_50, gim_51, gim_52, gim_53, gim_54, gim_55, gim_62, gim_63, ob_some, reduceIte, lit, le_T, le_F, lt_T, lt_F, eq_T, eq_F, nI_add, ldm_997, stm_997, ldm_998, stm_998, ldm_999, stm_999, ldm_1000, stm_1000, ldm_1001, stm_1001, ldm_1002, stm_1002, ldm_1003, stm_1003, ldm_1004, stm_1004, ldm_1005, stm_1005, ldm_1006, stm_1006, ldm_1007, stm_1007, ldm_1008, stm_1008, ldm_1009, stm_1009, ldm_1010, stm_1010, ldm_1011, stm_1011, ldm_1012, stm_1012, ldm_1013, stm_1013, ldm_1014, stm_1014, ldm_1015, stm_1015, ldm_1016, stm_1016, ldm_1017, stm_1017, ldm_1018, stm_1018, ldm_1019, stm_1019, ldm_1020, stm_1020, ldm_1021, stm_1021, ldm_1022, stm_1022, u2_s, u2_a, u2_b, not_true, not_false_iff, ldm_1023, stm_1023, ldm_1024, stm_1024, ldm_1025, stm_1025, ldm_1026, stm_1026, ldm_1027, stm_1027, ldm_1028, stm_1028, ldm_1029, stm_1029, ldm_1030, stm_1030, ldm_1031, stm_1031, ldm_1032, stm_1032, ldm_1033, stm_1033, ldm_1034, stm_1034, ldm_1035, stm_1035, ldm_1036, stm_1036, ldm_1037, stm_1037, ldm_1038, stm_1038, ldm_1039, stm_1039, ldm_1040, stm_1040, h.1, t1, nar_l t2, nar_g t2 g, g, g2]
    · rw [sp_stop (by rw [bt_end (by omega)]; rfl), B_X12_stood_5]
      simp (disch := omega) only [gdm, gam_1, gam_2, gam_3, gam_4, gam_5, gam_6, gam_7, gam_8, gam_9, gam_10, gam_11, gam_12, gam_13, gam_14, gam_15, gam_16, gam_17, gam_18, gam_19, gam_20, gam_21, gam_22, gam_23, gam_24, gam_25, gam_26, gam_37, gam_38, gam_39, gam_40, gam_41, gam_42, gam_43, gam_44, gam_45, gam_46, gam_48, gam_49, gam_56, gam_57, gam_58, gam_59, gam_60, gam_61, gim_27, gim_28, gim_29, gim_30, gim_31, gim_32, gim_33, gim_34, gim_35, gim_36, gim_47, gim_50, gim_51, gim_52, gim_53, gim_54, gim_55, gim_62, gim_63, ob_some, reduceIte, lit, le_T, le_F, lt_T, lt_F, eq_T, eq_F, nI_add, ldm_997, stm_997, ldm_998, stm_998, ldm_999, stm_999, ldm_1000, stm_1000, ldm_1001, stm_1001, ldm_1002, stm_1002, ldm_1003, stm_1003, ldm_1004, stm_1004, ldm_1005, stm_1005, ldm_1006, stm_1006, ldm_1007, stm_1007, ldm_1008, stm_1008, ldm_1009, stm_1009, ldm_1010, stm_1010, ldm_1011, stm_1011, ldm_1012, stm_1012, ldm_1013, stm_1013, ldm_1014, stm_1014, ldm_1015, stm_1015, ldm_1016, stm_1016, ldm_1017, stm_1017, ldm_1018, stm_1018, ldm_1019, stm_1019, ldm_1020, stm_1020, ldm_1021, stm_1021, ldm_1022, stm_1022, u2_s, u2_a, u2_b, not_true, not_false_iff, h.1]
set_option maxRecDepth 4000 in
theorem stM {T : TT} {m : Nat → Nat → Int32} {q : Nat → Nat → Int64} {p k : Nat} (hk : k < 41) (hk2 : k ≠ 20) (h : TM T m) (hp : m 996 28 = nI p) (hpl : p < 10000) : F_X12_stood 996 (1000000 + k) (KS, m, q) = some (bI (stW T p (wd k)), (KS, m, q)) := by
  have h4 := h.2.1
  unfold F_X12_stood
  rw [gdm, gim_28, ob_some, hp, stF h (T.1 - p) p mk_fu (Nat.le_refl _) (by rw [mk_fu_eq]; omega) hpl]
  exact stE hk hk2 h hp hpl
set_option maxRecDepth 4000 in
/-- by its place among the twenty -/
theorem stMw {T : TT} {m : Nat → Nat → Int32} {q : Nat → Nat → Int64} {p k j : Nat} (hk : k < 41) (hk2 : k ≠ 20) (hj : j < 20) (e : wd k = wd j) (h : TM T m) (hp : m 996 28 = nI p) (hpl : p < 10000) : F_X12_stood 996 (1000000 + k) (KS, m, q) = some (bI (decide (wix T p = j)), (KS, m, q)) := by
  rw [stM hk hk2 h hp hpl, e, stW_iff hj]
set_option maxRecDepth 4000 in
theorem wordOfM {k : Nat} (hk : k < 12) (t : mk_S) : F_X12_wordOf (nI k) t = some (1000000 + (21 + k), t) := by
  unfold F_X12_wordOf
  rcases (show k = 0 ∨ k = 1 ∨ k = 2 ∨ k = 3 ∨ k = 4 ∨ k = 5 ∨ k = 6 ∨ k = 7 ∨ k = 8 ∨ k = 9 ∨ k = 10 ∨ k = 11 by omega) with e | e | e | e | e | e | e | e | e | e | e | e <;> subst e <;> simp (disch := omega) only [lit, eq_T, eq_F, reduceIte]
set_option maxRecDepth 4000 in
theorem wd_word : ∀ k, k < 12 → wd (21 + k) = wd k := by decide +kernel
/-! faults -/
set_option maxRecDepth 4000 in
theorem flM {m : Nat → Nat → Int32} {q : Nat → Nat → Int64} {p c fa : Nat} (h : m 996 29 = nI fa) (hf : fa < 100000) (hp : p < 10000) : F_X12_fails 996 (nI c) (nI p) (KS, m, q) = some ((), (KS, mk_u2 m 996 29 (nI (if fa = 0 then 1 + 8 * p + c else fa)), q)) := by
  unfold F_X12_fails
  by_cases c : fa = 0
  · subst c
    simp (disch := omega) only [gdm, gam_1, gam_2, gam_3, gam_4, gam_5, gam_6, gam_7, gam_8, gam_9, gam_10, gam_11, gam_12, gam_13, gam_14, gam_15, gam_16, gam_17, gam_18, gam_19, gam_20, gam_21, gam_22, gam_23, gam_24, gam_25, gam_26, gam_37, gam_38, gam_39, gam_40, gam_41, gam_42, gam_43, gam_44, gam_45, gam_46, gam_48, gam_49, gam_56, gam_57, gam_58, gam_59, gam_60, gam_61, gim_27, gim_28, gim_29, gim_30, gim_31, gim_32, gim_33, gim_34, gim_35, gim_36, gim_47, gim_50, gim_51, gim_52, gim_53, gim_54, gim_55, gim_62, gim_63, ob_some, reduceIte, lit, le_T, le_F, lt_T, lt_F, eq_T, eq_F, nI_add, ldm_997, stm_997, ldm_998, stm_998, ldm_999, stm_999, ldm_1000, stm_1000, ldm_1001, stm_1001, ldm_1002, stm_1002, ldm_1003, stm_1003, ldm_1004, stm_1004, ldm_1005, stm_1005, ldm_1006, stm_1006, ldm_1007, stm_1007, ldm_1008, stm_1008, ldm_1009, stm_1009, ldm_1010, stm_1010, ldm_1011, stm_1011, ldm_1012, stm_1012, ldm_1013, stm_1013, ldm_1014, stm_1014, ldm_1015, stm_1015, ldm_1016, stm_1016, ldm_1017, stm_1017, ldm_1018, stm_1018, ldm_1019, stm_1019, ldm_1020, stm_1020, ldm_1021, stm_1021, ldm_1022, stm_1022, u2_s, u2_a, u2_b, not_true, not_false_iff, pim_27, pim_28, pim_29, pim_30, pim_31, pim_32, pim_33, pim_34, pim_35, pim_36, pim_47, pim_50, pim_51, pim_52, pim_53, pim_54, pim_55, pim_62, pim_63, h, pk_mul]
  · simp (disch := omega) only [gdm, gam_1, gam_2, gam_3, gam_4, gam_5, gam_6, gam_7, gam_8, gam_9, gam_10, gam_11, gam_12, gam_13, gam_14, gam_15, gam_16, gam_17, gam_18, gam_19, gam_20, gam_21, gam_22, gam_23, gam_24, gam_25, gam_26, gam_37, gam_38, gam_39, gam_40, gam_41, gam_42, gam_43, gam_44, gam_45, gam_46, gam_48, gam_49, gam_56, gam_57, gam_58, gam_59, gam_60, gam_61, gim_27, gim_28, gim_29, gim_30, gim_31, gim_32, gim_33, gim_34, gim_35, gim_36, gim_47, gim_50, gim_51, gim_52, gim_53, gim_54, gim_55, gim_62, gim_63, ob_some, reduceIte, lit, le_T, le_F, lt_T, lt_F, eq_T, eq_F, nI_add, ldm_997, stm_997, ldm_998, stm_998, ldm_999, stm_999, ldm_1000, stm_1000, ldm_1001, stm_1001, ldm_1002, stm_1002, ldm_1003, stm_1003, ldm_1004, stm_1004, ldm_1005, stm_1005, ldm_1006, stm_1006, ldm_1007, stm_1007, ldm_1008, stm_1008, ldm_1009, stm_1009, ldm_1010, stm_1010, ldm_1011, stm_1011, ldm_1012, stm_1012, ldm_1013, stm_1013, ldm_1014, stm_1014, ldm_1015, stm_1015, ldm_1016, stm_1016, ldm_1017, stm_1017, ldm_1018, stm_1018, ldm_1019, stm_1019, ldm_1020, stm_1020, ldm_1021, stm_1021, ldm_1022, stm_1022, u2_s, u2_a, u2_b, not_true, not_false_iff, pim_27, pim_28, pim_29, pim_30, pim_31, pim_32, pim_33, pim_34, pim_35, pim_36, pim_47, pim_50, pim_51, pim_52, pim_53, pim_54, pim_55, pim_62, pim_63, h, c]
/-! numbers -/
set_option maxRecDepth 4000 in
theorem dgL {T : TT} {q : Nat → Nat → Int64} {s : Nat} : ∀ (n p f : Nat) (m : Nat → Nat → Int32), T.1 - p ≤ n → n < f → s ≤ p → p ≤ T.1 → (∀ j, s ≤ j → j < p → isD (bt T j) = true) → TM T m → m 996 28 = nI p → B_X12_digits_25 f 996 (nI 99999) (nI s) (nI (nval T s (min 5 (p - s)))) (KS, m, q) = if sp isD T p - s ≤ 5 then some (nI (nval T s (sp isD T p - s)), (KS, (mk_u2 m 996 28 (nI (sp isD T p))), q)) else (F_X12_fails 996 (nI 1) (nI s) (KS, (mk_u2 m 996 28 (nI (sp isD T p))), q)).bind fun z => some (nI (nval T s 5), z.2) := by
  intro n
  induction n with
  | zero =>
    intro p f m hi hf hs hp2 hd hT h2
    obtain ⟨f, rfl⟩ : ∃ g, f = g + 1 := ⟨f - 1, by omega⟩
    have hl := hT.2.1
    have e := bt_end (T := T) (i := p) (by omega)
    have hid := idM (q := q) hT h2 (by omega)
    rw [e, hD, bI_F] at hid
    have hsub : nI p - nI s = nI (p - s) := pk_sub hs
    rw [sp_stop (by rw [e]; rfl), u2_id h2, B_X12_digits_25]
    by_cases c : p - s ≤ 5
    · have hv := nval_lt (T := T) (s := s) (p - s) (fun j hj => by have := hd (s + j) (by omega) (by omega); rwa [bt_in (by omega)] at this)
      have : 10 ^ (p - s) ≤ 10 ^ 5 := Nat.pow_le_pow_right (by omega) c
      rw [Nat.min_eq_right c, if_pos c]
      simp (disch := omega) only [gdm, gam_1, gam_2, gam_3, gam_4, gam_5, gam_6, gam_7, gam_8, gam_9, gam_10, gam_11, gam_12, gam_13, gam_14, gam_15, gam_16, gam_17, gam_18, gam_19, gam_20, gam_21, gam_22, gam_23, gam_24, gam_25, gam_26, gam_37, gam_38, gam_39, gam_40, gam_41, gam_42, gam_43, gam_44, gam_45, gam_46, gam_48, gam_49, gam_56, gam_57, gam_58, gam_59, gam_60, gam_61, gim_27, gim_28, gim_29, gim_30, gim_31, gim_32, gim_33, gim_34, gim_35, gim_36, gim_47, gim_50, gim_51, gim_52, gim_53, gim_54, gim_55, gim_62, gim_63, ob_some, reduceIte, lit, le_T, le_F, lt_T, lt_F, eq_T, eq_F, nI_add, ldm_997, stm_997, ldm_998, stm_998, ldm_999, stm_999, ldm_1000, stm_1000, ldm_1001, stm_1001, ldm_1002, stm_1002, ldm_1003, stm_1003, ldm_1004, stm_1004, ldm_1005, stm_1005, ldm_1006, stm_1006, ldm_1007, stm_1007, ldm_1008, stm_1008, ldm_1009, stm_1009, ldm_1010, stm_1010, ldm_1011, stm_1011, ldm_1012, stm_1012, ldm_1013, stm_1013, ldm_1014, stm_1014, ldm_1015, stm_1015, ldm_1016, stm_1016, ldm_1017, stm_1017, ldm_1018, stm_1018, ldm_1019, stm_1019, ldm_1020, stm_1020, ldm_1021, stm_1021, ldm_1022, stm_1022, u2_s, u2_a, u2_b, not_true, not_false_iff, hid, h2, hsub]
    · rw [Nat.min_eq_left (by omega), if_neg c]
      simp (disch := omega) only [gdm, gam_1, gam_2, gam_3, gam_4, gam_5, gam_6, gam_7, gam_8, gam_9, gam_10, gam_11, gam_12, gam_13, gam_14, gam_15, gam_16, gam_17, gam_18, gam_19, gam_20, gam_21, gam_22, gam_23, gam_24, gam_25, gam_26, gam_37, gam_38, gam_39, gam_40, gam_41, gam_42, gam_43, gam_44, gam_45, gam_46, gam_48, gam_49, gam_56, gam_57, gam_58, gam_59, gam_60, gam_61, gim_27, gim_28, gim_29, gim_30, gim_31, gim_32, gim_33, gim_34, gim_35, gim_36, gim_47, gim_50, gim_51, gim_52, gim_53, gim_54, gim_55, gim_62, gim_63, ob_some, reduceIte, lit, le_T, le_F, lt_T, lt_F, eq_T, eq_F, nI_add, ldm_997, stm_997, ldm_998, stm_998, ldm_999, stm_999, ldm_1000, stm_1000, ldm_1001, stm_1001, ldm_1002, stm_1002, ldm_1003, stm_1003, ldm_1004, stm_1004, ldm_1005, stm_1005, ldm_1006, stm_1006, ldm_1007, stm_1007, ldm_1008, stm_1008, ldm_1009, stm_1009, ldm_1010, stm_1010, ldm_1011, stm_1011, ldm_1012, stm_1012, ldm_1013, stm_1013, ldm_1014, stm_1014, ldm_1015, stm_1015, ldm_1016, stm_1016, ldm_1017, stm_1017, ldm_1018, stm_1018, ldm_1019, stm_1019, ldm_1020, stm_1020, ldm_1021, stm_1021, ldm_1022, stm_1022, u2_s, u2_a, u2_b, not_true, not_false_iff, hid, h2, hsub, B_X12_digits_87]
  | succ n ih =>
    intro p f m hi hf hs hp2 hd hT h2
    obtain ⟨f, rfl⟩ : ∃ g, f = g + 1 := ⟨f - 1, by omega⟩
    have hl := hT.2.1
    have hid := idM (q := q) hT h2 (by omega)
    have hsub : nI p - nI s = nI (p - s) := pk_sub hs
    cases d : isD (bt T p) with
    | true =>
      obtain ⟨dl, e⟩ := sp_go (P := isD) (T := T) (i := p) hD d
      obtain ⟨d1, d2⟩ := isD_of d
      rw [d, bI_T] at hid
      have hd' : ∀ j, s ≤ j → j < p + 1 → isD (bt T j) = true := fun j h3 h4 => by
        rcases Nat.lt_or_ge j p with g | g
        · exact hd j h3 g
        · have : j = p := by omega
          subst this; exact d
      have a := ih (p + 1) f ((mk_u2 m 996 28 (nI (p + 1)))) (by omega) (by omega) (by omega) (by omega) hd' (hT.up (by omega)) u2_s
      simp only [u2_u2] at a
      rw [e, ← a, B_X12_digits_25]
      by_cases c : p - s < 5
      · have e1 : min 5 (p - s) = p - s := by omega
        have e2 : min 5 (p + 1 - s) = p - s + 1 := by omega
        have e3 : s + (p - s) = p := by omega
        have ev : nI 10 * nI (nval T s (p - s)) + sI (bt T p) - nI 48 = nI (nval T s (p - s + 1)) := by
          rw [sI_n (by omega), pk_mul, nI_add, pk_sub (by omega)]
          simp only [nval]
          rw [e3, ← bt_in dl]
          congr 1
          omega
        rw [e1, e2]
        simp (disch := omega) only [gdm, gam_1, gam_2, gam_3, gam_4, gam_5, gam_6, gam_7, gam_8, gam_9, gam_10, gam_11, gam_12, gam_13, gam_14, gam_15, gam_16, gam_17, gam_18, gam_19, gam_20, gam_21, gam_22, gam_23, gam_24, gam_25, gam_26, gam_37, gam_38, gam_39, gam_40, gam_41, gam_42, gam_43, gam_44, gam_45, gam_46, gam_48, gam_49, gam_56, gam_57, gam_58, gam_59, gam_60, gam_61, gim_27, gim_28, gim_29, gim_30, gim_31, gim_32, gim_33, gim_34, gim_35, gim_36, gim_47, gim_50, gim_51, gim_52, gim_53, gim_54, gim_55, gim_62, gim_63, ob_some, reduceIte, lit, le_T, le_F, lt_T, lt_F, eq_T, eq_F, nI_add, ldm_997, stm_997, ldm_998, stm_998, ldm_999, stm_999, ldm_1000, stm_1000, ldm_1001, stm_1001, ldm_1002, stm_1002, ldm_1003, stm_1003, ldm_1004, stm_1004, ldm_1005, stm_1005, ldm_1006, stm_1006, ldm_1007, stm_1007, ldm_1008, stm_1008, ldm_1009, stm_1009, ldm_1010, stm_1010, ldm_1011, stm_1011, ldm_1012, stm_1012, ldm_1013, stm_1013, ldm_1014, stm_1014, ldm_1015, stm_1015, ldm_1016, stm_1016, ldm_1017, stm_1017, ldm_1018, stm_1018, ldm_1019, stm_1019, ldm_1020, stm_1020, ldm_1021, stm_1021, ldm_1022, stm_1022, u2_s, u2_a, u2_b, not_true, not_false_iff, pim_27, pim_28, pim_29, pim_30, pim_31, pim_32, pim_33, pim_34, pim_35, pim_36, pim_47, pim_50, pim_51, pim_52, pim_53, pim_54, pim_55, pim_62, pim_63, hid, h2, hsub, sgM hT h2, B_X12_digits_58, ev]
      · have e1 : min 5 (p - s) = 5 := by omega
        have e2 : min 5 (p + 1 - s) = 5 := by omega
        rw [e1, e2]
        simp (disch := omega) only [gdm, gam_1, gam_2, gam_3, gam_4, gam_5, gam_6, gam_7, gam_8, gam_9, gam_10, gam_11, gam_12, gam_13, gam_14, gam_15, gam_16, gam_17, gam_18, gam_19, gam_20, gam_21, gam_22, gam_23, gam_24, gam_25, gam_26, gam_37, gam_38, gam_39, gam_40, gam_41, gam_42, gam_43, gam_44, gam_45, gam_46, gam_48, gam_49, gam_56, gam_57, gam_58, gam_59, gam_60, gam_61, gim_27, gim_28, gim_29, gim_30, gim_31, gim_32, gim_33, gim_34, gim_35, gim_36, gim_47, gim_50, gim_51, gim_52, gim_53, gim_54, gim_55, gim_62, gim_63, ob_some, reduceIte, lit, le_T, le_F, lt_T, lt_F, eq_T, eq_F, nI_add, ldm_997, stm_997, ldm_998, stm_998, ldm_999, stm_999, ldm_1000, stm_1000, ldm_1001, stm_1001, ldm_1002, stm_1002, ldm_1003, stm_1003, ldm_1004, stm_1004, ldm_1005, stm_1005, ldm_1006, stm_1006, ldm_1007, stm_1007, ldm_1008, stm_1008, ldm_1009, stm_1009, ldm_1010, stm_1010, ldm_1011, stm_1011, ldm_1012, stm_1012, ldm_1013, stm_1013, ldm_1014, stm_1014, ldm_1015, stm_1015, ldm_1016, stm_1016, ldm_1017, stm_1017, ldm_1018, stm_1018, ldm_1019, stm_1019, ldm_1020, stm_1020, ldm_1021, stm_1021, ldm_1022, stm_1022, u2_s, u2_a, u2_b, not_true, not_false_iff, pim_27, pim_28, pim_29, pim_30, pim_31, pim_32, pim_33, pim_34, pim_35, pim_36, pim_47, pim_50, pim_51, pim_52, pim_53, pim_54, pim_55, pim_62, pim_63, hid, h2, hsub, B_X12_digits_58]
    | false =>
      rw [d, bI_F] at hid
      rw [sp_stop d, u2_id h2, B_X12_digits_25]
      by_cases c : p - s ≤ 5
      · have hv := nval_lt (T := T) (s := s) (p - s) (fun j hj => by have := hd (s + j) (by omega) (by omega); rwa [bt_in (by omega)] at this)
        have : 10 ^ (p - s) ≤ 10 ^ 5 := Nat.pow_le_pow_right (by omega) c
        rw [Nat.min_eq_right c, if_pos c]
        simp (disch := omega) only [gdm, gam_1, gam_2, gam_3, gam_4, gam_5, gam_6, gam_7, gam_8, gam_9, gam_10, gam_11, gam_12, gam_13, gam_14, gam_15, gam_16, gam_17, gam_18, gam_19, gam_20, gam_21, gam_22, gam_23, gam_24, gam_25, gam_26, gam_37, gam_38, gam_39, gam_40, gam_41, gam_42, gam_43, gam_44, gam_45, gam_46, gam_48, gam_49, gam_56, gam_57, gam_58, gam_59, gam_60, gam_61, gim_27, gim_28, gim_29, gim_30, gim_31, gim_32, gim_33, gim_34, gim_35, gim_36, gim_47, gim_50, gim_51, gim_52, gim_53, gim_54, gim_55, gim_62, gim_63, ob_some, reduceIte, lit, le_T, le_F, lt_T, lt_F, eq_T, eq_F, nI_add, ldm_997, stm_997, ldm_998, stm_998, ldm_999, stm_999, ldm_1000, stm_1000, ldm_1001, stm_1001, ldm_1002, stm_1002, ldm_1003, stm_1003, ldm_1004, stm_1004, ldm_1005, stm_1005, ldm_1006, stm_1006, ldm_1007, stm_1007, ldm_1008, stm_1008, ldm_1009, stm_1009, ldm_1010, stm_1010, ldm_1011, stm_1011, ldm_1012, stm_1012, ldm_1013, stm_1013, ldm_1014, stm_1014, ldm_1015, stm_1015, ldm_1016, stm_1016, ldm_1017, stm_1017, ldm_1018, stm_1018, ldm_1019, stm_1019, ldm_1020, stm_1020, ldm_1021, stm_1021, ldm_1022, stm_1022, u2_s, u2_a, u2_b, not_true, not_false_iff, hid, h2, hsub]
      · rw [Nat.min_eq_left (by omega), if_neg c]
        simp (disch := omega) only [gdm, gam_1, gam_2, gam_3, gam_4, gam_5, gam_6, gam_7, gam_8, gam_9, gam_10, gam_11, gam_12, gam_13, gam_14, gam_15, gam_16, gam_17, gam_18, gam_19, gam_20, gam_21, gam_22, gam_23, gam_24, gam_25, gam_26, gam_37, gam_38, gam_39, gam_40, gam_41, gam_42, gam_43, gam_44, gam_45, gam_46, gam_48, gam_49, gam_56, gam_57, gam_58, gam_59, gam_60, gam_61, gim_27, gim_28, gim_29, gim_30, gim_31, gim_32, gim_33, gim_34, gim_35, gim_36, gim_47, gim_50, gim_51, gim_52, gim_53, gim_54, gim_55, gim_62, gim_63, ob_some, reduceIte, lit, le_T, le_F, lt_T, lt_F, eq_T, eq_F, nI_add, ldm_997, stm_997, ldm_998, stm_998, ldm_999, stm_999, ldm_1000, stm_1000, ldm_1001, stm_1001, ldm_1002, stm_1002, ldm_1003, stm_1003, ldm_1004, stm_1004, ldm_1005, stm_1005, ldm_1006, stm_1006, ldm_1007, stm_1007, ldm_1008, stm_1008, ldm_1009, stm_1009, ldm_1010, stm_1010, ldm_1011, stm_1011, ldm_1012, stm_1012, ldm_1013, stm_1013, ldm_1014, stm_1014, ldm_1015, stm_1015, ldm_1016, stm_1016, ldm_1017, stm_1017, ldm_1018, stm_1018, ldm_1019, stm_1019, ldm_1020, stm_1020, ldm_1021, stm_1021, ldm_1022, stm_1022, u2_s, u2_a, u2_b, not_true, not_false_iff, hid, h2, hsub, B_X12_digits_87]
set_option maxRecDepth 4000 in
theorem dgM {T : TT} {m : Nat → Nat → Int32} {q : Nat → Nat → Int64} {p : Nat} (h : TM T m) (hp : m 996 28 = nI p) (hd : isD (bt T p) = true) : F_X12_digits 996 (nI 99999) (KS, m, q) = if sp isD T p - p ≤ 5 then some (nI (nval T p (sp isD T p - p)), (KS, (mk_u2 m 996 28 (nI (sp isD T p))), q)) else (F_X12_fails 996 (nI 1) (nI p) (KS, (mk_u2 m 996 28 (nI (sp isD T p))), q)).bind fun z => some (nI (nval T p 5), z.2) := by
  have hl := h.2.1
  obtain ⟨dl, e⟩ := sp_go (P := isD) (T := T) (i := p) hD hd
  have hid := idM (q := q) h hp (by omega)
  rw [hd, bI_T] at hid
  have a := dgL (q := q) (s := p) (T.1 - p) p mk_fu m (Nat.le_refl _) (by rw [mk_fu_eq]; omega) (Nat.le_refl _) (by omega) (fun j h1 h2 => by omega) h hp
  have e0 : min 5 (p - p) = 0 := by omega
  have e1 : nval T p 0 = 0 := rfl
  rw [e0, e1] at a
  rw [← a]
  unfold F_X12_digits
  simp (disch := omega) only [gdm, gam_1, gam_2, gam_3, gam_4, gam_5, gam_6, gam_7, gam_8, gam_9, gam_10, gam_11, gam_12, gam_13, gam_14, gam_15, gam_16, gam_17, gam_18, gam_19, gam_20, gam_21, gam_22, gam_23, gam_24, gam_25, gam_26, gam_37, gam_38, gam_39, gam_40, gam_41, gam_42, gam_43, gam_44, gam_45, gam_46, gam_48, gam_49, gam_56, gam_57, gam_58, gam_59, gam_60, gam_61, gim_27, gim_28, gim_29, gim_30, gim_31, gim_32, gim_33, gim_34, gim_35, gim_36, gim_47, gim_50, gim_51, gim_52, gim_53, gim_54, gim_55, gim_62, gim_63, ob_some, reduceIte, lit, le_T, le_F, lt_T, lt_F, eq_T, eq_F, nI_add, ldm_997, stm_997, ldm_998, stm_998, ldm_999, stm_999, ldm_1000, stm_1000, ldm_1001, stm_1001, ldm_1002, stm_1002, ldm_1003, stm_1003, ldm_1004, stm_1004, ldm_1005, stm_1005, ldm_1006, stm_1006, ldm_1007, stm_1007, ldm_1008, stm_1008, ldm_1009, stm_1009, ldm_1010, stm_1010, ldm_1011, stm_1011, ldm_1012, stm_1012, ldm_1013, stm_1013, ldm_1014, stm_1014, ldm_1015, stm_1015, ldm_1016, stm_1016, ldm_1017, stm_1017, ldm_1018, stm_1018, ldm_1019, stm_1019, ldm_1020, stm_1020, ldm_1021, stm_1021, ldm_1022, stm_1022, u2_s, u2_a, u2_b, not_true, not_false_iff, hid, hp]
set_option maxRecDepth 4000 in
theorem dgN {T : TT} {m : Nat → Nat → Int32} {q : Nat → Nat → Int64} {p : Nat} (h : TM T m) (hp : m 996 28 = nI p) (hpl : p < 10000) (hd : isD (bt T p) = false) : F_X12_digits 996 (nI 99999) (KS, m, q) = (F_X12_fails 996 (nI 0) (nI p) (KS, m, q)).bind fun z => some (nI 0, z.2) := by
  have hid := idM (q := q) h hp hpl
  rw [hd, bI_F] at hid
  unfold F_X12_digits
  simp (disch := omega) only [gdm, gam_1, gam_2, gam_3, gam_4, gam_5, gam_6, gam_7, gam_8, gam_9, gam_10, gam_11, gam_12, gam_13, gam_14, gam_15, gam_16, gam_17, gam_18, gam_19, gam_20, gam_21, gam_22, gam_23, gam_24, gam_25, gam_26, gam_37, gam_38, gam_39, gam_40, gam_41, gam_42, gam_43, gam_44, gam_45, gam_46, gam_48, gam_49, gam_56, gam_57, gam_58, gam_59, gam_60, gam_61, gim_27, gim_28, gim_29, gim_30, gim_31, gim_32, gim_33, gim_34, gim_35, gim_36, gim_47, gim_50, gim_51, gim_52, gim_53, gim_54, gim_55, gim_62, gim_63, ob_some, reduceIte, lit, le_T, le_F, lt_T, lt_F, eq_T, eq_F, nI_add, ldm_997, stm_997, ldm_998, stm_998, ldm_999, stm_999, ldm_1000, stm_1000, ldm_1001, stm_1001, ldm_1002, stm_1002, ldm_1003, stm_1003, ldm_1004, stm_1004, ldm_1005, stm_1005, ldm_1006, stm_1006, ldm_1007, stm_1007, ldm_1008, stm_1008, ldm_1009, stm_1009, ldm_1010, stm_1010, ldm_1011, stm_1011, ldm_1012, stm_1012, ldm_1013, stm_1013, ldm_1014, stm_1014, ldm_1015, stm_1015, ldm_1016, stm_1016, ldm_1017, stm_1017, ldm_1018, stm_1018, ldm_1019, stm_1019, ldm_1020, stm_1020, ldm_1021, stm_1021, ldm_1022, stm_1022, u2_s, u2_a, u2_b, not_true, not_false_iff, hid, hp]
