/-! RULES told: the reference; values -/
set_option maxRecDepth 4000 in
theorem SegM.app {m : Nat → Nat → Int32} {r : Nat} {e : Nat × Nat} : ∀ {cs : List (Nat × Nat)} {o : Nat}, SegM m r o cs → m 1024 (300 * r + (o + cs.length)) = nI e.1 → (e.1 ≤ 1 → m 1025 (300 * r + (o + cs.length)) = nI e.2) → SegM m r o (cs ++ [e])
  | [], o, _, h1, h2 => ⟨h1, h2, trivial⟩
  | c :: cs, o, h, h1, h2 => ⟨h.1, h.2.1, SegM.app h.2.2 (by rw [show o + 1 + cs.length = o + (c :: cs).length by simp only [List.length_cons]; omega]; exact h1) (by rw [show o + 1 + cs.length = o + (c :: cs).length by simp only [List.length_cons]; omega]; exact h2)⟩
set_option maxRecDepth 4000 in
theorem SegM.fr {m m1 : Nat → Nat → Int32} {r : Nat} : ∀ {cs : List (Nat × Nat)} {o : Nat}, SegM m r o cs → (∀ k, k < 300 * r + (o + cs.length) → m1 1024 k = m 1024 k ∧ m1 1025 k = m 1025 k) → SegM m1 r o cs
  | [], _, _, _ => trivial
  | c :: cs, o, h, e => ⟨((e _ (by simp only [List.length_cons]; omega)).1).trans h.1, fun h0 => ((e _ (by simp only [List.length_cons]; omega)).2).trans (h.2.1 h0), SegM.fr h.2.2 (fun k hk => e k (by simp only [List.length_cons]; omega))⟩
def MB (T : TT) (r o : Nat) (m : Nat → Nat → Int32) (p : Nat) (es : List (Nat × Nat)) (it : Nat) : Prop := TM T m ∧ m 996 28 = nI p ∧ p ≤ T.1 ∧ m 996 29 = nI 0 ∧ m 996 30 = nI r ∧ m 996 32 = nI (o + es.length) ∧ m 996 34 = nI it ∧ m 996 36 = nI 12 ∧ SegM m r o es
def DD (T : TT) (r : Nat) (m : Nat → Nat → Int32) (f : Nat) : Prop := TM T m ∧ m 996 29 = nI f ∧ f ≠ 0 ∧ f < 100000 ∧ (∃ p, p ≤ 405 ∧ m 996 28 = nI p) ∧ m 996 30 = nI r ∧ m 996 36 = nI 12
def FrS (r o : Nat) (m m1 : Nat → Nat → Int32) : Prop := (∀ j, j ≠ 996 → j ≠ 1024 → j ≠ 1025 → m1 j = m j) ∧ (∀ k, k ≠ 28 → k ≠ 29 → k ≠ 32 → k ≠ 34 → m1 996 k = m 996 k) ∧ (∀ k, k < 300 * r + o → m1 1024 k = m 1024 k ∧ m1 1025 k = m 1025 k)
set_option maxRecDepth 4000 in
theorem FrS.rf {r o : Nat} {m : Nat → Nat → Int32} : FrS r o m m := ⟨fun _ _ _ _ => rfl, fun _ _ _ _ _ => rfl, fun _ _ => ⟨rfl, rfl⟩⟩
set_option maxRecDepth 4000 in
theorem FrS.trans {r o o1 : Nat} {m m1 m2 : Nat → Nat → Int32} (h : FrS r o m m1) (h2 : FrS r o1 m1 m2) (ho : o ≤ o1) : FrS r o m m2 := ⟨fun j a1 a2 a3 => (h2.1 j a1 a2 a3).trans (h.1 j a1 a2 a3), fun k a1 a2 a3 a4 => (h2.2.1 k a1 a2 a3 a4).trans (h.2.1 k a1 a2 a3 a4), fun k hk => ⟨(h2.2.2 k (by omega)).1.trans (h.2.2 k hk).1, (h2.2.2 k (by omega)).2.trans (h.2.2 k hk).2⟩⟩
set_option maxRecDepth 4000 in
theorem FrS.up {r o k : Nat} {m m1 : Nat → Nat → Int32} {v : Int32} (h : FrS r o m m1) (hk : k = 28 ∨ k = 29 ∨ k = 32 ∨ k = 34) : FrS r o m (mk_u2 m1 996 k v) := ⟨fun j a1 a2 a3 => (mk_u2_ne a1).trans (h.1 j a1 a2 a3), fun k' a1 a2 a3 a4 => (u2_b (by omega)).trans (h.2.1 k' a1 a2 a3 a4), fun k' hk' => ⟨(u2_a (by omega)).trans (h.2.2 k' hk').1, (u2_a (by omega)).trans (h.2.2 k' hk').2⟩⟩
set_option maxRecDepth 4000 in
theorem MB.p {T : TT} {r o : Nat} {m : Nat → Nat → Int32} {p p1 : Nat} {es : List (Nat × Nat)} {it : Nat} (h : MB T r o m p es it) (hp : p1 ≤ T.1) : MB T r o ((mk_u2 m 996 28 (nI p1))) p1 es it := by
  obtain ⟨h1, h2, h3, h4, h5, h6, h7, h8, h9⟩ := h
  exact ⟨h1.up (by omega), u2_s, hp, (u2_b (by omega)).trans h4, (u2_b (by omega)).trans h5, (u2_b (by omega)).trans h6, (u2_b (by omega)).trans h7, (u2_b (by omega)).trans h8, h9.fr (fun k _ => by rw [u2_a (by omega), u2_a (by omega)]; exact ⟨rfl, rfl⟩)⟩
set_option maxRecDepth 4000 in
theorem DD.p {T : TT} {r : Nat} {m : Nat → Nat → Int32} {p1 f : Nat} (h : DD T r m f) (hp : p1 ≤ 405) : DD T r ((mk_u2 m 996 28 (nI p1))) f := by
  obtain ⟨h1, h2, h3, h4, h5, h6, h7⟩ := h
  exact ⟨h1.up (by omega), (u2_b (by omega)).trans h2, h3, h4, ⟨p1, hp, u2_s⟩, (u2_b (by omega)).trans h6, (u2_b (by omega)).trans h7⟩
set_option maxRecDepth 4000 in
/-- a fault comes -/
theorem MB.fails {T : TT} {r o : Nat} {m : Nat → Nat → Int32} {q : Nat → Nat → Int64} {p s c : Nat} {es : List (Nat × Nat)} {it : Nat} (h : MB T r o m p es it) (hs : s ≤ 400) (hc : c < 10) : F_X12_fails 996 (nI c) (nI s) (KS, m, q) = some ((), (KS, mk_u2 m 996 29 (nI (1 + 8 * s + c)), q)) ∧ DD T r (mk_u2 m 996 29 (nI (1 + 8 * s + c))) (1 + 8 * s + c) := by
  obtain ⟨h1, h2, h3, h4, h5, h6, h7, h8, h9⟩ := h
  have hl := h1.2.1
  have fl := flM (q := q) (c := c) (p := s) h4 (by omega) (by omega)
  rw [if_pos rfl] at fl
  exact ⟨fl, h1.up (by omega), u2_s, by omega, by omega, ⟨p, by omega, (u2_b (by omega)).trans h2⟩, (u2_b (by omega)).trans h5, (u2_b (by omega)).trans h8⟩
set_option maxRecDepth 4000 in
theorem DD.fails {T : TT} {r : Nat} {m : Nat → Nat → Int32} {q : Nat → Nat → Int64} {s c f : Nat} (h : DD T r m f) (hs : s < 10000) : F_X12_fails 996 (nI c) (nI s) (KS, m, q) = some ((), (KS, m, q)) := by
  obtain ⟨h1, h2, h3, h4, h5, h6, h7⟩ := h
  have fl := flM (q := q) (c := c) (p := s) h2 h4 hs
  rw [if_neg h3, u2_id h2] at fl
  exact fl
set_option maxRecDepth 4000 in
theorem MB.entry {T : TT} {r o : Nat} {m : Nat → Nat → Int32} {q : Nat → Nat → Int64} {p k v : Nat} {es : List (Nat × Nat)} {it : Nat} (h : MB T r o m p es it) (hr : r < 6) (hl : o + es.length < 300) : ∃ m1, F_X12_entry 996 (nI k) (nI v) (KS, m, q) = some ((), (KS, m1, q)) ∧ FrS r (o + es.length) m m1 ∧ MB T r o m1 p (es ++ [(k, v)]) it := by
  obtain ⟨h1, h2, h3, h4, h5, h6, h7, h8, h9⟩ := h
  refine ⟨mk_u2 (mk_u2 (mk_u2 m 1024 (300 * r + (o + es.length)) (nI k)) 1025 (300 * r + (o + es.length)) (nI v)) 996 32 (nI (o + es.length + 1)), ?_, ⟨fun j a1 a2 a3 => by rw [mk_u2_ne a1, mk_u2_ne a3, mk_u2_ne a2], fun j a1 a2 a3 a4 => by rw [u2_b a3, u2_a (by omega), u2_a (by omega)], fun j hj => ?_⟩, h1.eq (by rw [u2_b (by omega), u2_a (by omega), u2_a (by omega)]) (by rw [mk_u2_ne (by omega), mk_u2_ne (by omega), mk_u2_ne (by omega)]), by rw [u2_b (by omega), u2_a (by omega), u2_a (by omega)]; exact h2, h3, by rw [u2_b (by omega), u2_a (by omega), u2_a (by omega)]; exact h4, by rw [u2_b (by omega), u2_a (by omega), u2_a (by omega)]; exact h5, ?_, by rw [u2_b (by omega), u2_a (by omega), u2_a (by omega)]; exact h7, by rw [u2_b (by omega), u2_a (by omega), u2_a (by omega)]; exact h8, ?_⟩
  · unfold F_X12_entry
    simp (disch := omega) only [gdm, gam_1, gam_2, gam_3, gam_4, gam_5, gam_6, gam_7, gam_8, gam_9, gam_10, gam_11, gam_12, gam_13, gam_14, gam_15, gam_16, gam_17, gam_18, gam_19, gam_20, gam_21, gam_22, gam_23, gam_24, gam_25, gam_26, gam_37, gam_38, gam_39, gam_40, gam_41, gam_42, gam_43, gam_44, gam_45, gam_46, gam_48, gam_49, gam_56, gam_57, gam_58, gam_59, gam_60, gam_61, gim_27, gim_28, gim_29, gim_30, gim_31, gim_32, gim_33, gim_34, gim_35, gim_36, gim_47, gim_50, gim_51, gim_52, gim_53, gim_54, gim_55, gim_62, gim_63, ob_some, reduceIte, lit, le_T, le_F, lt_T, lt_F, eq_T, eq_F, nI_add, ldm_997, stm_997, ldm_998, stm_998, ldm_999, stm_999, ldm_1000, stm_1000, ldm_1001, stm_1001, ldm_1002, stm_1002, ldm_1003, stm_1003, ldm_1004, stm_1004, ldm_1005, stm_1005, ldm_1006, stm_1006, ldm_1007, stm_1007, ldm_1008, stm_1008, ldm_1009, stm_1009, ldm_1010, stm_1010, ldm_1011, stm_1011, ldm_1012, stm_1012, ldm_1013, stm_1013, ldm_1014, stm_1014, ldm_1015, stm_1015, ldm_1016, stm_1016, ldm_1017, stm_1017, ldm_1018, stm_1018, ldm_1019, stm_1019, ldm_1020, stm_1020, ldm_1021, stm_1021, ldm_1022, stm_1022, u2_s, u2_a, u2_b, not_true, not_false_iff, ldm_1023, stm_1023, ldm_1024, stm_1024, ldm_1025, stm_1025, ldm_1026, stm_1026, ldm_1027, stm_1027, ldm_1028, stm_1028, ldm_1029, stm_1029, ldm_1030, stm_1030, ldm_1031, stm_1031, ldm_1032, stm_1032, ldm_1033, stm_1033, ldm_1034, stm_1034, ldm_1035, stm_1035, ldm_1036, stm_1036, ldm_1037, stm_1037, ldm_1038, stm_1038, ldm_1039, stm_1039, ldm_1040, stm_1040, pim_27, pim_28, pim_29, pim_30, pim_31, pim_32, pim_33, pim_34, pim_35, pim_36, pim_47, pim_50, pim_51, pim_52, pim_53, pim_54, pim_55, pim_62, pim_63, h4, h5, h6, pk_mul]
  · rw [u2_a (by omega), u2_a (by omega), u2_b (by omega), u2_a (by omega), u2_b (by omega), u2_a (by omega)]
    exact ⟨rfl, rfl⟩
  · rw [u2_s]
    congr 1
    simp only [List.length_append, List.length_cons, List.length_nil]; omega
  · refine SegM.app (h9.fr (fun j hj => ?_)) ?_ (fun _ => ?_)
    · rw [u2_a (by omega), u2_a (by omega), u2_b (by omega), u2_a (by omega), u2_b (by omega), u2_a (by omega)]
      exact ⟨rfl, rfl⟩
    · rw [u2_a (by omega), u2_a (by omega), u2_s]
    · rw [u2_a (by omega), u2_s]
set_option maxRecDepth 4000 in
theorem DD.entry {T : TT} {r : Nat} {m : Nat → Nat → Int32} {q : Nat → Nat → Int64} {x y : Int32} {f : Nat} (h : DD T r m f) : F_X12_entry 996 x y (KS, m, q) = some ((), (KS, m, q)) := by
  obtain ⟨h1, h2, h3, h4, h5, h6, h7⟩ := h
  unfold F_X12_entry
  simp (disch := omega) only [gdm, gam_1, gam_2, gam_3, gam_4, gam_5, gam_6, gam_7, gam_8, gam_9, gam_10, gam_11, gam_12, gam_13, gam_14, gam_15, gam_16, gam_17, gam_18, gam_19, gam_20, gam_21, gam_22, gam_23, gam_24, gam_25, gam_26, gam_37, gam_38, gam_39, gam_40, gam_41, gam_42, gam_43, gam_44, gam_45, gam_46, gam_48, gam_49, gam_56, gam_57, gam_58, gam_59, gam_60, gam_61, gim_27, gim_28, gim_29, gim_30, gim_31, gim_32, gim_33, gim_34, gim_35, gim_36, gim_47, gim_50, gim_51, gim_52, gim_53, gim_54, gim_55, gim_62, gim_63, ob_some, reduceIte, lit, le_T, le_F, lt_T, lt_F, eq_T, eq_F, nI_add, ldm_997, stm_997, ldm_998, stm_998, ldm_999, stm_999, ldm_1000, stm_1000, ldm_1001, stm_1001, ldm_1002, stm_1002, ldm_1003, stm_1003, ldm_1004, stm_1004, ldm_1005, stm_1005, ldm_1006, stm_1006, ldm_1007, stm_1007, ldm_1008, stm_1008, ldm_1009, stm_1009, ldm_1010, stm_1010, ldm_1011, stm_1011, ldm_1012, stm_1012, ldm_1013, stm_1013, ldm_1014, stm_1014, ldm_1015, stm_1015, ldm_1016, stm_1016, ldm_1017, stm_1017, ldm_1018, stm_1018, ldm_1019, stm_1019, ldm_1020, stm_1020, ldm_1021, stm_1021, ldm_1022, stm_1022, u2_s, u2_a, u2_b, not_true, not_false_iff, h2]
set_option maxRecDepth 4000 in
theorem MB.count {T : TT} {r o : Nat} {m : Nat → Nat → Int32} {q : Nat → Nat → Int64} {p s : Nat} {es : List (Nat × Nat)} {it : Nat} (h : MB T r o m p es it) (hs : s ≤ 400) (hit : it ≤ 60) : ∃ m1, F_X12_isCounted 996 (nI s) (KS, m, q) = some ((), (KS, m1, q)) ∧ (∀ o, FrS r o m m1) ∧ ((it < 60 ∧ MB T r o m1 p es (it + 1)) ∨ (it = 60 ∧ DD T r m1 (1 + 8 * s + 3) ∧ m1 996 28 = nI p)) := by
  have h0 := h
  obtain ⟨h1, h2, h3, h4, h5, h6, h7, h8, h9⟩ := h
  by_cases c : it < 60
  · refine ⟨mk_u2 m 996 34 (nI (it + 1)), ?_, fun o => FrS.rf.up (by omega), .inl ⟨c, h1.up (by omega), (u2_b (by omega)).trans h2, h3, (u2_b (by omega)).trans h4, (u2_b (by omega)).trans h5, (u2_b (by omega)).trans h6, u2_s, (u2_b (by omega)).trans h8, h9.fr (fun k _ => by rw [u2_a (by omega), u2_a (by omega)]; exact ⟨rfl, rfl⟩)⟩⟩
    unfold F_X12_isCounted B_X12_isCounted_15
    simp (disch := omega) only [gdm, gam_1, gam_2, gam_3, gam_4, gam_5, gam_6, gam_7, gam_8, gam_9, gam_10, gam_11, gam_12, gam_13, gam_14, gam_15, gam_16, gam_17, gam_18, gam_19, gam_20, gam_21, gam_22, gam_23, gam_24, gam_25, gam_26, gam_37, gam_38, gam_39, gam_40, gam_41, gam_42, gam_43, gam_44, gam_45, gam_46, gam_48, gam_49, gam_56, gam_57, gam_58, gam_59, gam_60, gam_61, gim_27, gim_28, gim_29, gim_30, gim_31, gim_32, gim_33, gim_34, gim_35, gim_36, gim_47, gim_50, gim_51, gim_52, gim_53, gim_54, gim_55, gim_62, gim_63, ob_some, reduceIte, lit, le_T, le_F, lt_T, lt_F, eq_T, eq_F, nI_add, ldm_997, stm_997, ldm_998, stm_998, ldm_999, stm_999, ldm_1000, stm_1000, ldm_1001, stm_1001, ldm_1002, stm_1002, ldm_1003, stm_1003, ldm_1004, stm_1004, ldm_1005, stm_1005, ldm_1006, stm_1006, ldm_1007, stm_1007, ldm_1008, stm_1008, ldm_1009, stm_1009, ldm_1010, stm_1010, ldm_1011, stm_1011, ldm_1012, stm_1012, ldm_1013, stm_1013, ldm_1014, stm_1014, ldm_1015, stm_1015, ldm_1016, stm_1016, ldm_1017, stm_1017, ldm_1018, stm_1018, ldm_1019, stm_1019, ldm_1020, stm_1020, ldm_1021, stm_1021, ldm_1022, stm_1022, u2_s, u2_a, u2_b, not_true, not_false_iff, pim_27, pim_28, pim_29, pim_30, pim_31, pim_32, pim_33, pim_34, pim_35, pim_36, pim_47, pim_50, pim_51, pim_52, pim_53, pim_54, pim_55, pim_62, pim_63, h7]
  · have hc : it = 60 := by omega
    subst hc
    obtain ⟨f1, f2⟩ := h0.fails (q := q) (c := 3) hs (by omega)
    obtain ⟨d1, d2, d3, d4, d5, d6, d7⟩ := f2
    have h7' : mk_u2 m 996 29 (nI (1 + 8 * s + 3)) 996 34 = nI 60 := by rw [u2_b (by omega)]; exact h7
    refine ⟨mk_u2 (mk_u2 m 996 29 (nI (1 + 8 * s + 3))) 996 34 (nI (60 + 1)), ?_, fun o => (FrS.rf.up (by omega)).up (by omega), .inr ⟨rfl, ⟨d1.up (by omega), (u2_b (by omega)).trans d2, d3, d4, ⟨p, by have := h1.2.1; omega, by rw [u2_b (by omega), u2_b (by omega)]; exact h2⟩, (u2_b (by omega)).trans d6, (u2_b (by omega)).trans d7⟩, by rw [u2_b (by omega), u2_b (by omega)]; exact h2⟩⟩
    unfold F_X12_isCounted B_X12_isCounted_15
    simp (disch := omega) only [gdm, gam_1, gam_2, gam_3, gam_4, gam_5, gam_6, gam_7, gam_8, gam_9, gam_10, gam_11, gam_12, gam_13, gam_14, gam_15, gam_16, gam_17, gam_18, gam_19, gam_20, gam_21, gam_22, gam_23, gam_24, gam_25, gam_26, gam_37, gam_38, gam_39, gam_40, gam_41, gam_42, gam_43, gam_44, gam_45, gam_46, gam_48, gam_49, gam_56, gam_57, gam_58, gam_59, gam_60, gam_61, gim_27, gim_28, gim_29, gim_30, gim_31, gim_32, gim_33, gim_34, gim_35, gim_36, gim_47, gim_50, gim_51, gim_52, gim_53, gim_54, gim_55, gim_62, gim_63, ob_some, reduceIte, lit, le_T, le_F, lt_T, lt_F, eq_T, eq_F, nI_add, ldm_997, stm_997, ldm_998, stm_998, ldm_999, stm_999, ldm_1000, stm_1000, ldm_1001, stm_1001, ldm_1002, stm_1002, ldm_1003, stm_1003, ldm_1004, stm_1004, ldm_1005, stm_1005, ldm_1006, stm_1006, ldm_1007, stm_1007, ldm_1008, stm_1008, ldm_1009, stm_1009, ldm_1010, stm_1010, ldm_1011, stm_1011, ldm_1012, stm_1012, ldm_1013, stm_1013, ldm_1014, stm_1014, ldm_1015, stm_1015, ldm_1016, stm_1016, ldm_1017, stm_1017, ldm_1018, stm_1018, ldm_1019, stm_1019, ldm_1020, stm_1020, ldm_1021, stm_1021, ldm_1022, stm_1022, u2_s, u2_a, u2_b, not_true, not_false_iff, pim_27, pim_28, pim_29, pim_30, pim_31, pim_32, pim_33, pim_34, pim_35, pim_36, pim_47, pim_50, pim_51, pim_52, pim_53, pim_54, pim_55, pim_62, pim_63, h7, f1]
set_option maxRecDepth 4000 in
theorem DD.count {T : TT} {r : Nat} {m : Nat → Nat → Int32} {q : Nat → Nat → Int64} {s f : Nat} (h : DD T r m f) (hs : s < 10000) : F_X12_isCounted 996 (nI s) (KS, m, q) = some ((), (KS, mk_u2 m 996 34 (m 996 34 + nI 1), q)) ∧ DD T r (mk_u2 m 996 34 (m 996 34 + nI 1)) f := by
  have fl := h.fails (q := q) (c := 3) hs
  obtain ⟨h1, h2, h3, h4, ⟨p, h5, h55⟩, h6, h7⟩ := h
  refine ⟨?_, h1.up (by omega), (u2_b (by omega)).trans h2, h3, h4, ⟨p, h5, (u2_b (by omega)).trans h55⟩, (u2_b (by omega)).trans h6, (u2_b (by omega)).trans h7⟩
  unfold F_X12_isCounted B_X12_isCounted_15
  by_cases c : m 996 34 = nI 60
  · simp (disch := omega) only [gdm, gim_34, ob_some, lit, c, if_true, fl, pim_27, pim_28, pim_29, pim_30, pim_31, pim_32, pim_33, pim_34, pim_35, pim_36, pim_47, pim_50, pim_51, pim_52, pim_53, pim_54, pim_55, pim_62, pim_63]
  · simp (disch := omega) only [gdm, gim_34, ob_some, lit, c, if_false, pim_27, pim_28, pim_29, pim_30, pim_31, pim_32, pim_33, pim_34, pim_35, pim_36, pim_47, pim_50, pim_51, pim_52, pim_53, pim_54, pim_55, pim_62, pim_63]
/-! which word it is -/
set_option maxRecDepth 4000 in
theorem vwL {T : TT} {m : Nat → Nat → Int32} {q : Nat → Nat → Int64} {s : Nat} {x : Int32} (hT : TM T m) (h2 : m 996 28 = nI s) (hs : s < 10000) (h36 : m 996 36 = nI 12) : ∀ (n k f : Nat), k + n = 12 → n < f → (∀ j, j < k → wix T s ≠ j) → B_X12_value_37 f 996 x (nI k) (KS, m, q) = B_X12_value_62 996 x (nI (if wix T s < 12 then wix T s else 12)) (KS, m, q) := by
  intro n
  induction n with
  | zero =>
    intro k f hk hf hj
    obtain ⟨f, rfl⟩ : ∃ g, f = g + 1 := ⟨f - 1, by omega⟩
    have hk : k = 12 := by omega
    subst hk
    have hw : ¬ wix T s < 12 := fun h => hj _ h rfl
    rw [if_neg hw, B_X12_value_37]
    simp (disch := omega) only [gim_36, ob_some, h36, le_T, reduceIte]
  | succ n ih =>
    intro k f hk hf hj
    obtain ⟨f, rfl⟩ : ∃ g, f = g + 1 := ⟨f - 1, by omega⟩
    have st := stMw (q := q) (k := 21 + k) (j := k) (by omega) (by omega) (by omega) (wd_word k (by omega)) hT h2 hs
    by_cases c : wix T s = k
    · rw [decide_eq_true c, bI_T] at st
      rw [if_pos (by omega), c, B_X12_value_37]
      simp (disch := omega) only [gim_36, ob_some, h36, le_F, reduceIte, wordOfM, st, lit, eq_F]
    · rw [decide_eq_false c, bI_F] at st
      rw [← ih (k + 1) f (by omega) (by omega) (fun j h => by
        rcases Nat.lt_or_ge j k with g | g
        · exact hj j g
        · have : j = k := by omega
          subst this; exact c), B_X12_value_37]
      simp (disch := omega) only [gim_36, ob_some, h36, le_F, reduceIte, wordOfM, st, lit, eq_T, nI_add]
set_option maxRecDepth 4000 in
theorem vwM {T : TT} {m : Nat → Nat → Int32} {q : Nat → Nat → Int64} {s : Nat} {x : Int32} (hT : TM T m) (h2 : m 996 28 = nI s) (hs : s < 10000) (h36 : m 996 36 = nI 12) : B_X12_value_37 mk_fu 996 x (nI 0) (KS, m, q) = B_X12_value_62 996 x (nI (if wix T s < 12 then wix T s else 12)) (KS, m, q) := vwL hT h2 hs h36 12 0 mk_fu (by omega) (by rw [mk_fu_eq]; omega) (fun j h => by omega)
set_option maxRecDepth 4000 in
theorem vaM {T : TT} {r o : Nat} {m : Nat → Nat → Int32} {q : Nat → Nat → Int64} {p s pt it : Nat} {st : List Nat} {cl : RT} {c1 cd : List (Nat × Nat)} (hr : r < 6) (h : MB T r o m p cd it) (hsp : sp isB T p = s) (hit : it ≤ 60) (hlen : o + cd.length < 300) : ∃ m1, F_X12_value 996 (KS, m, q) = some ((), (KS, m1, q)) ∧ FrS r (o + cd.length) m m1 ∧ ((∃ f, sV T s pt st it cl c1 cd = ft f ∧ DD T r m1 f) ∨ (sV T s pt st it cl c1 cd = (0, end1 T s, 3, pt, st, it + 1, cl, c1, cd ++ [vE T s]) ∧ MB T r o m1 (end1 T s) (cd ++ [vE T s]) (it + 1) ∧ (∀ tl, tstp (vE T s) tl = some (false :: tl)) ∧ (vE T s).1 ≤ 1)) := by
  have hT := h.1
  have hl := hT.2.1
  have hp := h.2.2.1
  have hbl := blkM (q := q) hT h.2.1 (by omega)
  rw [hsp] at hbl
  have hsl : s ≤ T.1 := by rw [← hsp]; exact sp_le hB hp
  have hb := hT.b s
  have hel := (end1_le hsl).2.1
  have hs := h.p (p1 := s) hsl
  have f0 : ∀ o, FrS r o m ((mk_u2 m 996 28 (nI s))) := fun o => FrS.rf.up (by omega)
  have hid := idM (q := q) hs.1 hs.2.1 (by omega)
  unfold sV
  by_cases c256 : sgn1 T s = 256
  · have cD := (sg_256 hb).mp c256
    have he := sg_num c256 hb
    have hdg := dgM (q := q) hs.1 hs.2.1 cD
    rw [cD, bI_T] at hid
    rw [if_pos (.inl c256)]
    rw [← he] at hdg
    by_cases c5 : 5 < end1 T s - s
    · rw [if_pos ⟨c256, c5⟩]
      rw [if_neg (by omega), u2_u2] at hdg
      obtain ⟨f1, f2⟩ := (h.p (p1 := end1 T s) hel).fails (q := q) (s := s) (c := 1) (by omega) (by omega)
      rw [f1, ob_some] at hdg
      obtain ⟨g1, g2⟩ := f2.count (q := q) (s := s) (by omega)
      have g3 := g2.entry (q := q) (x := nI 0) (y := nI (nval T s 5))
      refine ⟨_, ?_, ((FrS.rf.up (by omega)).up (by omega)).up (by omega), .inl ⟨_, rfl, g2⟩⟩
      unfold F_X12_value
      simp (disch := omega) only [gdm, hbl, ob_some, gim_28, hs.2.1, hid, lit, eq_F, reduceIte, hdg, g1, g3]
    · rw [if_neg (fun h => c5 h.2)]
      rw [if_pos (by omega), u2_u2] at hdg
      have hv : vE T s = (0, nval T s (end1 T s - s)) := by unfold vE; rw [if_pos c256]
      obtain ⟨mc, k1, k2, k3⟩ := (h.p (p1 := end1 T s) hel).count (q := q) (s := s) (by omega) hit
      rcases k3 with ⟨c6, k3⟩ | ⟨c6, k3, -⟩
      · rw [if_pos c6]
        obtain ⟨m1, e1, e2, e3⟩ := k3.entry (q := q) (k := 0) (v := nval T s (end1 T s - s)) hr hlen
        refine ⟨m1, ?_, ((FrS.rf.up (by omega)).trans (k2 _) (Nat.le_refl _)).trans e2 (Nat.le_refl _), .inr ⟨rfl, by rw [hv]; exact e3, fun tl => ?_, by rw [hv]; exact Nat.zero_le _⟩⟩
        · unfold F_X12_value
          simp (disch := omega) only [gdm, hbl, ob_some, gim_28, hs.2.1, hid, lit, eq_F, reduceIte, hdg, k1, e1]
        · rw [hv]
          have hc : nval T s (end1 T s - s) < 100000 := by rw [he] at c5 ⊢; exact nval_cap (by omega) hsl
          show (if nval T s (end1 T s - s) < 100000 then _ else _) = _
          rw [if_pos hc]
      · rw [if_neg (by omega)]
        have g3 := k3.entry (q := q) (x := nI 0) (y := nI (nval T s (end1 T s - s)))
        refine ⟨mc, ?_, (FrS.rf.up (by omega)).trans (k2 _) (Nat.le_refl _), .inl ⟨_, rfl, k3⟩⟩
        unfold F_X12_value
        simp (disch := omega) only [gdm, hbl, ob_some, gim_28, hs.2.1, hid, lit, eq_F, reduceIte, hdg, k1, g3]
  · have cD : isD (bt T s) = false := by
      cases c : isD (bt T s) with
      | false => rfl
      | true => exact absurd ((sg_256 hb).mpr c) c256
    rw [cD, bI_F] at hid
    have hw := vwM (q := q) (x := nI s) hs.1 hs.2.1 (by omega) hs.2.2.2.2.2.2.2.1
    have st : ∀ z, B_X12_value_62 996 (nI s) (nI (if wix T s < 12 then wix T s else 12)) (KS, (mk_u2 m 996 28 (nI s)), q) = z → F_X12_value 996 (KS, m, q) = z := fun z hz => by
      unfold F_X12_value
      simp (disch := omega) only [gdm, hbl, ob_some, gim_28, hs.2.1, hid, lit, eq_T, reduceIte]
      exact hw.trans hz
    have h36 : (mk_u2 m 996 28 (nI s)) 996 36 = nI 12 := hs.2.2.2.2.2.2.2.1
    by_cases cw : wix T s < 12
    · have hg : sgn1 T s = 300 + wix T s := (sg_w hb (by omega)).mpr rfl
      rw [if_pos (by omega), if_neg (by omega)]
      rw [if_pos cw] at st
      have hv : vE T s = (1, wix T s) := by unfold vE; rw [if_neg c256, hg, Nat.add_sub_cancel_left]
      have he := end_w (T := T) (s := s) (by omega)
      have hwl : mk_sln (1000000 + (21 + wix T s)) = fun t => some (nI (wd (wix T s)).length, t) := by
        funext t
        rw [wsln (by omega), wd_word _ cw]
      obtain ⟨mc, k1, k2, k3⟩ := hs.count (q := q) (s := s) (by omega) hit
      rcases k3 with ⟨c6, k3⟩ | ⟨c6, k3, k4⟩
      · rw [if_pos c6]
        have k5 := k3.p (p1 := end1 T s) hel
        obtain ⟨m1, e1, e2, e3⟩ := k5.entry (q := q) (k := 1) (v := wix T s) hr hlen
        have k28 := k3.2.1
        rw [he] at e1
        refine ⟨m1, st _ ?_, (((f0 _).trans (k2 _) (Nat.le_refl _)).up (by omega)).trans e2 (Nat.le_refl _), .inr ⟨rfl, by rw [hv]; exact e3, fun tl => ?_, by rw [hv]; exact Nat.le_refl _⟩⟩
        · unfold B_X12_value_62
          simp (disch := omega) only [gim_36, ob_some, h36, eq_F, reduceIte, k1, gim_28, k28, wordOfM, hwl, nI_add, pim_28, lit, e1]
        · rw [hv]
          show (if wix T s < 12 then _ else _) = _
          rw [if_pos cw]
      · rw [if_neg (by omega)]
        have k5 := k3.p (p1 := end1 T s) (by omega)
        have g3 := k5.entry (q := q) (x := nI 1) (y := nI (wix T s))
        rw [he] at g3
        refine ⟨(mk_u2 mc 996 28 (nI (end1 T s))), st _ ?_, ((f0 _).trans (k2 _) (Nat.le_refl _)).up (by omega), .inl ⟨_, rfl, k5⟩⟩
        unfold B_X12_value_62
        rw [he]
        simp (disch := omega) only [gim_36, ob_some, h36, eq_F, reduceIte, k1, gim_28, k4, wordOfM, hwl, nI_add, pim_28, lit, g3]
    · have hg : ¬ (300 ≤ sgn1 T s ∧ sgn1 T s < 312) := fun hh => by
        have := (sg_w (T := T) (s := s) (k := sgn1 T s - 300) hb (by omega)).mp (by omega)
        omega
      rw [if_neg (by omega)]
      rw [if_neg cw] at st
      obtain ⟨f1, f2⟩ := hs.fails (q := q) (s := s) (c := 0) (by omega) (by omega)
      refine ⟨_, st _ ?_, (f0 _).up (by omega), .inl ⟨_, rfl, f2⟩⟩
      unfold B_X12_value_62
      simp (disch := omega) only [gim_36, ob_some, h36, eq_T, reduceIte, lit, f1]
