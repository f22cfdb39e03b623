/-! an hour, on both sides, by the rule that is in force -/
set_option maxRecDepth 4000 in
theorem malls {m : Nat → Nat → Int32} {q : Nat → Nat → Int64} {P A : Nat → Nat → Nat} (hM : m 997 3 = nI (P 0 3)) (hM4 : P 0 3 ≤ 4) (h6 : ∀ k, k < P 0 3 → m 1003 k = nI (A 6 k)) : F_X12_allGround 996 (KS, m, q) = some (nI (nsum (A 6) (P 0 3)), (KS, m, q)) := by
  obtain ⟨f1, s, e, hs⟩ := loop_up (fun f i (s : Int32) => B_X12_allGround_4 f 996 s (nI i) (KS, m, q)) (P 0 3) (fun i s => s = nI (nsum (A 6) i)) (by
    rintro f i s hi rfl
    refine ⟨nI (nsum (A 6) (i + 1)), ?_, rfl⟩
    simp only [B_X12_allGround_4]
    simp (disch := omega) only [gdm, gam_1, gam_2, gam_3, gam_4, gam_5, gam_6, gam_7, gam_8, gam_9, gam_10, gam_11, gam_12, gam_13, gam_14, gam_15, gam_16, gam_17, gam_18, gam_19, gam_20, gam_21, gam_22, gam_23, gam_24, gam_25, gam_26, gam_37, gam_38, gam_39, gam_40, gam_41, gam_42, gam_43, gam_44, gam_45, gam_46, gam_48, gam_49, gam_56, gam_57, gam_58, gam_59, gam_60, gam_61, gim_27, gim_28, gim_29, gim_30, gim_31, gim_32, gim_33, gim_34, gim_35, gim_36, gim_47, gim_50, gim_51, gim_52, gim_53, gim_54, gim_55, gim_62, gim_63, ob_some, reduceIte, lit, le_T, le_F, lt_T, lt_F, eq_T, eq_F, nI_add, ldm_997, stm_997, ldm_998, stm_998, ldm_999, stm_999, ldm_1000, stm_1000, ldm_1001, stm_1001, ldm_1002, stm_1002, ldm_1003, stm_1003, ldm_1004, stm_1004, ldm_1005, stm_1005, ldm_1006, stm_1006, ldm_1007, stm_1007, ldm_1008, stm_1008, ldm_1009, stm_1009, ldm_1010, stm_1010, ldm_1011, stm_1011, ldm_1012, stm_1012, ldm_1013, stm_1013, ldm_1014, stm_1014, ldm_1015, stm_1015, ldm_1016, stm_1016, ldm_1017, stm_1017, ldm_1018, stm_1018, ldm_1019, stm_1019, ldm_1020, stm_1020, ldm_1021, stm_1021, ldm_1022, stm_1022, u2_s, u2_a, u2_b, not_true, not_false_iff, hM, h6, nsum]) (P 0 3) 0 mk_fu (nI 0) (by omega) (by rw [mk_fu_eq]; omega) rfl
  subst hs
  unfold F_X12_allGround
  rw [gdm]
  refine Eq.trans e ?_
  simp only [B_X12_allGround_4]
  simp (disch := omega) only [gdm, gam_1, gam_2, gam_3, gam_4, gam_5, gam_6, gam_7, gam_8, gam_9, gam_10, gam_11, gam_12, gam_13, gam_14, gam_15, gam_16, gam_17, gam_18, gam_19, gam_20, gam_21, gam_22, gam_23, gam_24, gam_25, gam_26, gam_37, gam_38, gam_39, gam_40, gam_41, gam_42, gam_43, gam_44, gam_45, gam_46, gam_48, gam_49, gam_56, gam_57, gam_58, gam_59, gam_60, gam_61, gim_27, gim_28, gim_29, gim_30, gim_31, gim_32, gim_33, gim_34, gim_35, gim_36, gim_47, gim_50, gim_51, gim_52, gim_53, gim_54, gim_55, gim_62, gim_63, ob_some, reduceIte, lit, le_T, le_F, lt_T, lt_F, eq_T, eq_F, nI_add, ldm_997, stm_997, ldm_998, stm_998, ldm_999, stm_999, ldm_1000, stm_1000, ldm_1001, stm_1001, ldm_1002, stm_1002, ldm_1003, stm_1003, ldm_1004, stm_1004, ldm_1005, stm_1005, ldm_1006, stm_1006, ldm_1007, stm_1007, ldm_1008, stm_1008, ldm_1009, stm_1009, ldm_1010, stm_1010, ldm_1011, stm_1011, ldm_1012, stm_1012, ldm_1013, stm_1013, ldm_1014, stm_1014, ldm_1015, stm_1015, ldm_1016, stm_1016, ldm_1017, stm_1017, ldm_1018, stm_1018, ldm_1019, stm_1019, ldm_1020, stm_1020, ldm_1021, stm_1021, ldm_1022, stm_1022, u2_s, u2_a, u2_b, not_true, not_false_iff, hM]
set_option maxRecDepth 4000 in
theorem sub_sub_n {h L : Nat} : nI h - (nI h - nI L) = nI L := by
  have e : ∀ a b : Int32, a - (a - b) = b := fun a b => by grind
  exact e _ _
set_option maxRecDepth 4000 in
theorem since_ok {m : Nat → Nat → Int32} {q : Nat → Nat → Int64} {h L p : Nat} (hp : p < 6) (h5 : m 997 5 = nI h) (hL : m 1002 p = nI h - nI L) (hL2 : L < 1000000) : F_X12_sinceOf 996 (nI p) (KS, m, q) = some (nI (min 99 L), (KS, m, q)) := by
  unfold F_X12_sinceOf
  by_cases e : L ≤ 99
  · simp (disch := omega) only [gdm, gam_1, gam_2, gam_3, gam_4, gam_5, gam_6, gam_7, gam_8, gam_9, gam_10, gam_11, gam_12, gam_13, gam_14, gam_15, gam_16, gam_17, gam_18, gam_19, gam_20, gam_21, gam_22, gam_23, gam_24, gam_25, gam_26, gam_37, gam_38, gam_39, gam_40, gam_41, gam_42, gam_43, gam_44, gam_45, gam_46, gam_48, gam_49, gam_56, gam_57, gam_58, gam_59, gam_60, gam_61, gim_27, gim_28, gim_29, gim_30, gim_31, gim_32, gim_33, gim_34, gim_35, gim_36, gim_47, gim_50, gim_51, gim_52, gim_53, gim_54, gim_55, gim_62, gim_63, ob_some, reduceIte, lit, le_T, le_F, lt_T, lt_F, eq_T, eq_F, nI_add, ldm_997, stm_997, ldm_998, stm_998, ldm_999, stm_999, ldm_1000, stm_1000, ldm_1001, stm_1001, ldm_1002, stm_1002, ldm_1003, stm_1003, ldm_1004, stm_1004, ldm_1005, stm_1005, ldm_1006, stm_1006, ldm_1007, stm_1007, ldm_1008, stm_1008, ldm_1009, stm_1009, ldm_1010, stm_1010, ldm_1011, stm_1011, ldm_1012, stm_1012, ldm_1013, stm_1013, ldm_1014, stm_1014, ldm_1015, stm_1015, ldm_1016, stm_1016, ldm_1017, stm_1017, ldm_1018, stm_1018, ldm_1019, stm_1019, ldm_1020, stm_1020, ldm_1021, stm_1021, ldm_1022, stm_1022, u2_s, u2_a, u2_b, not_true, not_false_iff, h5, hL, sub_sub_n]
    rw [Nat.min_eq_right e]
  · simp (disch := omega) only [gdm, gam_1, gam_2, gam_3, gam_4, gam_5, gam_6, gam_7, gam_8, gam_9, gam_10, gam_11, gam_12, gam_13, gam_14, gam_15, gam_16, gam_17, gam_18, gam_19, gam_20, gam_21, gam_22, gam_23, gam_24, gam_25, gam_26, gam_37, gam_38, gam_39, gam_40, gam_41, gam_42, gam_43, gam_44, gam_45, gam_46, gam_48, gam_49, gam_56, gam_57, gam_58, gam_59, gam_60, gam_61, gim_27, gim_28, gim_29, gim_30, gim_31, gim_32, gim_33, gim_34, gim_35, gim_36, gim_47, gim_50, gim_51, gim_52, gim_53, gim_54, gim_55, gim_62, gim_63, ob_some, reduceIte, lit, le_T, le_F, lt_T, lt_F, eq_T, eq_F, nI_add, ldm_997, stm_997, ldm_998, stm_998, ldm_999, stm_999, ldm_1000, stm_1000, ldm_1001, stm_1001, ldm_1002, stm_1002, ldm_1003, stm_1003, ldm_1004, stm_1004, ldm_1005, stm_1005, ldm_1006, stm_1006, ldm_1007, stm_1007, ldm_1008, stm_1008, ldm_1009, stm_1009, ldm_1010, stm_1010, ldm_1011, stm_1011, ldm_1012, stm_1012, ldm_1013, stm_1013, ldm_1014, stm_1014, ldm_1015, stm_1015, ldm_1016, stm_1016, ldm_1017, stm_1017, ldm_1018, stm_1018, ldm_1019, stm_1019, ldm_1020, stm_1020, ldm_1021, stm_1021, ldm_1022, stm_1022, u2_s, u2_a, u2_b, not_true, not_false_iff, h5, hL, sub_sub_n]
    rw [Nat.min_eq_left (by omega)]
/-- the rule in force, in the reference -/
def ForM (m : Nat → Nat → Int32) (ρ : Option RT) : Prop := match ρ with
  | none => m 997 9 = -nI 1
  | some ρ => ∃ r, r < 6 ∧ m 997 9 = nI r ∧ RuleM m r ρ
def ForC (m : Nat → Nat → Int32) (R : Option Nat) (ρ : Option RT) : Prop := match R, ρ with
  | none, none => True
  | some r, some ρ => r ∈ RB ∧ RuleC m r ρ
  | _, _ => False
set_option maxRecDepth 4000 in
theorem SegM.congr {m m1 : Nat → Nat → Int32} {r : Nat} (e : ∀ i, 1024 ≤ i → i < 1030 → m1 i = m i) : ∀ {cs : List (Nat × Nat)} {o : Nat}, SegM m r o cs → SegM m1 r o cs
  | [], _, _ => trivial
  | _ :: _, _, h => ⟨by rw [e _ (by omega) (by omega)]; exact h.1, by rw [e _ (by omega) (by omega)]; exact h.2.1, SegM.congr e h.2.2⟩
set_option maxRecDepth 4000 in
theorem ClM.congr {m m1 : Nat → Nat → Int32} {r : Nat} (e : ∀ i, 1024 ≤ i → i < 1030 → m1 i = m i) : ∀ {cl : RT} {i : Nat}, ClM m r i cl → ClM m1 r i cl
  | [], _, _ => trivial
  | c :: cl, i, ⟨⟨s, s1, s2, s3, s4, s5, s6⟩, w, h⟩ => ⟨⟨s, by rw [e _ (by omega) (by omega)]; exact s1, by rw [e _ (by omega) (by omega)]; exact s2, by rw [e _ (by omega) (by omega)]; exact s3, s4, s5.congr e, s6.congr e⟩, w, h.congr e⟩
set_option maxRecDepth 4000 in
theorem RuleM.congr {m m1 : Nat → Nat → Int32} {r : Nat} {ρ : RT} (h : RuleM m r ρ) (e : ∀ i, 1024 ≤ i → i < 1030 → m1 i = m i) : RuleM m1 r ρ := ⟨h.1, by rw [e _ (by omega) (by omega)]; exact h.2.1, h.2.2.congr e⟩
set_option maxRecDepth 4000 in
theorem SegC.congr {m m1 : Nat → Nat → Int32} {b : Nat} (e : ∀ i, b ≤ i → i < b + 6 → m1 i = m i) : ∀ {cs : List (Nat × Nat)} {o : Nat}, SegC m b o cs → SegC m1 b o cs
  | [], _, _ => trivial
  | _ :: _, _, h => ⟨by rw [e _ (by omega) (by omega)]; exact h.1, by rw [e _ (by omega) (by omega)]; exact h.2.1, SegC.congr e h.2.2⟩
set_option maxRecDepth 4000 in
theorem ClC.congr {m m1 : Nat → Nat → Int32} {b : Nat} (e : ∀ i, b ≤ i → i < b + 6 → m1 i = m i) : ∀ {cl : RT} {i : Nat}, ClC m b i cl → ClC m1 b i cl
  | [], _, _ => trivial
  | c :: cl, i, ⟨⟨s, s1, s2, s3, s4, s5, s6⟩, w, h⟩ => ⟨⟨s, by rw [e _ (by omega) (by omega)]; exact s1, by rw [e _ (by omega) (by omega)]; exact s2, by rw [e _ (by omega) (by omega)]; exact s3, s4, s5.congr e, s6.congr e⟩, w, h.congr e⟩
set_option maxRecDepth 4000 in
theorem RuleC.congr {m m1 : Nat → Nat → Int32} {b : Nat} {ρ : RT} (h : RuleC m b ρ) (e : ∀ i, b ≤ i → i < b + 6 → m1 i = m i) : RuleC m1 b ρ := ⟨h.1, by rw [e _ (by omega) (by omega)]; exact h.2.1, h.2.2.congr e⟩
set_option maxRecDepth 4000 in
theorem ForM.congr {m m1 : Nat → Nat → Int32} {ρ : Option RT} (h : ForM m ρ) (e9 : m1 997 9 = m 997 9) (e : ∀ i, 1024 ≤ i → i < 1030 → m1 i = m i) : ForM m1 ρ := by
  cases ρ with
  | none => exact e9.trans h
  | some ρ =>
    obtain ⟨r, h1, h2, h3⟩ := h
    exact ⟨r, h1, e9.trans h2, h3.congr e⟩
set_option maxRecDepth 4000 in
theorem ForC.congr {m m1 : Nat → Nat → Int32} {R : Option Nat} {ρ : Option RT} (h : ForC m R ρ) (e : ∀ i, 220 ≤ i → i < 262 → m1 i = m i) : ForC m1 R ρ := by
  match R, ρ, h with
  | none, none, _ => trivial
  | some r, some ρ, h =>
    have := rb_lt h.1
    exact ⟨h.1, h.2.congr (fun i h1 h2 => e i (by omega) (by omega))⟩
set_option maxRecDepth 4000 in
theorem sb_rb {a : Nat} (h : a ∈ SB) : a + 8 ≤ 220 ∨ 262 ≤ a := by
  have e : SB.all (fun a => decide (a + 8 ≤ 220 ∨ 262 ≤ a)) = true := by decide +kernel
  simpa using List.all_eq_true.mp e a h
def givesG (P A : Nat → Nat → Nat) (ρ : Option RT) (kept : Int32) : Nat → Bool := keptG (gsay P (aU A) ρ) kept
/-- an hour, in plain numbers -/
def hourA (P : Nat → Nat → Nat) (ρ : Option RT) (kept : Int32) (A : Nat → Nat → Nat) : Nat → Nat → Nat := aP P A (givesG P A ρ kept)
set_option maxRecDepth 4000 in
theorem SR.urged {P A : Nat → Nat → Nat} {m m1 : Nat → Nat → Int32} {b : Nat} (h : SR P (blk m b) A) (e : ∀ j, j ≠ b + 3 → m1 j = m j) (e3 : ∀ p, p < P 0 2 → m1 (b + 3) p = nI (min 99 (A 3 p + 1))) : SR P (blk m1 b) (aU A) := by
  obtain ⟨h1, h2, h3, h4, h5, h6, h7, h8⟩ := h
  have f : ∀ j, j ≠ 3 → blk m1 b j = blk m b j := fun j hj => by unfold blk; rw [e _ (by omega)]
  refine ⟨fun p hp => ?_, fun k hk => ?_, fun c hc => ?_, ?_, ?_, fun p x y => ?_, fun p x y => ?_, fun p x y => ?_⟩
  · obtain ⟨k1, k2, k3, k4, k5⟩ := h1 p hp
    rw [f 1 (by omega), f 2 (by omega), f 4 (by omega), f 5 (by omega)]
    exact ⟨k1, k2, ⟨e3 p hp, by simp only [aU, if_true]; omega⟩, k4, k5⟩
  · rw [f 6 (by omega)]; exact h2 k hk
  · rw [f 7 (by omega)]; exact h3 c hc
  · rw [f 0 (by omega)]; exact h4
  · rw [f 0 (by omega)]; exact h5
  · rw [f 4 (by omega)]; exact h6 p x y
  · rw [f 6 (by omega)]; exact h7 p x y
  · rw [f 7 (by omega)]; exact h8 p x y
set_option maxRecDepth 4000 in
theorem pass_full {m : Nat → Nat → Int32} {q : Nat → Nat → Int64} {P A : Nat → Nat → Nat} {R : Option Nat} {ρ : Option RT} {kept : Int32} {a b : Nat} (ha : a ∈ PB) (hb : b ∈ SB) (hP : PR (blk m a) P) (hA : SR P (blk m b) A) (hh : A 0 1 < 100000) (hE : EX m) (hR : ForC m R ρ) :
    ∃ m1 q1, F_X9_pass 198 a R b kept (KS, m, q) = some (nI (gb (givesG P A ρ kept) (P 0 2)), (KS, m1, q1)) ∧ Out m m1 b (b + 8) ∧ SR P (blk m1 b) (hourA P ρ kept A) := by
  refine pass_ok (g := gsay P (aU A) ρ) ha hb hP hA hh hE ?_
  intro m1 e e3
  have hl := sb_lt hb
  have hab := pb_sb ha hb
  match R, ρ, hR with
  | none, none, _ => exact fun p hp => by simp [gsay, aU]
  | some r, some ρ, ⟨hr, hR⟩ =>
    intro p hp q
    have hrb := rb_lt hr
    have hsr := sb_rb hb
    obtain ⟨q1, t1, t2⟩ := tell_ok (q := q) ha hb (hP.keep (fun j hj => e _ (by omega))) (hA.urged e e3) hp
    obtain ⟨q2, t3⟩ := says_ok (q := q1) hr _ (hR.congr (fun i h1 h2 => e i (by omega))) t2
    exact ⟨q1, q2, t1, t3⟩
set_option maxRecDepth 4000 in
theorem MS.urged {P A : Nat → Nat → Nat} {m m1 : Nat → Nat → Int32} (h : MS P (blk m 997) A) (e : ∀ j, j ≠ 1000 → m1 j = m j) (e3 : ∀ p, p < P 0 2 → m1 1000 p = nI (min 99 (A 3 p + 1))) : MS P (blk m1 997) (aU A) := by
  obtain ⟨h1, h2, h3, h4, h5⟩ := h
  have f : ∀ j, j ≠ 3 → blk m1 997 j = blk m 997 j := fun j hj => by unfold blk; rw [e _ (by omega)]
  refine ⟨fun p hp => ?_, fun k hk => ?_, fun c hc => ?_, ?_, ?_⟩
  · obtain ⟨k1, k2, k3, k4, k5⟩ := h1 p hp
    rw [f 1 (by omega), f 2 (by omega), f 4 (by omega), f 5 (by omega)]
    exact ⟨k1, k2, ⟨e3 p hp, by simp only [aU, if_true]; omega⟩, k4, k5⟩
  · rw [f 6 (by omega)]; exact h2 k hk
  · rw [f 7 (by omega)]; exact h3 c hc
  · rw [f 0 (by omega)]; exact h4
  · rw [f 0 (by omega)]; exact h5
set_option maxRecDepth 4000 in
theorem givesWay_ok {m : Nat → Nat → Int32} {q : Nat → Nat → Int64} {P A : Nat → Nat → Nat} {ρ : Option RT} {kept : Int32} {p : Nat} (hP : MP m P) (hA : MS P (blk m 997) A) (hk : m 996 47 = kept) (hR : ForM m ρ) (hp : p < P 0 2) : ∃ q1, F_X12_givesWay 996 (nI p) (KS, m, q) = some (if keptG (gsay P A ρ) kept p then nI 1 else nI 0, (KS, m, q1)) := by
  obtain ⟨⟨p0, p1, p2, p3, p4⟩, ⟨B0, B1, B2, B3, B4, B5, B6⟩, hp5, hp6, hp7⟩ := id hP
  have hsq := hP.sq
  have p0 : m 997 0 = nI (P 0 0) := p0
  have p3 : m 997 3 = nI (P 0 3) := p3
  obtain ⟨a1, a2, a3, ⟨a4, a4b⟩, ⟨a5, a5b⟩⟩ := hA
  have a4 : m 997 6 = nI (A 0 0) := a4
  have a5 : m 997 5 = nI (A 0 1) := a5
  obtain ⟨⟨x1, y1⟩, ⟨x2, y2⟩, ⟨x3, y3⟩, ⟨x4, y4⟩, L, x5, y5, z5⟩ := a1 p hp
  have x1 : m 998 p = nI (A 1 p) := x1
  have x2 : m 999 p = nI (A 2 p) := x2
  have x3 : m 1000 p = nI (A 3 p) := x3
  have x4 : m 1001 p = nI (A 4 p) := x4
  have x5 : m 1002 p = nI (A 0 1) - nI L := x5
  obtain ⟨-, ⟨k2, l2⟩, -⟩ := hp5 p hp
  have k2 : m 1005 p = nI (P 2 p) := k2
  unfold F_X12_givesWay
  by_cases hkp : nI p = kept
  · refine ⟨q, ?_⟩
    have hke : keptG (gsay P A ρ) kept p = false := by simp [keptG, hkp]
    simp (disch := omega) only [gdm, gam_1, gam_2, gam_3, gam_4, gam_5, gam_6, gam_7, gam_8, gam_9, gam_10, gam_11, gam_12, gam_13, gam_14, gam_15, gam_16, gam_17, gam_18, gam_19, gam_20, gam_21, gam_22, gam_23, gam_24, gam_25, gam_26, gam_37, gam_38, gam_39, gam_40, gam_41, gam_42, gam_43, gam_44, gam_45, gam_46, gam_48, gam_49, gam_56, gam_57, gam_58, gam_59, gam_60, gam_61, gim_27, gim_28, gim_29, gim_30, gim_31, gim_32, gim_33, gim_34, gim_35, gim_36, gim_47, gim_50, gim_51, gim_52, gim_53, gim_54, gim_55, gim_62, gim_63, ob_some, reduceIte, lit, le_T, le_F, lt_T, lt_F, eq_T, eq_F, nI_add, ldm_997, stm_997, ldm_998, stm_998, ldm_999, stm_999, ldm_1000, stm_1000, ldm_1001, stm_1001, ldm_1002, stm_1002, ldm_1003, stm_1003, ldm_1004, stm_1004, ldm_1005, stm_1005, ldm_1006, stm_1006, ldm_1007, stm_1007, ldm_1008, stm_1008, ldm_1009, stm_1009, ldm_1010, stm_1010, ldm_1011, stm_1011, ldm_1012, stm_1012, ldm_1013, stm_1013, ldm_1014, stm_1014, ldm_1015, stm_1015, ldm_1016, stm_1016, ldm_1017, stm_1017, ldm_1018, stm_1018, ldm_1019, stm_1019, ldm_1020, stm_1020, ldm_1021, stm_1021, ldm_1022, stm_1022, u2_s, u2_a, u2_b, not_true, not_false_iff, gim_47, hk, hkp, hke, rz0, Bool.false_eq_true]
  · have hke : keptG (gsay P A ρ) kept p = gsay P A ρ p := by simp [keptG, hkp]
    rw [hke]
    match ρ, hR with
    | none, hR =>
      have hR : m 997 9 = -nI 1 := hR
      refine ⟨q, ?_⟩
      by_cases e : P 2 p < A 3 p
      · simp (disch := omega) only [gdm, gam_1, gam_2, gam_3, gam_4, gam_5, gam_6, gam_7, gam_8, gam_9, gam_10, gam_11, gam_12, gam_13, gam_14, gam_15, gam_16, gam_17, gam_18, gam_19, gam_20, gam_21, gam_22, gam_23, gam_24, gam_25, gam_26, gam_37, gam_38, gam_39, gam_40, gam_41, gam_42, gam_43, gam_44, gam_45, gam_46, gam_48, gam_49, gam_56, gam_57, gam_58, gam_59, gam_60, gam_61, gim_27, gim_28, gim_29, gim_30, gim_31, gim_32, gim_33, gim_34, gim_35, gim_36, gim_47, gim_50, gim_51, gim_52, gim_53, gim_54, gim_55, gim_62, gim_63, ob_some, reduceIte, lit, le_T, le_F, lt_T, lt_F, eq_T, eq_F, nI_add, ldm_997, stm_997, ldm_998, stm_998, ldm_999, stm_999, ldm_1000, stm_1000, ldm_1001, stm_1001, ldm_1002, stm_1002, ldm_1003, stm_1003, ldm_1004, stm_1004, ldm_1005, stm_1005, ldm_1006, stm_1006, ldm_1007, stm_1007, ldm_1008, stm_1008, ldm_1009, stm_1009, ldm_1010, stm_1010, ldm_1011, stm_1011, ldm_1012, stm_1012, ldm_1013, stm_1013, ldm_1014, stm_1014, ldm_1015, stm_1015, ldm_1016, stm_1016, ldm_1017, stm_1017, ldm_1018, stm_1018, ldm_1019, stm_1019, ldm_1020, stm_1020, ldm_1021, stm_1021, ldm_1022, stm_1022, u2_s, u2_a, u2_b, not_true, not_false_iff, gim_47, hk, hkp, hR, x3, k2, rz1, gsay, e, decide_true]
      · simp (disch := omega) only [gdm, gam_1, gam_2, gam_3, gam_4, gam_5, gam_6, gam_7, gam_8, gam_9, gam_10, gam_11, gam_12, gam_13, gam_14, gam_15, gam_16, gam_17, gam_18, gam_19, gam_20, gam_21, gam_22, gam_23, gam_24, gam_25, gam_26, gam_37, gam_38, gam_39, gam_40, gam_41, gam_42, gam_43, gam_44, gam_45, gam_46, gam_48, gam_49, gam_56, gam_57, gam_58, gam_59, gam_60, gam_61, gim_27, gim_28, gim_29, gim_30, gim_31, gim_32, gim_33, gim_34, gim_35, gim_36, gim_47, gim_50, gim_51, gim_52, gim_53, gim_54, gim_55, gim_62, gim_63, ob_some, reduceIte, lit, le_T, le_F, lt_T, lt_F, eq_T, eq_F, nI_add, ldm_997, stm_997, ldm_998, stm_998, ldm_999, stm_999, ldm_1000, stm_1000, ldm_1001, stm_1001, ldm_1002, stm_1002, ldm_1003, stm_1003, ldm_1004, stm_1004, ldm_1005, stm_1005, ldm_1006, stm_1006, ldm_1007, stm_1007, ldm_1008, stm_1008, ldm_1009, stm_1009, ldm_1010, stm_1010, ldm_1011, stm_1011, ldm_1012, stm_1012, ldm_1013, stm_1013, ldm_1014, stm_1014, ldm_1015, stm_1015, ldm_1016, stm_1016, ldm_1017, stm_1017, ldm_1018, stm_1018, ldm_1019, stm_1019, ldm_1020, stm_1020, ldm_1021, stm_1021, ldm_1022, stm_1022, u2_s, u2_a, u2_b, not_true, not_false_iff, gim_47, hk, hkp, hR, x3, k2, rz0, gsay, e, decide_false, Bool.false_eq_true]
    | some ρ, ⟨r, hr, hf, hR⟩ =>
      have w7 : m 1004 (A 1 p) = nI (A 7 (A 1 p)) := (a3 _ y1).1
      have g := fun q => malls (m := m) (q := q) (A := A) p3 B5 (fun k hk => (a2 k hk).1)
      have sn := fun q => since_ok (m := m) (q := q) (show p < 6 by omega) a5 x5 (by omega)
      have hbc := fun t => bits_ok (show A 0 0 < 128 by omega) t
      have hrem : nI (A 1 p) - nI (A 1 p / P 0 0) * nI (P 0 0) = nI (A 1 p % P 0 0) := rem_S (by omega) (by omega) (by omega)
      obtain ⟨v, q1, z1, z2⟩ := wanted_ok (q := twelve q 1031 (wds P A p)) hr (wds P A p) hf hR twelve_at
      refine ⟨q1, ?_⟩
      have z1' : F_X12_wanted 996 (KS, m, mk_u2 (mk_u2 (mk_u2 (mk_u2 (mk_u2 (mk_u2 (mk_u2 (mk_u2 (mk_u2 (mk_u2 (mk_u2 (mk_u2 q 1031 0 (nI p).toInt64) 1031 1 (nI (A 3 p)).toInt64) 1031 2 (nI (P 2 p)).toInt64) 1031 3 (nI (A 2 p)).toInt64) 1031 4 (nI (A 1 p / P 0 0)).toInt64) 1031 5 (nI (A 1 p % P 0 0)).toInt64) 1031 6 (nI (A 7 (A 1 p))).toInt64) 1031 7 (nI (A 4 p)).toInt64) 1031 8 (nI (A 5 p)).toInt64) 1031 9 (nI (nsum (A 6) (P 0 3))).toInt64) 1031 10 (nI (pc (A 0 0))).toInt64) 1031 11 (nI (A 0 1)).toInt64) = some (v, (KS, m, q1)) := z1
      simp (disch := omega) only [gdm, gam_1, gam_2, gam_3, gam_4, gam_5, gam_6, gam_7, gam_8, gam_9, gam_10, gam_11, gam_12, gam_13, gam_14, gam_15, gam_16, gam_17, gam_18, gam_19, gam_20, gam_21, gam_22, gam_23, gam_24, gam_25, gam_26, gam_37, gam_38, gam_39, gam_40, gam_41, gam_42, gam_43, gam_44, gam_45, gam_46, gam_48, gam_49, gam_56, gam_57, gam_58, gam_59, gam_60, gam_61, gim_27, gim_28, gim_29, gim_30, gim_31, gim_32, gim_33, gim_34, gim_35, gim_36, gim_47, gim_50, gim_51, gim_52, gim_53, gim_54, gim_55, gim_62, gim_63, ob_some, reduceIte, lit, le_T, le_F, lt_T, lt_F, eq_T, eq_F, nI_add, ldm_997, stm_997, ldm_998, stm_998, ldm_999, stm_999, ldm_1000, stm_1000, ldm_1001, stm_1001, ldm_1002, stm_1002, ldm_1003, stm_1003, ldm_1004, stm_1004, ldm_1005, stm_1005, ldm_1006, stm_1006, ldm_1007, stm_1007, ldm_1008, stm_1008, ldm_1009, stm_1009, ldm_1010, stm_1010, ldm_1011, stm_1011, ldm_1012, stm_1012, ldm_1013, stm_1013, ldm_1014, stm_1014, ldm_1015, stm_1015, ldm_1016, stm_1016, ldm_1017, stm_1017, ldm_1018, stm_1018, ldm_1019, stm_1019, ldm_1020, stm_1020, ldm_1021, stm_1021, ldm_1022, stm_1022, u2_s, u2_a, u2_b, not_true, not_false_iff, gim_47, stm_1031, hk, hkp, hf, m1_eq, x1, x2, x3, x4, k2, p0, pk_div, hrem, w7, g, sn, ← z5, a4, hbc, a5, z1', gsay, z2]
      by_cases e : lg_cmp v 0 ≤ 0
      · have e2 : lg_cmp v 0 ≤ nI 0 := e
        simp only [e2, not_true, decide_false, Bool.false_eq_true, reduceIte]
        rfl
      · have e2 : ¬ lg_cmp v 0 ≤ nI 0 := e
        simp only [e2, not_false_iff, decide_true, reduceIte]
        rfl
set_option maxRecDepth 4000 in
theorem MP.keep {m m1 : Nat → Nat → Int32} {P : Nat → Nat → Nat} (h : MP m P) (e0 : ∀ k, k < 5 → m1 997 k = m 997 k) (e : ∀ j, 1005 ≤ j → j < 1015 → m1 j = m j) : MP m1 P := by
  unfold MP PR mpi at *
  simp (disch := omega) only [e0, e] at *
  exact h
set_option maxRecDepth 4000 in
theorem goes_full {m : Nat → Nat → Int32} {q : Nat → Nat → Int64} {P A : Nat → Nat → Nat} {ρ : Option RT} {kept : Int32} (hP : MP m P) (hA : MS P (blk m 997) A) (hh : A 0 1 < 100000) (hk : m 996 47 = kept) (hR : ForM m ρ) :
    ∃ m1 q1, F_X12_goes 996 (KS, m, q) = some (nI (gb (givesG P A ρ kept) (P 0 2)), (KS, m1, q1)) ∧ (∀ j, j ≠ 997 → j ≠ 1000 → j ≠ 1001 → j ≠ 1002 → j ≠ 1003 → j ≠ 1004 → m1 j = m j) ∧ (∀ k, k ≠ 5 → k ≠ 6 → m1 997 k = m 997 k) ∧ MS P (blk m1 997) (hourA P ρ kept A) := by
  refine goes_ok (G := givesG P A ρ kept) m hP hA hh ?_
  intro m1 e e3 p hp q
  exact givesWay_ok (hP.keep (fun k _ => by rw [e _ (by omega)]) (fun j h1 h2 => e j (by omega))) (hA.urged e e3) (by rw [e _ (by omega)]; exact hk) (hR.congr (by rw [e _ (by omega)]) (fun i h1 h2 => e i (by omega))) hp
