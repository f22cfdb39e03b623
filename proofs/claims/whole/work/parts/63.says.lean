def SegM (m : Nat → Nat → Int32) (r o : Nat) : List (Nat × Nat) → Prop
  | [] => True
  | e :: cs => m 1024 (300 * r + o) = nI e.1 ∧ (e.1 ≤ 1 → m 1025 (300 * r + o) = nI e.2) ∧ SegM m r (o + 1) cs
set_option maxRecDepth 4000 in
theorem mem_ne {k : Nat} (h : k ∈ [2, 3, 4, 5, 6, 7, 8, 10, 11, 13, 14, 15]) : k ≠ 0 ∧ k ≠ 1 ∧ k ≠ 9 ∧ k < 100 := by
  simp at h; omega
set_option maxRecDepth 4000 in
theorem answer_loop {m : Nat → Nat → Int32} {r : Nat} (hr : r < 6) (w : Nat → Int64) {tl1 : List Bool} : ∀ (cs : List (Nat × Nat)) (o f : Nat) (s : List Int64) (tl : List Bool) (q : Nat → Nat → Int64), SegM m r o cs → o + cs.length ≤ 300 → tys cs tl = some tl1 → VT s tl → PL (q 1032) s → s.length + pushes cs ≤ 60 → cs.length < f → (∀ k, k < 12 → q 1031 k = w k) →
    ∃ q1, B_X12_answer_6 f 996 (nI r) (nI (o + cs.length)) (nI s.length) (nI o) (KS, m, q) = some (q1 1032 0, (KS, m, q1)) ∧ VT (evl w s cs) tl1 ∧ PL (q1 1032) (evl w s cs) ∧ (∀ k, k < 12 → q1 1031 k = w k) := by
  intro cs
  induction cs with
  | nil =>
    intro o f s tl q hs ho ht hv hp hn hf hw
    obtain ⟨f, rfl⟩ : ∃ g, f = g + 1 := ⟨f - 1, by omega⟩
    simp only [tys, Option.some.injEq] at ht
    subst ht
    refine ⟨q, ?_, hv, hp, hw⟩
    rw [B_X12_answer_6]
    simp only [List.length_nil] at ho ⊢
    rw [if_pos (nI_le (by omega) (by omega))]
    simp only [gam_1, gam_2, gam_3, gam_4, gam_5, gam_6, gam_7, gam_8, gam_9, gam_10, gam_11, gam_12, gam_13, gam_14, gam_15, gam_16, gam_17, gam_18, gam_19, gam_20, gam_21, gam_22, gam_23, gam_24, gam_25, gam_26, gam_37, gam_38, gam_39, gam_40, gam_41, gam_42, gam_43, gam_44, gam_45, gam_46, gam_48, gam_49, gam_56, gam_57, gam_58, gam_59, gam_60, gam_61, gim_27, gim_28, gim_29, gim_30, gim_31, gim_32, gim_33, gim_34, gim_35, gim_36, gim_47, gim_50, gim_51, gim_52, gim_53, gim_54, gim_55, gim_62, gim_63, ob_some]
    rw [show (0 : Int32) = nI 0 from rfl, ldm_1032 (by omega)]
    rfl
  | cons e cs ih =>
    intro o f s tl q hs ho ht hv hp hn hf hw
    obtain ⟨f, rfl⟩ : ∃ g, f = g + 1 := ⟨f - 1, by omega⟩
    obtain ⟨h1, h2, h3⟩ := hs
    simp only [tys, Option.bind_eq_some_iff] at ht
    obtain ⟨tl2, ht1, ht2⟩ := ht
    simp only [List.length_cons] at ho hf
    simp only [pushes] at hn
    have e0 : evl w s (e :: cs) = evl w (stp w s e) cs := rfl
    have elen : o + (e :: cs).length = (o + 1) + cs.length := by simp only [List.length_cons]; omega
    have h1' : m 1024 (300 * r + o) = nI e.1 := h1
    rw [e0, elen]
    rw [B_X12_answer_6]
    rcases tstp_cases ht1 with ⟨k1, k2, k3⟩ | ⟨k1, k2, k3⟩ | ⟨k1, t, k2, k3⟩ | ⟨k1, x, y, t, k2, k3, k4⟩
    · rw [if_pos (by omega)] at hn
      have es : stp w s e = (nI e.2).toInt64 :: s := by simp only [stp, k1]
      have hx := h2 (by omega)
      rw [es]
      obtain ⟨q1, z1, z2, z3, z4⟩ := ih (o + 1) f ((nI e.2).toInt64 :: s) tl2 (mk_u2 q 1032 s.length (nI e.2).toInt64) h3 (by omega) ht2 (by rw [k3]; exact ⟨fun h => absurd h (by simp), hv⟩) ⟨u2_s, hp.congr (fun j hj => u2_b (by omega))⟩ (by simp only [List.length_cons]; omega) (by omega) (fun k hk => by rw [u2_a (by omega)]; exact hw k hk)
      refine ⟨q1, ?_, z2, z3, z4⟩
      rw [← z1]
      simp (disch := omega) only [lit, le_T, le_F, lt_T, lt_F, eq_T, eq_F, nI_add, gam_1, gam_2, gam_3, gam_4, gam_5, gam_6, gam_7, gam_8, gam_9, gam_10, gam_11, gam_12, gam_13, gam_14, gam_15, gam_16, gam_17, gam_18, gam_19, gam_20, gam_21, gam_22, gam_23, gam_24, gam_25, gam_26, gam_37, gam_38, gam_39, gam_40, gam_41, gam_42, gam_43, gam_44, gam_45, gam_46, gam_48, gam_49, gam_56, gam_57, gam_58, gam_59, gam_60, gam_61, gim_27, gim_28, gim_29, gim_30, gim_31, gim_32, gim_33, gim_34, gim_35, gim_36, gim_47, gim_50, gim_51, gim_52, gim_53, gim_54, gim_55, gim_62, gim_63, pk_mul, ldm_1024, ldm_1025, stm_1032, h1, k1, hx, reduceIte, ob_some, B_X12_answer_53, B_X12_answer_77, B_X12_answer_147, List.length_cons]
    · rw [if_pos (by omega)] at hn
      have es : stp w s e = w e.2 :: s := by simp only [stp, k1]
      have hx := h2 (by omega)
      rw [es]
      obtain ⟨q1, z1, z2, z3, z4⟩ := ih (o + 1) f (w e.2 :: s) tl2 (mk_u2 q 1032 s.length (w e.2)) h3 (by omega) ht2 (by rw [k3]; exact ⟨fun h => absurd h (by simp), hv⟩) ⟨u2_s, hp.congr (fun j hj => u2_b (by omega))⟩ (by simp only [List.length_cons]; omega) (by omega) (fun k hk => by rw [u2_a (by omega)]; exact hw k hk)
      refine ⟨q1, ?_, z2, z3, z4⟩
      rw [← z1]
      simp (disch := omega) only [lit, le_T, le_F, lt_T, lt_F, eq_T, eq_F, nI_add, gam_1, gam_2, gam_3, gam_4, gam_5, gam_6, gam_7, gam_8, gam_9, gam_10, gam_11, gam_12, gam_13, gam_14, gam_15, gam_16, gam_17, gam_18, gam_19, gam_20, gam_21, gam_22, gam_23, gam_24, gam_25, gam_26, gam_37, gam_38, gam_39, gam_40, gam_41, gam_42, gam_43, gam_44, gam_45, gam_46, gam_48, gam_49, gam_56, gam_57, gam_58, gam_59, gam_60, gam_61, gim_27, gim_28, gim_29, gim_30, gim_31, gim_32, gim_33, gim_34, gim_35, gim_36, gim_47, gim_50, gim_51, gim_52, gim_53, gim_54, gim_55, gim_62, gim_63, pk_mul, ldm_1024, ldm_1025, ldm_1031, stm_1032, h1, k1, hx, hw, reduceIte, ob_some, B_X12_answer_53, B_X12_answer_77, B_X12_answer_147, List.length_cons]
    · rw [if_neg (by omega)] at hn
      subst k2
      match s, hv, hp, hn with
      | v :: s, hv, hp, hn =>
        have es : stp w (v :: s) e = (1 - v) :: s := by simp only [stp, k1]
        rw [es]
        simp only [List.length_cons] at hn
        obtain ⟨q1, z1, z2, z3, z4⟩ := ih (o + 1) f ((1 - v) :: s) tl2 (mk_u2 q 1032 s.length (1 - v)) h3 (by omega) ht2 (by rw [k3]; exact ⟨fun _ => by rcases hv.1 rfl with h | h <;> subst h <;> decide, hv.2⟩) ⟨u2_s, hp.2.congr (fun j hj => u2_b (by omega))⟩ (by simp only [List.length_cons]; omega) (by omega) (fun k hk => by rw [u2_a (by omega)]; exact hw k hk)
        refine ⟨q1, ?_, z2, z3, z4⟩
        rw [← z1]
        have hv0 : q 1032 s.length = v := hp.1
        simp (disch := omega) only [lit, le_T, le_F, lt_T, lt_F, eq_T, eq_F, nI_add, gam_1, gam_2, gam_3, gam_4, gam_5, gam_6, gam_7, gam_8, gam_9, gam_10, gam_11, gam_12, gam_13, gam_14, gam_15, gam_16, gam_17, gam_18, gam_19, gam_20, gam_21, gam_22, gam_23, gam_24, gam_25, gam_26, gam_37, gam_38, gam_39, gam_40, gam_41, gam_42, gam_43, gam_44, gam_45, gam_46, gam_48, gam_49, gam_56, gam_57, gam_58, gam_59, gam_60, gam_61, gim_27, gim_28, gim_29, gim_30, gim_31, gim_32, gim_33, gim_34, gim_35, gim_36, gim_47, gim_50, gim_51, gim_52, gim_53, gim_54, gim_55, gim_62, gim_63, pk_mul, ldm_1024, ldm_1025, ldm_1032, stm_1032, h1, k1, reduceIte, ob_some, B_X12_answer_147, List.length_cons, sub1, Nat.add_sub_cancel, hv0]
    · obtain ⟨g1, g2, g3, g4⟩ := mem_ne k1
      rw [if_neg (by omega)] at hn
      subst k2
      match s, hv, hp, hn with
      | v :: u :: s, hv, hp, hn =>
        have es : stp w (v :: u :: s) e = opv e.1 u v :: s := stp_join k1
        rw [es]
        simp only [List.length_cons] at hn
        have hv1 : q 1032 (s.length + 1) = v := hp.1
        have hv2 : q 1032 s.length = u := hp.2.1
        obtain ⟨q1, z1, z2, z3, z4⟩ := ih (o + 1) f (opv e.1 u v :: s) tl2 (mk_u2 q 1032 s.length (opv e.1 u v)) h3 (by omega) ht2 (by
          rw [k3]
          refine ⟨fun hy => opv01 ?_, hv.2.2⟩
          rcases k4 hy with h | ⟨h, hx⟩
          · exact .inl h
          · exact .inr ⟨h, hv.2.1 hx, hv.1 hx⟩) ⟨u2_s, hp.2.2.congr (fun j hj => u2_b (by omega))⟩ (by simp only [List.length_cons]; omega) (by omega) (fun k hk => by rw [u2_a (by omega)]; exact hw k hk)
        refine ⟨q1, ?_, z2, z3, z4⟩
        rw [← z1]
        have hj := both_ok (a := u) (b := v) (t := (KS, m, q)) k1
        simp (disch := omega) only [lit, le_T, le_F, lt_T, lt_F, eq_T, eq_F, nI_add, gam_1, gam_2, gam_3, gam_4, gam_5, gam_6, gam_7, gam_8, gam_9, gam_10, gam_11, gam_12, gam_13, gam_14, gam_15, gam_16, gam_17, gam_18, gam_19, gam_20, gam_21, gam_22, gam_23, gam_24, gam_25, gam_26, gam_37, gam_38, gam_39, gam_40, gam_41, gam_42, gam_43, gam_44, gam_45, gam_46, gam_48, gam_49, gam_56, gam_57, gam_58, gam_59, gam_60, gam_61, gim_27, gim_28, gim_29, gim_30, gim_31, gim_32, gim_33, gim_34, gim_35, gim_36, gim_47, gim_50, gim_51, gim_52, gim_53, gim_54, gim_55, gim_62, gim_63, pk_mul, ldm_1024, ldm_1025, ldm_1032, stm_1032, h1, reduceIte, ob_some, B_X12_answer_147, List.length_cons, neg1, ad_m1, sub1, Nat.add_sub_cancel, hv1, hv2, hj]
def val (w : Nat → Int64) (cs : List (Nat × Nat)) : Int64 := (evl w [] cs).headD 0
set_option maxRecDepth 4000 in
theorem VT_one {s : List Int64} {x : Bool} (h : VT s [x]) : ∃ v, s = [v] ∧ (x = true → v = 0 ∨ v = 1) := by
  match s, h with
  | [v], h => exact ⟨v, rfl, h.1⟩
  | _ :: _ :: _, h => exact absurd h.2 (by simp [VT])
set_option maxRecDepth 4000 in
theorem worth_ok {m : Nat → Nat → Int32} {q : Nat → Nat → Int64} {b o : Nat} {cs : List (Nat × Nat)} {x : Bool} (hb : b ∈ RB) (w : Nat → Int64) (hs : SegC m b o cs) (ho : o + cs.length ≤ 400) (ht : tys cs [] = some [x]) (hn : pushes cs ≤ 60) (hw : ∀ k, k < 12 → q 199 k = w k) :
    ∃ q1, F_X5_worth b (nI o) (nI (o + cs.length)) 199 (KS, m, q) = some (val w cs, (KS, m, q1)) ∧ (x = true → val w cs = 0 ∨ val w cs = 1) ∧ (∀ k, k < 12 → q1 199 k = w k) := by
  have hl := rb_lt hb
  obtain ⟨q1, z1, z2, z3, z4⟩ := worth_loop hb w cs o mk_fu [] [] q hs ho ht trivial trivial (by simp; omega) (by rw [mk_fu_eq]; omega) hw
  obtain ⟨v, e, hv⟩ := VT_one z2
  unfold val
  rw [e] at z1 z3 ⊢
  refine ⟨q1, ?_, hv, z4⟩
  unfold F_X5_worth
  rw [rb_gd hb]
  refine Eq.trans z1 ?_
  have z5 : q1 (b + 6) 0 = v := z3.1
  unfold B_X5_worth_173
  simp (disch := omega) only [List.length_cons, List.length_nil, Nat.zero_add, lit, le_F, reduceIte, rb_g hb, rb_ld hb, ob_some, z5, List.headD_cons]
set_option maxRecDepth 4000 in
theorem answer_ok {m : Nat → Nat → Int32} {q : Nat → Nat → Int64} {r o : Nat} {cs : List (Nat × Nat)} {x : Bool} (hr : r < 6) (w : Nat → Int64) (hs : SegM m r o cs) (ho : o + cs.length ≤ 300) (ht : tys cs [] = some [x]) (hn : pushes cs ≤ 60) (hw : ∀ k, k < 12 → q 1031 k = w k) :
    ∃ q1, F_X12_answer 996 (nI r) (nI o) (nI (o + cs.length)) (KS, m, q) = some (val w cs, (KS, m, q1)) ∧ (x = true → val w cs = 0 ∨ val w cs = 1) ∧ (∀ k, k < 12 → q1 1031 k = w k) := by
  obtain ⟨q1, z1, z2, z3, z4⟩ := answer_loop hr w cs o mk_fu [] [] q hs ho ht trivial trivial (by simp; omega) (by rw [mk_fu_eq]; omega) hw
  obtain ⟨v, e, hv⟩ := VT_one z2
  unfold val
  rw [e] at z3 ⊢
  refine ⟨q1, ?_, hv, z4⟩
  unfold F_X12_answer
  rw [gdm]
  refine Eq.trans z1 ?_
  have z5 : q1 1032 0 = v := z3.1
  rw [z5]
  rfl
abbrev RT : Type := List (List (Nat × Nat) × List (Nat × Nat))
def WFc (c : List (Nat × Nat) × List (Nat × Nat)) : Prop := tys c.1 [] = some [false] ∧ (c.2 = [] ∨ tys c.2 [] = some [true]) ∧ pushes c.1 ≤ 60 ∧ pushes c.2 ≤ 60
/-- whether one with these words gives way -/
def rsay (w : Nat → Int64) : RT → Bool
  | [] => false
  | c :: cl => if c.2.isEmpty || decide (val w c.2 ≠ 0) then decide (¬ lg_cmp (val w c.1) 0 ≤ 0) else rsay w cl
def ClC (m : Nat → Nat → Int32) (b i : Nat) : RT → Prop
  | [] => True
  | c :: cl => (∃ s, m (b + 3) i = nI s ∧ m (b + 4) i = nI (s + c.1.length) ∧ m (b + 5) i = nI (s + c.1.length + c.2.length) ∧ s + c.1.length + c.2.length ≤ 400 ∧ SegC m b s c.1 ∧ SegC m b (s + c.1.length) c.2) ∧ WFc c ∧ ClC m b (i + 1) cl
def ClM (m : Nat → Nat → Int32) (r i : Nat) : RT → Prop
  | [] => True
  | c :: cl => (∃ s, m 1027 (12 * r + i) = nI s ∧ m 1028 (12 * r + i) = nI (s + c.1.length) ∧ m 1029 (12 * r + i) = nI (s + c.1.length + c.2.length) ∧ s + c.1.length + c.2.length ≤ 300 ∧ SegM m r s c.1 ∧ SegM m r (s + c.1.length) c.2) ∧ WFc c ∧ ClM m r (i + 1) cl
def RuleC (m : Nat → Nat → Int32) (b : Nat) (ρ : RT) : Prop := ρ.length ≤ 12 ∧ m b 3 = nI ρ.length ∧ ClC m b 0 ρ
def RuleM (m : Nat → Nat → Int32) (r : Nat) (ρ : RT) : Prop := ρ.length ≤ 12 ∧ m 1026 r = nI ρ.length ∧ ClM m r 0 ρ
set_option maxRecDepth 4000 in
theorem rz0 (t : mk_S) : mk_rz (nI 0) t = some (nI 0, t) := rfl
set_option maxRecDepth 4000 in
theorem rz1 (t : mk_S) : mk_rz (nI 1) t = some (nI 1, t) := rfl
set_option maxRecDepth 4000 in
theorem says_loop {m : Nat → Nat → Int32} {b : Nat} (hb : b ∈ RB) (w : Nat → Int64) : ∀ (cl : RT) (i f : Nat) (q : Nat → Nat → Int64), i + cl.length ≤ 12 → m b 3 = nI (i + cl.length) → ClC m b i cl → cl.length < f → (∀ k, k < 12 → q 199 k = w k) → ∃ q1, B_X5_says_2 f b 199 (nI i) (KS, m, q) = some (if rsay w cl then nI 1 else nI 0, (KS, m, q1)) := by
  intro cl
  induction cl with
  | nil =>
    intro i f q hi hc hcl hf hw
    obtain ⟨f, rfl⟩ : ∃ g, f = g + 1 := ⟨f - 1, by omega⟩
    simp only [List.length_nil, Nat.add_zero] at hc hi
    refine ⟨q, ?_⟩
    rw [B_X5_says_2]
    simp (disch := omega) only [rb_g hb, ob_some, hc, le_T, reduceIte, lit, rz0, rsay, Bool.false_eq_true]
  | cons c cl ih =>
    intro i f q hi hc hcl hf hw
    obtain ⟨f, rfl⟩ : ∃ g, f = g + 1 := ⟨f - 1, by omega⟩
    obtain ⟨⟨s, s1, s2, s3, s4, s5, s6⟩, ⟨w1, w2, w3, w4⟩, hcl⟩ := hcl
    simp only [List.length_cons] at hc hi hf
    have sumV : ∀ q2, (∀ k, k < 12 → q2 199 k = w k) → ∃ q1, B_X5_says_47 b 199 (nI i) (KS, m, q2) = some (if ¬ lg_cmp (val w c.1) 0 ≤ 0 then nI 1 else nI 0, (KS, m, q1)) := by
      intro q2 hw2
      obtain ⟨q3, z1, -, z3⟩ := worth_ok (q := q2) hb w s5 (by omega) w1 w3 hw2
      refine ⟨q3, ?_⟩
      unfold B_X5_says_47
      simp (disch := omega) only [rb_g hb, rb_ld hb, ob_some, s1, s2, z1]
      split <;> rfl
    rw [B_X5_says_2]
    rcases w2 with w2 | w2
    · have e2 : c.2.length = 0 := by rw [w2]; rfl
      obtain ⟨q1, z1⟩ := sumV q hw
      have hrs : rsay w (c :: cl) = decide (¬ lg_cmp (val w c.1) 0 ≤ 0) := by simp only [rsay, w2, List.isEmpty_nil, Bool.true_or, if_true]
      refine ⟨q1, ?_⟩
      rw [hrs]
      simp only [decide_eq_true_eq]
      rw [← z1]
      simp (disch := omega) only [rb_g hb, rb_ld hb, ob_some, hc, s2, s3, e2, Nat.add_zero, lit, le_T, le_F, lt_T, lt_F, eq_T, eq_F, nI_add, reduceIte]
    · have e2 : 0 < c.2.length := by
        rcases hc2 : c.2 with _ | ⟨x, y⟩
        · rw [hc2] at w2; simp [tys] at w2
        · simp
      have e3 : c.2.isEmpty = false := by
        rcases hc2 : c.2 with _ | ⟨x, y⟩
        · rw [hc2] at e2; simp at e2
        · rfl
      obtain ⟨q3, z1, z2, z3⟩ := worth_ok (q := q) hb w s6 (by omega) w2 w4 hw
      by_cases hv : val w c.2 = 0
      · obtain ⟨q1, y1⟩ := ih (i + 1) f q3 (by omega) (by rw [hc]; congr 1; omega) hcl (by omega) z3
        refine ⟨q1, ?_⟩
        have hcm : lg_cmp (val w c.2) 0 = nI 0 := (lg_cmp_eq _ _).mpr hv
        have hrs : rsay w (c :: cl) = rsay w cl := by simp only [rsay, e3, hv, Bool.false_or, ne_eq, not_true, decide_false, Bool.false_eq_true, if_false]
        rw [hrs, ← y1]
        simp (disch := omega) only [rb_g hb, rb_ld hb, ob_some, hc, s2, s3, lit, le_T, le_F, lt_T, lt_F, eq_T, eq_F, nI_add, reduceIte, z1, hcm]
      · obtain ⟨q1, y1⟩ := sumV q3 z3
        refine ⟨q1, ?_⟩
        have hcm : (lg_cmp (val w c.2) 0 = nI 0) = False := eq_false (fun h => hv ((lg_cmp_eq _ _).mp h))
        have hrs : rsay w (c :: cl) = decide (¬ lg_cmp (val w c.1) 0 ≤ 0) := by simp only [rsay, e3, hv, Bool.false_or, ne_eq, not_false_iff, decide_true, if_true]
        rw [hrs]
        simp only [decide_eq_true_eq]
        rw [← y1]
        simp (disch := omega) only [rb_g hb, rb_ld hb, ob_some, hc, s2, s3, lit, le_T, le_F, lt_T, lt_F, eq_T, eq_F, nI_add, reduceIte, z1, hcm]
set_option maxRecDepth 4000 in
theorem says_ok {m : Nat → Nat → Int32} {q : Nat → Nat → Int64} {b : Nat} {ρ : RT} (hb : b ∈ RB) (w : Nat → Int64) (hR : RuleC m b ρ) (hw : ∀ k, k < 12 → q 199 k = w k) : ∃ q1, F_X5_says b 199 (KS, m, q) = some (if rsay w ρ then nI 1 else nI 0, (KS, m, q1)) := by
  unfold F_X5_says
  rw [rb_gd hb]
  exact says_loop hb w ρ 0 mk_fu q (by have := hR.1; omega) (by rw [hR.2.1]; congr 1; omega) hR.2.2 (by have := hR.1; rw [mk_fu_eq]; omega) hw
set_option maxRecDepth 4000 in
theorem wanted_loop {m : Nat → Nat → Int32} {r : Nat} (hr : r < 6) (w : Nat → Int64) : ∀ (cl : RT) (i f : Nat) (q : Nat → Nat → Int64), i + cl.length ≤ 12 → m 1026 r = nI (i + cl.length) → ClM m r i cl → cl.length < f → (∀ k, k < 12 → q 1031 k = w k) → ∃ v q1, B_X12_wanted_13 f 996 (nI r) (nI (12 * r + i)) (KS, m, q) = some (v, (KS, m, q1)) ∧ (rsay w cl = decide (¬ lg_cmp v 0 ≤ 0)) := by
  intro cl
  induction cl with
  | nil =>
    intro i f q hi hc hcl hf hw
    obtain ⟨f, rfl⟩ : ∃ g, f = g + 1 := ⟨f - 1, by omega⟩
    simp only [List.length_nil, Nat.add_zero] at hc hi
    refine ⟨0, q, ?_, by simp only [rsay]; decide⟩
    rw [B_X12_wanted_13]
    simp (disch := omega) only [gam_1, gam_2, gam_3, gam_4, gam_5, gam_6, gam_7, gam_8, gam_9, gam_10, gam_11, gam_12, gam_13, gam_14, gam_15, gam_16, gam_17, gam_18, gam_19, gam_20, gam_21, gam_22, gam_23, gam_24, gam_25, gam_26, gam_37, gam_38, gam_39, gam_40, gam_41, gam_42, gam_43, gam_44, gam_45, gam_46, gam_48, gam_49, gam_56, gam_57, gam_58, gam_59, gam_60, gam_61, gim_27, gim_28, gim_29, gim_30, gim_31, gim_32, gim_33, gim_34, gim_35, gim_36, gim_47, gim_50, gim_51, gim_52, gim_53, gim_54, gim_55, gim_62, gim_63, ob_some, ldm_1026, hc, pk_mul, lit, le_T, le_F, lt_T, lt_F, eq_T, eq_F, nI_add, reduceIte]
  | cons c cl ih =>
    intro i f q hi hc hcl hf hw
    obtain ⟨f, rfl⟩ : ∃ g, f = g + 1 := ⟨f - 1, by omega⟩
    obtain ⟨⟨s, s1, s2, s3, s4, s5, s6⟩, ⟨w1, w2, w3, w4⟩, hcl⟩ := hcl
    simp only [List.length_cons] at hc hi hf
    have sumV : ∀ q2, (∀ k, k < 12 → q2 1031 k = w k) → ∃ q1, B_X12_wanted_65 996 (nI r) (nI (12 * r + i)) (KS, m, q2) = some (val w c.1, (KS, m, q1)) := by
      intro q2 hw2
      obtain ⟨q3, z1, -, z3⟩ := answer_ok (q := q2) hr w s5 (by omega) w1 w3 hw2
      refine ⟨q3, ?_⟩
      unfold B_X12_wanted_65
      simp (disch := omega) only [gam_1, gam_2, gam_3, gam_4, gam_5, gam_6, gam_7, gam_8, gam_9, gam_10, gam_11, gam_12, gam_13, gam_14, gam_15, gam_16, gam_17, gam_18, gam_19, gam_20, gam_21, gam_22, gam_23, gam_24, gam_25, gam_26, gam_37, gam_38, gam_39, gam_40, gam_41, gam_42, gam_43, gam_44, gam_45, gam_46, gam_48, gam_49, gam_56, gam_57, gam_58, gam_59, gam_60, gam_61, gim_27, gim_28, gim_29, gim_30, gim_31, gim_32, gim_33, gim_34, gim_35, gim_36, gim_47, gim_50, gim_51, gim_52, gim_53, gim_54, gim_55, gim_62, gim_63, ldm_1027, ldm_1028, ob_some, s1, s2, z1]
    rw [B_X12_wanted_13]
    rcases w2 with w2 | w2
    · have e2 : c.2.length = 0 := by rw [w2]; rfl
      obtain ⟨q1, z1⟩ := sumV q hw
      refine ⟨val w c.1, q1, ?_, ?_⟩
      · simp (disch := omega) only [gam_1, gam_2, gam_3, gam_4, gam_5, gam_6, gam_7, gam_8, gam_9, gam_10, gam_11, gam_12, gam_13, gam_14, gam_15, gam_16, gam_17, gam_18, gam_19, gam_20, gam_21, gam_22, gam_23, gam_24, gam_25, gam_26, gam_37, gam_38, gam_39, gam_40, gam_41, gam_42, gam_43, gam_44, gam_45, gam_46, gam_48, gam_49, gam_56, gam_57, gam_58, gam_59, gam_60, gam_61, gim_27, gim_28, gim_29, gim_30, gim_31, gim_32, gim_33, gim_34, gim_35, gim_36, gim_47, gim_50, gim_51, gim_52, gim_53, gim_54, gim_55, gim_62, gim_63, ldm_1026, ldm_1028, ldm_1029, ob_some, hc, pk_mul, s2, s3, e2, Nat.add_zero, lit, le_T, le_F, lt_T, lt_F, eq_T, eq_F, nI_add, reduceIte, z1]
      · simp only [rsay, w2, List.isEmpty_nil, Bool.true_or, if_true]
    · have e2 : 0 < c.2.length := by
        rcases hc2 : c.2 with _ | ⟨x, y⟩
        · rw [hc2] at w2; simp [tys] at w2
        · simp
      have e3 : c.2.isEmpty = false := by
        rcases hc2 : c.2 with _ | ⟨x, y⟩
        · rw [hc2] at e2; simp at e2
        · rfl
      obtain ⟨q3, z1, z2, z3⟩ := answer_ok (q := q) hr w s6 (by omega) w2 w4 hw
      rcases z2 rfl with hv | hv
      · obtain ⟨v, q1, y1, y2⟩ := ih (i + 1) f q3 (by omega) (by rw [hc]; congr 1; omega) hcl (by omega) z3
        refine ⟨v, q1, ?_, ?_⟩
        · have hcm : (lg_cmp (val w c.2) 1 = nI 0) = False := by rw [hv]; exact eq_false (by decide)
          simp (disch := omega) only [gam_1, gam_2, gam_3, gam_4, gam_5, gam_6, gam_7, gam_8, gam_9, gam_10, gam_11, gam_12, gam_13, gam_14, gam_15, gam_16, gam_17, gam_18, gam_19, gam_20, gam_21, gam_22, gam_23, gam_24, gam_25, gam_26, gam_37, gam_38, gam_39, gam_40, gam_41, gam_42, gam_43, gam_44, gam_45, gam_46, gam_48, gam_49, gam_56, gam_57, gam_58, gam_59, gam_60, gam_61, gim_27, gim_28, gim_29, gim_30, gim_31, gim_32, gim_33, gim_34, gim_35, gim_36, gim_47, gim_50, gim_51, gim_52, gim_53, gim_54, gim_55, gim_62, gim_63, ldm_1026, ldm_1028, ldm_1029, ob_some, hc, pk_mul, s2, s3, lit, le_T, le_F, lt_T, lt_F, eq_T, eq_F, nI_add, reduceIte, z1, hcm]
          exact y1
        · rw [← y2]
          simp only [rsay, e3, hv, Bool.false_or, ne_eq, not_true, decide_false, Bool.false_eq_true, if_false]
      · obtain ⟨q1, y1⟩ := sumV q3 z3
        refine ⟨val w c.1, q1, ?_, ?_⟩
        · have hcm : (lg_cmp (val w c.2) 1 = nI 0) = True := by rw [hv]; exact eq_true (by decide)
          simp (disch := omega) only [gam_1, gam_2, gam_3, gam_4, gam_5, gam_6, gam_7, gam_8, gam_9, gam_10, gam_11, gam_12, gam_13, gam_14, gam_15, gam_16, gam_17, gam_18, gam_19, gam_20, gam_21, gam_22, gam_23, gam_24, gam_25, gam_26, gam_37, gam_38, gam_39, gam_40, gam_41, gam_42, gam_43, gam_44, gam_45, gam_46, gam_48, gam_49, gam_56, gam_57, gam_58, gam_59, gam_60, gam_61, gim_27, gim_28, gim_29, gim_30, gim_31, gim_32, gim_33, gim_34, gim_35, gim_36, gim_47, gim_50, gim_51, gim_52, gim_53, gim_54, gim_55, gim_62, gim_63, ldm_1026, ldm_1028, ldm_1029, ob_some, hc, pk_mul, s2, s3, lit, le_T, le_F, lt_T, lt_F, eq_T, eq_F, nI_add, reduceIte, z1, hcm, y1]
        · have hne : ¬ (1 : Int64) = 0 := by decide
          simp only [rsay, e3, hv, hne, Bool.false_or, ne_eq, not_false_iff, decide_true, if_true]
set_option maxRecDepth 4000 in
theorem wanted_ok {m : Nat → Nat → Int32} {q : Nat → Nat → Int64} {r : Nat} {ρ : RT} (hr : r < 6) (w : Nat → Int64) (hf : m 997 9 = nI r) (hR : RuleM m r ρ) (hw : ∀ k, k < 12 → q 1031 k = w k) : ∃ v q1, F_X12_wanted 996 (KS, m, q) = some (v, (KS, m, q1)) ∧ rsay w ρ = decide (¬ lg_cmp v 0 ≤ 0) := by
  obtain ⟨v, q1, z1, z2⟩ := wanted_loop hr w ρ 0 mk_fu q (by have := hR.1; omega) (by rw [hR.2.1]; congr 1; omega) hR.2.2 (by have := hR.1; rw [mk_fu_eq]; omega) hw
  refine ⟨v, q1, ?_, z2⟩
  unfold F_X12_wanted
  simp (disch := omega) only [gdm, gam_1, gam_2, gam_3, gam_4, gam_5, gam_6, gam_7, gam_8, gam_9, gam_10, gam_11, gam_12, gam_13, gam_14, gam_15, gam_16, gam_17, gam_18, gam_19, gam_20, gam_21, gam_22, gam_23, gam_24, gam_25, gam_26, gam_37, gam_38, gam_39, gam_40, gam_41, gam_42, gam_43, gam_44, gam_45, gam_46, gam_48, gam_49, gam_56, gam_57, gam_58, gam_59, gam_60, gam_61, gim_27, gim_28, gim_29, gim_30, gim_31, gim_32, gim_33, gim_34, gim_35, gim_36, gim_47, gim_50, gim_51, gim_52, gim_53, gim_54, gim_55, gim_62, gim_63, ob_some, reduceIte, lit, le_T, le_F, lt_T, lt_F, eq_T, eq_F, nI_add, ldm_997, stm_997, ldm_998, stm_998, ldm_999, stm_999, ldm_1000, stm_1000, ldm_1001, stm_1001, ldm_1002, stm_1002, ldm_1003, stm_1003, ldm_1004, stm_1004, ldm_1005, stm_1005, ldm_1006, stm_1006, ldm_1007, stm_1007, ldm_1008, stm_1008, ldm_1009, stm_1009, ldm_1010, stm_1010, ldm_1011, stm_1011, ldm_1012, stm_1012, ldm_1013, stm_1013, ldm_1014, stm_1014, ldm_1015, stm_1015, ldm_1016, stm_1016, ldm_1017, stm_1017, ldm_1018, stm_1018, ldm_1019, stm_1019, ldm_1020, stm_1020, ldm_1021, stm_1021, ldm_1022, stm_1022, u2_s, u2_a, u2_b, not_true, not_false_iff, hf, pk_mul]
  exact z1
