/-! RULES told: the class -/
def StC (f : Nat → Int32) : List Nat → Prop
  | [] => True
  | x :: st => f st.length = nI x ∧ StC f st
set_option maxRecDepth 4000 in
theorem StC.congr {f g : Nat → Int32} : ∀ {st : List Nat}, StC f st → (∀ k, k < st.length → g k = f k) → StC g st
  | [], _, _ => trivial
  | x :: st, h, e => ⟨(e _ (by simp)).trans h.1, StC.congr h.2 (fun k hk => e k (by simp only [List.length_cons]; omega))⟩
set_option maxRecDepth 4000 in
theorem SegC.app {m : Nat → Nat → Int32} {b : Nat} {e : Nat × Nat} : ∀ {cs : List (Nat × Nat)} {o : Nat}, SegC m b o cs → m (b + 1) (o + cs.length) = nI (sgn e) → (e.1 = 0 → m (b + 2) (o + cs.length) = nI e.2) → SegC m b o (cs ++ [e])
  | [], o, _, h1, h2 => ⟨h1, h2, trivial⟩
  | c :: cs, o, h, h1, h2 => ⟨h.1, h.2.1, SegC.app h.2.2 (by rw [show o + 1 + cs.length = o + (c :: cs).length by simp only [List.length_cons]; omega]; exact h1) (by rw [show o + 1 + cs.length = o + (c :: cs).length by simp only [List.length_cons]; omega]; exact h2)⟩
set_option maxRecDepth 4000 in
theorem StC.rl {f : Nat → Int32} {lv : Nat} (st : List Nat) : ∀ (cd : List (Nat × Nat)), StC f st → StC f (rl lv st cd).1 := by
  induction st with
  | nil => intro cd h; exact trivial
  | cons x st ih =>
    intro cd h
    unfold _root_.Jvm.Pilot.CWhimWindLaw_law_r9075_4cad22.rl
    split
    · exact ih _ h.2
    · exact h
set_option maxRecDepth 4000 in
theorem SegC.fr {m m1 : Nat → Nat → Int32} {b : Nat} : ∀ {cs : List (Nat × Nat)} {o : Nat}, SegC m b o cs → (∀ k, k < o + cs.length → m1 (b + 1) k = m (b + 1) k ∧ m1 (b + 2) k = m (b + 2) k) → SegC m1 b o cs
  | [], _, _, _ => trivial
  | c :: cs, o, h, e => ⟨((e o (by simp only [List.length_cons]; omega)).1).trans h.1, fun h0 => ((e o (by simp only [List.length_cons]; omega)).2).trans (h.2.1 h0), SegC.fr h.2.2 (fun k hk => e k (by simp only [List.length_cons]; omega))⟩
def ClP (m : Nat → Nat → Int32) (b : Nat) : Nat → Nat → RT → Prop
  | _, _, [] => True
  | i, o, c :: cl => (m (b + 3) i = nI o ∧ m (b + 4) i = nI (o + c.1.length) ∧ m (b + 5) i = nI (o + c.1.length + c.2.length) ∧ SegC m b o c.1 ∧ SegC m b (o + c.1.length) c.2) ∧ ClP m b (i + 1) (o + c.1.length + c.2.length) cl
set_option maxRecDepth 4000 in
theorem ClP.fr {m m1 : Nat → Nat → Int32} {b : Nat} : ∀ {cl : RT} {i o : Nat}, ClP m b i o cl → (∀ k, k < o + lenR cl → m1 (b + 1) k = m (b + 1) k ∧ m1 (b + 2) k = m (b + 2) k) → (∀ j, j < i + cl.length → m1 (b + 3) j = m (b + 3) j ∧ m1 (b + 4) j = m (b + 4) j ∧ m1 (b + 5) j = m (b + 5) j) → ClP m1 b i o cl
  | [], _, _, _, _, _ => trivial
  | c :: cl, i, o, h, e, e2 => by
    obtain ⟨⟨h1, h2, h3, h4, h5⟩, h6⟩ := h
    obtain ⟨q1, q2, q3⟩ := e2 i (by simp only [List.length_cons]; omega)
    have hl : lenR (c :: cl) = c.1.length + c.2.length + lenR cl := rfl
    rw [hl] at e
    exact ⟨⟨q1.trans h1, q2.trans h2, q3.trans h3, h4.fr (fun k hk => e k (by omega)), h5.fr (fun k hk => e k (by omega))⟩, ClP.fr h6 (fun k hk => e k (by omega)) (fun j hj => e2 j (by simp only [List.length_cons]; omega))⟩
set_option maxRecDepth 4000 in
theorem ClP.app {m : Nat → Nat → Int32} {b : Nat} {c : List (Nat × Nat) × List (Nat × Nat)} : ∀ {cl : RT} {i o : Nat}, ClP m b i o cl → m (b + 3) (i + cl.length) = nI (o + lenR cl) → m (b + 4) (i + cl.length) = nI (o + lenR cl + c.1.length) → m (b + 5) (i + cl.length) = nI (o + lenR cl + c.1.length + c.2.length) → SegC m b (o + lenR cl) c.1 → SegC m b (o + lenR cl + c.1.length) c.2 → ClP m b i o (cl ++ [c])
  | [], _, _, _, h1, h2, h3, h4, h5 => ⟨⟨h1, h2, h3, h4, h5⟩, trivial⟩
  | d :: cl, i, o, h, h1, h2, h3, h4, h5 => by
    have hl : o + lenR (d :: cl) = o + d.1.length + d.2.length + lenR cl := by simp only [lenR]; omega
    have hi : i + (d :: cl).length = i + 1 + cl.length := by simp only [List.length_cons]; omega
    rw [hl] at h1 h2 h3 h4 h5
    rw [hi] at h1 h2 h3
    exact ⟨h.1, ClP.app h.2 h1 h2 h3 h4 h5⟩
set_option maxRecDepth 4000 in
theorem ClP.cl {m : Nat → Nat → Int32} {b : Nat} : ∀ {cl : RT} {i o : Nat}, ClP m b i o cl → (∀ c, c ∈ cl → WFc c) → o + lenR cl ≤ 400 → ClC m b i cl
  | [], _, _, _, _, _ => trivial
  | c :: cl, i, o, h, w, hl => by
    obtain ⟨⟨h1, h2, h3, h4, h5⟩, h6⟩ := h
    have hl2 : lenR (c :: cl) = c.1.length + c.2.length + lenR cl := rfl
    rw [hl2] at hl
    exact ⟨⟨o, h1, h2, h3, by omega, h4, h5⟩, w c (List.mem_cons_self ..), ClP.cl h6 (fun d hd => w d (List.mem_cons_of_mem _ hd)) (by omega)⟩
/-- in the midst of a clause -/
def Lv (nx : Nat) : Prop := nx % 4 ≠ 0
set_option maxRecDepth 4000 in
theorem lv1 : Lv 1 := by show 1 % 4 ≠ 0; omega
set_option maxRecDepth 4000 in
theorem lv2 : Lv 2 := by show 2 % 4 ≠ 0; omega
set_option maxRecDepth 4000 in
theorem lv3 : Lv 3 := by show 3 % 4 ≠ 0; omega
set_option maxRecDepth 4000 in
theorem lv0 {P : Prop} (h : Lv 0) : P := absurd (rfl : 0 % 4 = 0) h
set_option maxRecDepth 4000 in
theorem lv4 {P : Prop} (h : Lv 4) : P := absurd (rfl : 4 % 4 = 0) h
/-- the class's heap bears the machine's state -/
def CR (T : TT) (b : Nat) (m : Nat → Nat → Int32) : RG → Prop
  | (fa, a, nx, pt, st, it, cl, c1, cd) => TC T m ∧ m 1 3 = nI fa ∧ (fa = 0 → m 1 2 = nI a ∧ m 3 4 = nI nx ∧ (Lv nx → m 3 5 = nI pt) ∧ (m 3 1 = nI st.length ∧ StC (m 4) st) ∧ m 3 2 = nI (dp st) ∧ m 3 3 = nI it ∧ m b 2 = nI (lenR cl + c1.length + cd.length) ∧ m b 3 = nI cl.length ∧ ClP m b 0 0 cl ∧ SegC m b (lenR cl) c1 ∧ SegC m b (lenR cl + c1.length) cd ∧ (Lv nx → m 3 6 = nI (lenR cl)) ∧ (nx = 2 ∨ (Lv nx ∧ pt ≠ 0) → m 3 7 = nI (lenR cl + c1.length)))
def FrC (b : Nat) (m m1 : Nat → Nat → Int32) : Prop := (∀ j, j ≠ 1 → j ≠ 3 → j ≠ 4 → j < b ∨ b + 6 ≤ j → m1 j = m j) ∧ m1 1 1 = m 1 1
set_option maxRecDepth 4000 in
theorem FrC.rf {b : Nat} {m : Nat → Nat → Int32} : FrC b m m := ⟨fun _ _ _ _ _ => rfl, rfl⟩
set_option maxRecDepth 4000 in
theorem FrC.trans {b : Nat} {m m1 m2 : Nat → Nat → Int32} (h : FrC b m m1) (h2 : FrC b m1 m2) : FrC b m m2 := ⟨fun j a1 a2 a3 a4 => (h2.1 j a1 a2 a3 a4).trans (h.1 j a1 a2 a3 a4), h2.2.trans h.2⟩
set_option maxRecDepth 4000 in
theorem FrC.tg {b : Nat} {m m1 m2 : Nat → Nat → Int32} (h : FrC b m m1) (h2 : TG m1 m2) : FrC b m m2 := ⟨fun j a1 a2 a3 a4 => (h2.1 j a1).trans (h.1 j a1 a2 a3 a4), h2.2.trans h.2⟩
set_option maxRecDepth 4000 in
theorem FrC.up {b : Nat} {m m1 : Nat → Nat → Int32} {a k : Nat} {v : Int32} (h : FrC b m m1) (h1 : (a = 1 ∧ k ≠ 1) ∨ a = 3 ∨ a = 4 ∨ (b ≤ a ∧ a < b + 6 ∧ a ≠ 1)) : FrC b m (mk_u2 m1 a k v) := ⟨fun j a1 a2 a3 a4 => (mk_u2_ne (by omega)).trans (h.1 j a1 a2 a3 a4), by
  rcases h1 with h1 | h1
  · rw [u2_b (by omega)]; exact h.2
  · rw [u2_a (by omega)]; exact h.2⟩
set_option maxRecDepth 4000 in
theorem TC.fc {T : TT} {b : Nat} {m m1 : Nat → Nat → Int32} (hb : 220 ≤ b) (h : TC T m) (e : FrC b m m1) : TC T m1 := ⟨e.2.trans h.1, h.2.1, fun i hi => by rw [e.1 2 (by omega) (by omega) (by omega) (by omega)]; exact h.2.2 i hi⟩
set_option maxRecDepth 4000 in
theorem addR {m : Nat → Nat → Int32} {q : Nat → Nat → Int64} {b n : Nat} {x y : Int32} (hb : b ∈ RB) (h2 : m b 2 = nI n) (hn : n < 400) : F_X5_add b x y (KS, m, q) = some ((), (KS, mk_u2 (mk_u2 (mk_u2 m (b + 1) n x) (b + 2) n y) b 2 (nI (n + 1)), q)) := by
  unfold F_X5_add
  simp (disch := omega) only [rb_gd hb, rb_g hb, rb_st hb, rb_pi hb, ob_some, lit, le_F, reduceIte, h2, nI_add, u2_s, u2_a, u2_b]
/-! releasing -/
def RF (b n : Nat) (m m1 : Nat → Nat → Int32) : Prop := (∀ j, j ≠ 3 → j ≠ b → j ≠ b + 1 → j ≠ b + 2 → m1 j = m j) ∧ (∀ k, k ≠ 1 → k ≠ 2 → m1 3 k = m 3 k) ∧ (∀ k, k ≠ 2 → m1 b k = m b k) ∧ (∀ k, k < n → m1 (b + 1) k = m (b + 1) k ∧ m1 (b + 2) k = m (b + 2) k)
set_option maxRecDepth 4000 in
theorem RF.rf {b n : Nat} {m : Nat → Nat → Int32} : RF b n m m := ⟨fun _ _ _ _ _ => rfl, fun _ _ _ => rfl, fun _ _ => rfl, fun _ _ => ⟨rfl, rfl⟩⟩
set_option maxRecDepth 4000 in
theorem RF.trans {b n n1 : Nat} {m m1 m2 : Nat → Nat → Int32} (h : RF b n m m1) (h2 : RF b n1 m1 m2) (hn : n ≤ n1) : RF b n m m2 := ⟨fun j a1 a2 a3 a4 => (h2.1 j a1 a2 a3 a4).trans (h.1 j a1 a2 a3 a4), fun k a1 a2 => (h2.2.1 k a1 a2).trans (h.2.1 k a1 a2), fun k a1 => (h2.2.2.1 k a1).trans (h.2.2.1 k a1), fun k hk => ⟨(h2.2.2.2 k (by omega)).1.trans (h.2.2.2 k hk).1, (h2.2.2.2 k (by omega)).2.trans (h.2.2.2 k hk).2⟩⟩
set_option maxRecDepth 4000 in
theorem relL {b lv o : Nat} {q : Nat → Nat → Int64} (hb : b ∈ RB) (hlv : 1 ≤ lv) (hlv6 : lv ≤ 6) : ∀ (st : List Nat) (f : Nat) (m : Nat → Nat → Int32) (cd : List (Nat × Nat)), st.length < f → m 3 1 = nI st.length → StC (m 4) st → m 3 2 = nI (dp st) → m b 2 = nI (o + cd.length) → SegC m b o cd → o + cd.length + st.length ≤ 400 → (∀ s, s ∈ st → s = 91 ∨ 1 ≤ bd s) → ∃ m1, B_X6_release_0 f 3 (nI lv) b (KS, m, q) = some ((), (KS, m1, q)) ∧ RF b (o + cd.length) m m1 ∧ m1 3 1 = nI (rl lv st cd).1.length ∧ m1 3 2 = nI (dp (rl lv st cd).1) ∧ m1 b 2 = nI (o + (rl lv st cd).2.length) ∧ SegC m1 b o (rl lv st cd).2 := by
  have hbl := rb_lt hb
  intro st
  induction st with
  | nil =>
    intro f m cd hf h1 hS h2 hn hc hl hm
    obtain ⟨f, rfl⟩ : ∃ g, f = g + 1 := ⟨f - 1, by omega⟩
    refine ⟨m, ?_, RF.rf, h1, h2, hn, hc⟩
    have h1 : m 3 1 = nI 0 := h1
    rw [B_X6_release_0]
    simp (disch := omega) only [ob_some, reduceIte, lit, le_T, le_F, lt_T, lt_F, eq_T, eq_F, nI_add, gac_0_0, gac_0_1, gac_0_2, gac_0_3, gac_0_4, gac_0_5, gac_0_6, gac_1_0, gic_1_1, gic_1_2, gic_1_3, gic_1_4, gic_1_5, gic_1_6, gac_3_0, gic_3_1, gic_3_2, gic_3_3, gic_3_4, gic_3_5, gic_3_6, gic_3_7, gic_5_0, gic_5_1, gic_5_2, gic_5_3, gic_5_4, gac_5_5, gac_5_6, gac_5_7, gac_5_8, gac_5_9, gac_5_10, gac_5_11, gac_13_0, gac_13_1, gic_13_2, gac_13_3, gac_13_4, gac_13_5, gac_13_6, gac_13_7, gac_13_8, gac_13_9, gic_13_10, gic_13_11, gic_13_12, gic_13_13, gac_14_0, gac_14_1, gac_14_2, gac_14_3, gic_14_4, gic_14_5, gic_15_0, gic_15_1, gic_15_2, gic_15_3, gic_15_4, gac_15_5, gac_15_6, gac_15_7, gac_15_8, gac_15_9, gac_15_10, gac_15_11, gac_23_0, gac_23_1, gac_23_2, gac_23_3, gac_23_4, gac_23_5, gac_23_6, gic_23_7, gic_23_8, gac_31_0, gic_31_1, gic_31_2, gac_193_0, gac_193_1, gac_193_2, gic_193_3, gac_198_0, gac_200_0, gac_200_1, gac_200_2, gac_200_3, gac_200_4, gac_200_5, gac_200_6, gic_200_7, gic_200_8, pic_1_1, pic_1_2, pic_1_3, pic_1_4, pic_1_5, pic_1_6, pic_3_1, pic_3_2, pic_3_3, pic_3_4, pic_3_5, pic_3_6, pic_3_7, pic_5_0, pic_5_1, pic_5_2, pic_5_3, pic_5_4, pic_13_2, pic_13_10, pic_13_11, pic_13_12, pic_13_13, pic_14_4, pic_14_5, pic_15_0, pic_15_1, pic_15_2, pic_15_3, pic_15_4, pic_23_7, pic_23_8, pic_31_1, pic_31_2, pic_193_3, pic_200_7, pic_200_8, gdc_0, gdc_1, gdc_3, gdc_5, gdc_13, gdc_14, gdc_15, gdc_23, gdc_31, gdc_193, gdc_198, gdc_200, ldc_2, stc_2, ldc_4, stc_4, ldc_6, stc_6, ldc_7, stc_7, ldc_8, stc_8, ldc_9, stc_9, ldc_10, stc_10, ldc_11, stc_11, ldc_12, stc_12, ldc_16, stc_16, ldc_17, stc_17, ldc_18, stc_18, ldc_19, stc_19, ldc_20, stc_20, ldc_21, stc_21, ldc_22, stc_22, ldc_24, stc_24, ldc_25, stc_25, ldc_26, stc_26, ldc_27, stc_27, ldc_28, stc_28, ldc_29, stc_29, ldc_30, stc_30, ldc_194, stc_194, ldc_195, stc_195, ldc_196, stc_196, ldc_199, stc_199, ldc_201, stc_201, ldc_202, stc_202, ldc_203, stc_203, ldc_204, stc_204, ldc_205, stc_205, ldc_206, stc_206, ldc_207, stc_207, ldc_208, stc_208, ldc_209, stc_209, ldc_210, stc_210, ldc_211, stc_211, ldc_213, stc_213, ldc_214, stc_214, ldc_215, stc_215, ldc_216, stc_216, ldc_217, stc_217, ldc_218, stc_218, ldc_219, stc_219, ldc_263, stc_263, lda_197, lda_262, lda_212, lda_32, u2_s, u2_a, u2_b, h1]
  | cons s st ih =>
    intro f m cd hf h1 hS h2 hn hc hl hm
    obtain ⟨f, rfl⟩ : ∃ g, f = g + 1 := ⟨f - 1, by omega⟩
    obtain ⟨hs, hS⟩ := hS
    simp only [List.length_cons] at h1 hf hl
    have hs1000 : s < 1000 := by
      rcases hm s (List.mem_cons_self ..) with h | h
      · omega
      · exact (sgn_en h).2.2.2.1
    have hbn := bindC (s := s) (by omega) (KS, m, q)
    rw [sI_n (by omega)] at hbn
    have hbd := bd_le s
    have hsub : nI (st.length + 1) - nI 1 = nI st.length := pk_sub (by omega)
    unfold rl
    by_cases c : lv ≤ bd s
    · rw [if_pos c]
      obtain ⟨k1, k2, k3, -, k91⟩ := sgn_en (s := s) (by omega)
      have hdp : dp (s :: st) = dp st + (if s = 315 then 1 else 0) := by
        simp only [dp]
        by_cases z : s = 315
        · rw [if_pos (.inr z), if_pos z]
        · rw [if_neg (by omega), if_neg z]
      have had : ∀ m, m b 2 = nI (o + cd.length) → F_X5_add b (nI s) (nI 0) (KS, m, q) = some ((), (KS, mk_u2 (mk_u2 (mk_u2 m (b + 1) (o + cd.length) (nI s)) (b + 2) (o + cd.length) (nI 0)) b 2 (nI (o + cd.length + 1)), q)) := fun m h => addR hb h (by omega)
      have had1 := had (mk_u2 m 3 1 (nI st.length)) (by rw [u2_a (by omega)]; exact hn)
      have hd : (mk_u2 (mk_u2 (mk_u2 (mk_u2 m 3 1 (nI st.length)) (b + 1) (o + cd.length) (nI s)) (b + 2) (o + cd.length) (nI 0)) b 2 (nI (o + cd.length + 1))) 3 2 = nI (dp (s :: st)) := by
        rw [u2_a (by omega), u2_a (by omega), u2_a (by omega), u2_b (by omega)]; exact h2
      have key : ∀ v, v = nI (dp st) → ∃ m1, B_X6_release_0 f 3 (nI lv) b (KS, mk_u2 (mk_u2 (mk_u2 (mk_u2 (mk_u2 m 3 1 (nI st.length)) (b + 1) (o + cd.length) (nI s)) (b + 2) (o + cd.length) (nI 0)) b 2 (nI (o + cd.length + 1))) 3 2 v, q) = some ((), (KS, m1, q)) ∧ RF b (o + cd.length) m m1 ∧ m1 3 1 = nI (rl lv st (cd ++ [en s])).1.length ∧ m1 3 2 = nI (dp (rl lv st (cd ++ [en s])).1) ∧ m1 b 2 = nI (o + (rl lv st (cd ++ [en s])).2.length) ∧ SegC m1 b o (rl lv st (cd ++ [en s])).2 := by
        rintro v rfl
        have hlen : (cd ++ [en s]).length = cd.length + 1 := by simp only [List.length_append, List.length_cons, List.length_nil]
        obtain ⟨m1, a1, a2, a3, a4, a5, a6⟩ := ih f (mk_u2 (mk_u2 (mk_u2 (mk_u2 (mk_u2 m 3 1 (nI st.length)) (b + 1) (o + cd.length) (nI s)) (b + 2) (o + cd.length) (nI 0)) b 2 (nI (o + cd.length + 1))) 3 2 (nI (dp st))) (cd ++ [en s]) (by omega) (by simp (disch := omega) only [u2_s, u2_a, u2_b]) (by
          refine hS.congr (fun k _ => ?_)
          simp (disch := omega) only [u2_s, u2_a, u2_b]) u2_s (by rw [u2_a (by omega), u2_s, hlen]; rfl) (by
          refine SegC.app (SegC.fr (m := m) hc (fun k hk => ?_)) ?_ (fun h => absurd h k2)
          · simp (disch := omega) only [u2_s, u2_a, u2_b]
            exact ⟨trivial, trivial⟩
          · simp (disch := omega) only [u2_s, u2_a, u2_b]
            rw [k1]) (by rw [hlen]; omega) (fun x hx => hm x (List.mem_cons_of_mem _ hx))
        refine ⟨m1, a1, RF.trans (n1 := o + (cd ++ [en s]).length) ⟨fun j b1 b2 b3 b4 => ?_, fun k b1 b2 => ?_, fun k b1 => ?_, fun k hk => ?_⟩ a2 (by rw [hlen]; omega), a3, a4, a5, a6⟩
        · simp (disch := omega) only [mk_u2_ne]
        · simp (disch := omega) only [u2_s, u2_a, u2_b]
        · simp (disch := omega) only [u2_s, u2_a, u2_b]
        · simp (disch := omega) only [u2_s, u2_a, u2_b]
          exact ⟨trivial, trivial⟩
      rw [hdp] at h2 hd
      by_cases z : s = 315
      · subst z
        rw [if_pos rfl] at h2
        have hsub2 : nI (dp st + 1) - nI 1 = nI (dp st) := pk_sub (by omega)
        obtain ⟨m1, a1, a2⟩ := key _ hsub2
        refine ⟨m1, ?_, a2⟩
        rw [← a1, B_X6_release_0]
        simp (disch := omega) only [ob_some, reduceIte, lit, le_T, le_F, lt_T, lt_F, eq_T, eq_F, nI_add, gac_0_0, gac_0_1, gac_0_2, gac_0_3, gac_0_4, gac_0_5, gac_0_6, gac_1_0, gic_1_1, gic_1_2, gic_1_3, gic_1_4, gic_1_5, gic_1_6, gac_3_0, gic_3_1, gic_3_2, gic_3_3, gic_3_4, gic_3_5, gic_3_6, gic_3_7, gic_5_0, gic_5_1, gic_5_2, gic_5_3, gic_5_4, gac_5_5, gac_5_6, gac_5_7, gac_5_8, gac_5_9, gac_5_10, gac_5_11, gac_13_0, gac_13_1, gic_13_2, gac_13_3, gac_13_4, gac_13_5, gac_13_6, gac_13_7, gac_13_8, gac_13_9, gic_13_10, gic_13_11, gic_13_12, gic_13_13, gac_14_0, gac_14_1, gac_14_2, gac_14_3, gic_14_4, gic_14_5, gic_15_0, gic_15_1, gic_15_2, gic_15_3, gic_15_4, gac_15_5, gac_15_6, gac_15_7, gac_15_8, gac_15_9, gac_15_10, gac_15_11, gac_23_0, gac_23_1, gac_23_2, gac_23_3, gac_23_4, gac_23_5, gac_23_6, gic_23_7, gic_23_8, gac_31_0, gic_31_1, gic_31_2, gac_193_0, gac_193_1, gac_193_2, gic_193_3, gac_198_0, gac_200_0, gac_200_1, gac_200_2, gac_200_3, gac_200_4, gac_200_5, gac_200_6, gic_200_7, gic_200_8, pic_1_1, pic_1_2, pic_1_3, pic_1_4, pic_1_5, pic_1_6, pic_3_1, pic_3_2, pic_3_3, pic_3_4, pic_3_5, pic_3_6, pic_3_7, pic_5_0, pic_5_1, pic_5_2, pic_5_3, pic_5_4, pic_13_2, pic_13_10, pic_13_11, pic_13_12, pic_13_13, pic_14_4, pic_14_5, pic_15_0, pic_15_1, pic_15_2, pic_15_3, pic_15_4, pic_23_7, pic_23_8, pic_31_1, pic_31_2, pic_193_3, pic_200_7, pic_200_8, gdc_0, gdc_1, gdc_3, gdc_5, gdc_13, gdc_14, gdc_15, gdc_23, gdc_31, gdc_193, gdc_198, gdc_200, ldc_2, stc_2, ldc_4, stc_4, ldc_6, stc_6, ldc_7, stc_7, ldc_8, stc_8, ldc_9, stc_9, ldc_10, stc_10, ldc_11, stc_11, ldc_12, stc_12, ldc_16, stc_16, ldc_17, stc_17, ldc_18, stc_18, ldc_19, stc_19, ldc_20, stc_20, ldc_21, stc_21, ldc_22, stc_22, ldc_24, stc_24, ldc_25, stc_25, ldc_26, stc_26, ldc_27, stc_27, ldc_28, stc_28, ldc_29, stc_29, ldc_30, stc_30, ldc_194, stc_194, ldc_195, stc_195, ldc_196, stc_196, ldc_199, stc_199, ldc_201, stc_201, ldc_202, stc_202, ldc_203, stc_203, ldc_204, stc_204, ldc_205, stc_205, ldc_206, stc_206, ldc_207, stc_207, ldc_208, stc_208, ldc_209, stc_209, ldc_210, stc_210, ldc_211, stc_211, ldc_213, stc_213, ldc_214, stc_214, ldc_215, stc_215, ldc_216, stc_216, ldc_217, stc_217, ldc_218, stc_218, ldc_219, stc_219, ldc_263, stc_263, lda_197, lda_262, lda_212, lda_32, u2_s, u2_a, u2_b, h1, h2, hsub, hs, hbn, had1, B_X6_release_74]
      · rw [if_neg z] at h2
        have hsub2 : nI (dp st + 0) - nI 0 = nI (dp st) := pk_sub (by omega)
        obtain ⟨m1, a1, a2⟩ := key _ hsub2
        refine ⟨m1, ?_, a2⟩
        rw [← a1, B_X6_release_0]
        simp (disch := omega) only [ob_some, reduceIte, lit, le_T, le_F, lt_T, lt_F, eq_T, eq_F, nI_add, gac_0_0, gac_0_1, gac_0_2, gac_0_3, gac_0_4, gac_0_5, gac_0_6, gac_1_0, gic_1_1, gic_1_2, gic_1_3, gic_1_4, gic_1_5, gic_1_6, gac_3_0, gic_3_1, gic_3_2, gic_3_3, gic_3_4, gic_3_5, gic_3_6, gic_3_7, gic_5_0, gic_5_1, gic_5_2, gic_5_3, gic_5_4, gac_5_5, gac_5_6, gac_5_7, gac_5_8, gac_5_9, gac_5_10, gac_5_11, gac_13_0, gac_13_1, gic_13_2, gac_13_3, gac_13_4, gac_13_5, gac_13_6, gac_13_7, gac_13_8, gac_13_9, gic_13_10, gic_13_11, gic_13_12, gic_13_13, gac_14_0, gac_14_1, gac_14_2, gac_14_3, gic_14_4, gic_14_5, gic_15_0, gic_15_1, gic_15_2, gic_15_3, gic_15_4, gac_15_5, gac_15_6, gac_15_7, gac_15_8, gac_15_9, gac_15_10, gac_15_11, gac_23_0, gac_23_1, gac_23_2, gac_23_3, gac_23_4, gac_23_5, gac_23_6, gic_23_7, gic_23_8, gac_31_0, gic_31_1, gic_31_2, gac_193_0, gac_193_1, gac_193_2, gic_193_3, gac_198_0, gac_200_0, gac_200_1, gac_200_2, gac_200_3, gac_200_4, gac_200_5, gac_200_6, gic_200_7, gic_200_8, pic_1_1, pic_1_2, pic_1_3, pic_1_4, pic_1_5, pic_1_6, pic_3_1, pic_3_2, pic_3_3, pic_3_4, pic_3_5, pic_3_6, pic_3_7, pic_5_0, pic_5_1, pic_5_2, pic_5_3, pic_5_4, pic_13_2, pic_13_10, pic_13_11, pic_13_12, pic_13_13, pic_14_4, pic_14_5, pic_15_0, pic_15_1, pic_15_2, pic_15_3, pic_15_4, pic_23_7, pic_23_8, pic_31_1, pic_31_2, pic_193_3, pic_200_7, pic_200_8, gdc_0, gdc_1, gdc_3, gdc_5, gdc_13, gdc_14, gdc_15, gdc_23, gdc_31, gdc_193, gdc_198, gdc_200, ldc_2, stc_2, ldc_4, stc_4, ldc_6, stc_6, ldc_7, stc_7, ldc_8, stc_8, ldc_9, stc_9, ldc_10, stc_10, ldc_11, stc_11, ldc_12, stc_12, ldc_16, stc_16, ldc_17, stc_17, ldc_18, stc_18, ldc_19, stc_19, ldc_20, stc_20, ldc_21, stc_21, ldc_22, stc_22, ldc_24, stc_24, ldc_25, stc_25, ldc_26, stc_26, ldc_27, stc_27, ldc_28, stc_28, ldc_29, stc_29, ldc_30, stc_30, ldc_194, stc_194, ldc_195, stc_195, ldc_196, stc_196, ldc_199, stc_199, ldc_201, stc_201, ldc_202, stc_202, ldc_203, stc_203, ldc_204, stc_204, ldc_205, stc_205, ldc_206, stc_206, ldc_207, stc_207, ldc_208, stc_208, ldc_209, stc_209, ldc_210, stc_210, ldc_211, stc_211, ldc_213, stc_213, ldc_214, stc_214, ldc_215, stc_215, ldc_216, stc_216, ldc_217, stc_217, ldc_218, stc_218, ldc_219, stc_219, ldc_263, stc_263, lda_197, lda_262, lda_212, lda_32, u2_s, u2_a, u2_b, h1, h2, hsub, hs, hbn, had1, B_X6_release_74]
    · rw [if_neg c]
      refine ⟨m, ?_, RF.rf, h1, h2, hn, hc⟩
      rw [B_X6_release_0]
      simp (disch := omega) only [ob_some, reduceIte, lit, le_T, le_F, lt_T, lt_F, eq_T, eq_F, nI_add, gac_0_0, gac_0_1, gac_0_2, gac_0_3, gac_0_4, gac_0_5, gac_0_6, gac_1_0, gic_1_1, gic_1_2, gic_1_3, gic_1_4, gic_1_5, gic_1_6, gac_3_0, gic_3_1, gic_3_2, gic_3_3, gic_3_4, gic_3_5, gic_3_6, gic_3_7, gic_5_0, gic_5_1, gic_5_2, gic_5_3, gic_5_4, gac_5_5, gac_5_6, gac_5_7, gac_5_8, gac_5_9, gac_5_10, gac_5_11, gac_13_0, gac_13_1, gic_13_2, gac_13_3, gac_13_4, gac_13_5, gac_13_6, gac_13_7, gac_13_8, gac_13_9, gic_13_10, gic_13_11, gic_13_12, gic_13_13, gac_14_0, gac_14_1, gac_14_2, gac_14_3, gic_14_4, gic_14_5, gic_15_0, gic_15_1, gic_15_2, gic_15_3, gic_15_4, gac_15_5, gac_15_6, gac_15_7, gac_15_8, gac_15_9, gac_15_10, gac_15_11, gac_23_0, gac_23_1, gac_23_2, gac_23_3, gac_23_4, gac_23_5, gac_23_6, gic_23_7, gic_23_8, gac_31_0, gic_31_1, gic_31_2, gac_193_0, gac_193_1, gac_193_2, gic_193_3, gac_198_0, gac_200_0, gac_200_1, gac_200_2, gac_200_3, gac_200_4, gac_200_5, gac_200_6, gic_200_7, gic_200_8, pic_1_1, pic_1_2, pic_1_3, pic_1_4, pic_1_5, pic_1_6, pic_3_1, pic_3_2, pic_3_3, pic_3_4, pic_3_5, pic_3_6, pic_3_7, pic_5_0, pic_5_1, pic_5_2, pic_5_3, pic_5_4, pic_13_2, pic_13_10, pic_13_11, pic_13_12, pic_13_13, pic_14_4, pic_14_5, pic_15_0, pic_15_1, pic_15_2, pic_15_3, pic_15_4, pic_23_7, pic_23_8, pic_31_1, pic_31_2, pic_193_3, pic_200_7, pic_200_8, gdc_0, gdc_1, gdc_3, gdc_5, gdc_13, gdc_14, gdc_15, gdc_23, gdc_31, gdc_193, gdc_198, gdc_200, ldc_2, stc_2, ldc_4, stc_4, ldc_6, stc_6, ldc_7, stc_7, ldc_8, stc_8, ldc_9, stc_9, ldc_10, stc_10, ldc_11, stc_11, ldc_12, stc_12, ldc_16, stc_16, ldc_17, stc_17, ldc_18, stc_18, ldc_19, stc_19, ldc_20, stc_20, ldc_21, stc_21, ldc_22, stc_22, ldc_24, stc_24, ldc_25, stc_25, ldc_26, stc_26, ldc_27, stc_27, ldc_28, stc_28, ldc_29, stc_29, ldc_30, stc_30, ldc_194, stc_194, ldc_195, stc_195, ldc_196, stc_196, ldc_199, stc_199, ldc_201, stc_201, ldc_202, stc_202, ldc_203, stc_203, ldc_204, stc_204, ldc_205, stc_205, ldc_206, stc_206, ldc_207, stc_207, ldc_208, stc_208, ldc_209, stc_209, ldc_210, stc_210, ldc_211, stc_211, ldc_213, stc_213, ldc_214, stc_214, ldc_215, stc_215, ldc_216, stc_216, ldc_217, stc_217, ldc_218, stc_218, ldc_219, stc_219, ldc_263, stc_263, lda_197, lda_262, lda_212, lda_32, u2_s, u2_a, u2_b, h1, hsub, hs, hbn]
