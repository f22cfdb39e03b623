/-! RULES told: the reference; clauses -/
set_option maxRecDepth 4000 in
theorem MB.z {T : TT} {r o : Nat} {m m1 : Nat → Nat → Int32} {p : Nat} {es : List (Nat × Nat)} {it : Nat} (h : MB T r o m p es it) (e0 : m1 996 = m 996) (e1 : m1 1023 = m 1023) (e2 : m1 1024 = m 1024) (e3 : m1 1025 = m 1025) : MB T r o m1 p es it := by
  obtain ⟨h1, h2, h3, h4, h5, h6, h7, h8, h9⟩ := h
  exact ⟨h1.eq (by rw [e0]) e1, by rw [e0]; exact h2, h3, by rw [e0]; exact h4, by rw [e0]; exact h5, by rw [e0]; exact h6, by rw [e0]; exact h7, by rw [e0]; exact h8, h9.fr (fun k _ => by rw [e2, e3]; exact ⟨rfl, rfl⟩)⟩
set_option maxRecDepth 4000 in
theorem DD.z {T : TT} {r : Nat} {m m1 : Nat → Nat → Int32} {f : Nat} (h : DD T r m f) (e0 : m1 996 = m 996) (e1 : m1 1023 = m 1023) : DD T r m1 f := by
  obtain ⟨h1, h2, h3, h4, ⟨p, h5, h55⟩, h6, h7⟩ := h
  exact ⟨h1.eq (by rw [e0]) e1, by rw [e0]; exact h2, h3, h4, ⟨p, h5, by rw [e0]; exact h55⟩, by rw [e0]; exact h6, by rw [e0]; exact h7⟩
def ClQ (m : Nat → Nat → Int32) (r : Nat) : Nat → Nat → RT → Prop
  | _, _, [] => True
  | i, o, c :: cl => (m 1027 (12 * r + i) = nI o ∧ m 1028 (12 * r + i) = nI (o + c.1.length) ∧ m 1029 (12 * r + i) = nI (o + c.1.length + c.2.length) ∧ SegM m r o c.1 ∧ SegM m r (o + c.1.length) c.2) ∧ ClQ m r (i + 1) (o + c.1.length + c.2.length) cl
set_option maxRecDepth 4000 in
theorem ClQ.fr {m m1 : Nat → Nat → Int32} {r : Nat} : ∀ {cl : RT} {i o : Nat}, ClQ m r i o cl → (∀ k, k < 300 * r + (o + lenR cl) → m1 1024 k = m 1024 k ∧ m1 1025 k = m 1025 k) → (∀ j, j < 12 * r + (i + cl.length) → m1 1027 j = m 1027 j ∧ m1 1028 j = m 1028 j ∧ m1 1029 j = m 1029 j) → ClQ m1 r i o cl
  | [], _, _, _, _, _ => trivial
  | c :: cl, i, o, h, e, e2 => by
    obtain ⟨⟨h1, h2, h3, h4, h5⟩, h6⟩ := h
    obtain ⟨q1, q2, q3⟩ := e2 (12 * r + i) (by simp only [List.length_cons]; omega)
    have hl : lenR (c :: cl) = c.1.length + c.2.length + lenR cl := rfl
    rw [hl] at e
    exact ⟨⟨q1.trans h1, q2.trans h2, q3.trans h3, h4.fr (fun k hk => e k (by omega)), h5.fr (fun k hk => e k (by omega))⟩, ClQ.fr h6 (fun k hk => e k (by omega)) (fun j hj => e2 j (by simp only [List.length_cons]; omega))⟩
set_option maxRecDepth 4000 in
theorem ClQ.app {m : Nat → Nat → Int32} {r : Nat} {c : List (Nat × Nat) × List (Nat × Nat)} : ∀ {cl : RT} {i o : Nat}, ClQ m r i o cl → m 1027 (12 * r + (i + cl.length)) = nI (o + lenR cl) → m 1028 (12 * r + (i + cl.length)) = nI (o + lenR cl + c.1.length) → m 1029 (12 * r + (i + cl.length)) = nI (o + lenR cl + c.1.length + c.2.length) → SegM m r (o + lenR cl) c.1 → SegM m r (o + lenR cl + c.1.length) c.2 → ClQ m r i o (cl ++ [c])
  | [], _, _, _, h1, h2, h3, h4, h5 => ⟨⟨h1, h2, h3, h4, h5⟩, trivial⟩
  | d :: cl, i, o, h, h1, h2, h3, h4, h5 => by
    have hl : o + lenR (d :: cl) = o + d.1.length + d.2.length + lenR cl := by simp only [lenR]; omega
    have hi : i + (d :: cl).length = i + 1 + cl.length := by simp only [List.length_cons]; omega
    rw [hl] at h1 h2 h3 h4 h5
    rw [hi] at h1 h2 h3
    exact ⟨h.1, ClQ.app h.2 h1 h2 h3 h4 h5⟩
set_option maxRecDepth 4000 in
theorem ClQ.cl {m : Nat → Nat → Int32} {r : Nat} : ∀ {cl : RT} {i o : Nat}, ClQ m r i o cl → (∀ c, c ∈ cl → WFc c) → o + lenR cl ≤ 300 → ClM m r i cl
  | [], _, _, _, _, _ => trivial
  | c :: cl, i, o, h, w, hl => by
    obtain ⟨⟨h1, h2, h3, h4, h5⟩, h6⟩ := h
    have hl2 : lenR (c :: cl) = c.1.length + c.2.length + lenR cl := rfl
    rw [hl2] at hl
    exact ⟨⟨o, h1, h2, h3, by omega, h4, h5⟩, w c (List.mem_cons_self ..), ClQ.cl h6 (fun d hd => w d (List.mem_cons_of_mem _ hd)) (by omega)⟩
def FrU (r : Nat) (m m1 : Nat → Nat → Int32) : Prop := (∀ j, j ≠ 996 → j < 1024 ∨ j = 1026 ∨ 1030 < j → m1 j = m j) ∧ (∀ k, k < 28 ∨ k = 30 ∨ k = 31 ∨ 35 < k → m1 996 k = m 996 k) ∧ (∀ k, k < 300 * r → m1 1024 k = m 1024 k ∧ m1 1025 k = m 1025 k) ∧ (∀ k, k < 12 * r → m1 1027 k = m 1027 k ∧ m1 1028 k = m 1028 k ∧ m1 1029 k = m 1029 k)
set_option maxRecDepth 4000 in
theorem FrU.rf {r : Nat} {m : Nat → Nat → Int32} : FrU r m m := ⟨fun _ _ _ => rfl, fun _ _ => rfl, fun _ _ => ⟨rfl, rfl⟩, fun _ _ => ⟨rfl, rfl, rfl⟩⟩
set_option maxRecDepth 4000 in
theorem FrU.trans {r : Nat} {m m1 m2 : Nat → Nat → Int32} (h : FrU r m m1) (h2 : FrU r m1 m2) : FrU r m m2 := ⟨fun j a1 a2 => (h2.1 j a1 a2).trans (h.1 j a1 a2), fun k a1 => (h2.2.1 k a1).trans (h.2.1 k a1), fun k hk => ⟨(h2.2.2.1 k hk).1.trans (h.2.2.1 k hk).1, (h2.2.2.1 k hk).2.trans (h.2.2.1 k hk).2⟩, fun k hk => ⟨(h2.2.2.2 k hk).1.trans (h.2.2.2 k hk).1, (h2.2.2.2 k hk).2.1.trans (h.2.2.2 k hk).2.1, (h2.2.2.2 k hk).2.2.trans (h.2.2.2 k hk).2.2⟩⟩
set_option maxRecDepth 4000 in
theorem FrT.u {r o : Nat} {m m1 : Nat → Nat → Int32} (h : FrT r o m m1) : FrU r m m1 := ⟨fun j a1 a2 => h.1 j a1 (by omega) (by omega) (by omega), h.2.1, fun k hk => h.2.2 k (by omega), fun k _ => by rw [h.1 1027 (by omega) (by omega) (by omega) (by omega), h.1 1028 (by omega) (by omega) (by omega) (by omega), h.1 1029 (by omega) (by omega) (by omega) (by omega)]; exact ⟨rfl, rfl, rfl⟩⟩
set_option maxRecDepth 4000 in
theorem FrU.up {r k : Nat} {m m1 : Nat → Nat → Int32} {v : Int32} (h : FrU r m m1) (hk : k = 28 ∨ k = 29 ∨ k = 32 ∨ k = 33 ∨ k = 34 ∨ k = 35) : FrU r m (mk_u2 m1 996 k v) := h.trans (FrT.u (o := 0) (FrT.rf.up hk))
set_option maxRecDepth 4000 in
theorem FrU.upc {r a k : Nat} {m m1 : Nat → Nat → Int32} {v : Int32} (h : FrU r m m1) (ha : a = 1027 ∨ a = 1028 ∨ a = 1029) (hk : 12 * r ≤ k) : FrU r m (mk_u2 m1 a k v) := by
  refine h.trans ⟨fun j a1 a2 => mk_u2_ne (by omega), fun k' _ => u2_a (by omega), fun k' _ => ⟨u2_a (by omega), u2_a (by omega)⟩, fun k' hk' => ⟨u2_b (by omega), u2_b (by omega), u2_b (by omega)⟩⟩
/-- a clause may come -/
def MC (T : TT) (r : Nat) (m : Nat → Nat → Int32) (x : RG) (cl : RT) : Prop := ∃ a pt it p, x = (0, a, 0, pt, [], it, cl, [], []) ∧ MB T r (lenR cl) m p [] it ∧ sp isB T p = sp isB T a ∧ m 996 33 = nI 0 ∧ ClQ m r 0 0 cl ∧ (∀ c, c ∈ cl → WFc c) ∧ Gv T x
/-- a clause has come -/
def CE (T : TT) (r : Nat) (m : Nat → Nat → Int32) (x : RG) (cl : RT) : Prop := ∃ a pt S it c1 cd o es c, x = (0, a, 3, pt, S, it, cl, c1, cd) ∧ rl 1 S cd = ([], es) ∧ MB T r o m (sp isB T a) es it ∧ pt ≠ 1 ∧ ¬ (5 ≤ bd (sgn1 T (sp isB T a)) ∧ pt ≠ 3) ∧ ¬ ((sgn1 T (sp isB T a) = 313 ∨ sgn1 T (sp isB T a) = 314) ∧ 2 ≤ pt) ∧ ¬ (sgn1 T (sp isB T a) = 312 ∧ pt = 0) ∧ c = (if pt = 0 then (es, []) else (c1, es)) ∧ o + es.length = lenR cl + (c.1.length + c.2.length) ∧ ClQ m r 0 0 (cl ++ [c]) ∧ WFc c ∧ m 996 33 = nI 0 ∧ Gv T x
set_option maxRecDepth 4000 in
theorem ce_step {T : TT} {a pt it : Nat} {S : List Nat} {cl : RT} {c1 cd es : List (Nat × Nat)} (hb : ∀ i, bt T i < 256 ∨ bt T i = 1000) (hrl : rl 1 S cd = ([], es)) (h1 : pt ≠ 1) (h2 : ¬ (5 ≤ bd (sgn1 T (sp isB T a)) ∧ pt ≠ 3)) (h3 : ¬ ((sgn1 T (sp isB T a) = 313 ∨ sgn1 T (sp isB T a) = 314) ∧ 2 ≤ pt)) (h4 : ¬ (sgn1 T (sp isB T a) = 312 ∧ pt = 0)) : rst T (0, a, 3, pt, S, it, cl, c1, cd) = if bt T (sp isB T a) = 59 then (0, sp isB T a + 1, 0, pt, [], it, cl ++ [if pt = 0 then (es, []) else (c1, es)], [], []) else if bt T (sp isB T a) = 1000 then (0, sp isB T a, 4, pt, [], it, cl ++ [if pt = 0 then (es, []) else (c1, es)], [], []) else ft (1 + 8 * sp isB T a + 0) := by
  have hbs := hb (sp isB T a)
  show sB T (sp isB T a) pt S it cl c1 cd = _
  unfold sB sE
  rw [if_neg h2, if_neg (fun h => h1 h.2), if_neg h3, hrl, if_neg h4]
  by_cases c59 : bt T (sp isB T a) = 59
  · have hg : sgn1 T (sp isB T a) = 59 := (sg_b hbs (by omega) rfl rfl (by omega) (by omega)).mpr c59
    have he : end1 T (sp isB T a) = sp isB T a + 1 := end_b (by rw [c59]; rfl) (by rw [c59]; rfl) (by omega) (by omega) (by omega)
    rw [if_pos c59, if_neg (by omega), if_pos ⟨.inl hg, h1⟩, if_pos rfl, if_pos hg, he]
  · rw [if_neg c59]
    have ng : sgn1 T (sp isB T a) ≠ 59 := fun e => c59 ((sg_b hbs (by omega) rfl rfl (by omega) (by omega)).mp e)
    by_cases cE : bt T (sp isB T a) = 1000
    · have hg : sgn1 T (sp isB T a) = 1000 := (sg_b hbs (by omega) rfl rfl (by omega) (by omega)).mpr cE
      have he : end1 T (sp isB T a) = sp isB T a := by
        unfold end1
        rw [cE, if_neg (by decide), if_neg (by decide), if_pos rfl]
      rw [if_pos cE, if_neg (by omega), if_pos ⟨.inr hg, h1⟩, if_pos rfl, if_neg ng, he]
    · rw [if_neg cE]
      have ng2 : sgn1 T (sp isB T a) ≠ 1000 := fun e => cE ((sg_b hbs (by omega) rfl rfl (by omega) (by omega)).mp e)
      split
      · rfl
      · rw [if_neg (by omega)]
set_option maxRecDepth 4000 in
theorem R1.c2 {T : TT} {x y z : RG} (h : Rc T x y) (h2 : R1 T y z) : R1 T x z := by
  obtain ⟨n, hn⟩ := h
  obtain ⟨k, hk⟩ := h2
  cases n with
  | zero =>
    have hn : x = y := hn
    rw [hn]; exact ⟨k, hk⟩
  | succ n =>
    refine ⟨n + (k + 1), ?_⟩
    have hn : itr T n (rst T x) = y := hn
    rw [itr_add, hn]; exact hk
set_option maxRecDepth 4000 in
theorem rkM {T : TT} {r : Nat} {cl : RT} {x : RG} {m : Nat → Nat → Int32} {q : Nat → Nat → Int64} (hr : r < 6) (h : MC T r m x cl) : ∃ m1, F_X12_ruleClause 996 (nI cl.length) (KS, m, q) = some ((), (KS, m1, q)) ∧ FrU r m m1 ∧ ((∃ fl, R1 T x (ft fl) ∧ DD T r m1 fl) ∨ ∃ x', R1 T x x' ∧ cl.length < 12 ∧ CE T r m1 x' cl) := by
  obtain ⟨a, pt, it, p, rfl, hM, hsp, h33, hQ, hW, hG⟩ := h
  obtain ⟨hT4, hb⟩ := hM.bt
  have hpl := hM.2.2.1
  have hcl := (hG.2 rfl).2.2.2.2.1
  have hal := (hG.2 rfl).1
  have hll := (hG.2 rfl).2.1
  simp only [List.length_nil] at hll
  have hbl := blkM (q := q) hM.1 hM.2.1 (by omega)
  rw [hsp] at hbl
  have hsl := sp_le (P := isB) (T := T) hB hal
  have hbs := hb (sp isB T a)
  have hMs := hM.p (p1 := sp isB T a) hsl
  have f0 : FrU r m ((mk_u2 m 996 28 (nI (sp isB T a)))) := FrU.rf.up (by omega)
  have hst : F_X12_stood 996 1000039 (KS, (mk_u2 m 996 28 (nI (sp isB T a))), q) = some (bI (decide (wix T (sp isB T a) = 16)), (KS, (mk_u2 m 996 28 (nI (sp isB T a))), q)) := stMw (k := 39) (j := 16) (by omega) (by omega) (by omega) rfl hMs.1 hMs.2.1 (by omega)
  have hx : rst T (0, a, 0, pt, [], it, cl, [], []) = sC T (sp isB T a) [] it cl := rfl
  by_cases c16 : wix T (sp isB T a) = 16
  · have hg : sgn1 T (sp isB T a) = 316 := (sg_w (k := 16) hbs (by omega)).mpr c16
    have he := end_w (T := T) (s := sp isB T a) (by omega)
    have e3 : (wd 16).length = 4 := rfl
    rw [c16, e3] at he
    have hel := (end1_le hsl).2.1
    rw [he] at hel
    rw [decide_eq_true c16, bI_T] at hst
    by_cases c12 : cl.length < 12
    · have hx1 : rst T (0, a, 0, pt, [], it, cl, [], []) = (0, sp isB T a + 4, 1, 0, [], it, cl, [], []) := by
        rw [hx]
        unfold sC
        rw [if_pos hg, if_pos c12, he]
      have hG1 := hG.rst hT4 hb
      rw [hx1] at hG1
      have hM4 := hM.p (p1 := sp isB T a + 4) hel
      have h30 := hM4.2.2.2.2.1
      have h32 : (mk_u2 m 996 28 (nI (sp isB T a + 4))) 996 32 = nI (lenR cl) := hM4.2.2.2.2.2.1
      have hM5 : MB T r (lenR cl) (mk_u2 ((mk_u2 m 996 28 (nI (sp isB T a + 4)))) 1027 (12 * r + cl.length) (nI (lenR cl))) (sp isB T a + 4) [] it := hM4.z (mk_u2_ne (by omega)) (mk_u2_ne (by omega)) (mk_u2_ne (by omega)) (mk_u2_ne (by omega))
      have f5 : FrU r m (mk_u2 ((mk_u2 m 996 28 (nI (sp isB T a + 4)))) 1027 (12 * r + cl.length) (nI (lenR cl))) := (FrU.rf.up (by omega)).upc (by omega) (by omega)
      have k27 : mk_u2 ((mk_u2 m 996 28 (nI (sp isB T a + 4)))) 1027 (12 * r + cl.length) (nI (lenR cl)) 1027 (12 * r + cl.length) = nI (lenR cl) := u2_s
      have k33 : mk_u2 ((mk_u2 m 996 28 (nI (sp isB T a + 4)))) 1027 (12 * r + cl.length) (nI (lenR cl)) 996 33 = nI 0 := by rw [u2_a (by omega), u2_b (by omega)]; exact h33
      have hQ5 : ClQ (mk_u2 ((mk_u2 m 996 28 (nI (sp isB T a + 4)))) 1027 (12 * r + cl.length) (nI (lenR cl))) r 0 0 cl := hQ.fr (fun k _ => by rw [u2_a (by omega), u2_a (by omega), u2_a (by omega), u2_a (by omega)]; exact ⟨rfl, rfl⟩) (fun j hj => by rw [u2_b (by omega), u2_a (by omega), u2_a (by omega), u2_a (by omega), u2_a (by omega), u2_a (by omega)]; exact ⟨rfl, rfl, rfl⟩)
      have hF5 : F_X12_ruleClause 996 (nI cl.length) (KS, m, q) = ((F_X12_sum 996 (KS, mk_u2 ((mk_u2 m 996 28 (nI (sp isB T a + 4)))) 1027 (12 * r + cl.length) (nI (lenR cl)), q)).bind fun z12 => (mk_ga z12.2 996 11 42).bind fun v13 => (mk_gi z12.2 996 11 32).bind fun v14 => (mk_st 100 z12.2 v13 (nI (12 * r + cl.length)) v14).bind fun t15 => (mk_gi t15 996 11 29).bind fun v16 => if v16 = nI 0 then ((F_X12_isNext 996 1000040 t15).bind fun z17 => if z17.1 = nI 0 then (B_X12_ruleClause_104 996 (nI (12 * r + cl.length)) z17.2) else ((F_X12_test 996 z17.2).bind fun z18 => B_X12_ruleClause_104 996 (nI (12 * r + cl.length)) z18.2)) else (B_X12_ruleClause_104 996 (nI (12 * r + cl.length)) t15)) := by
        unfold F_X12_ruleClause
        simp (disch := omega) only [gdm, hbl, ob_some, gim_28, hMs.2.1, hst, lit, eq_F, reduceIte, nI_add, pim_28, u2_u2, gim_30, h30, gam_41, gim_32, h32, pk_mul, stm_1027]
      have st28 : ∀ (m : Nat → Nat → Int32) (v : Int32), mk_st 100 (KS, m, q) 1028 (nI (12 * r + cl.length)) v = some (KS, mk_u2 m 1028 (12 * r + cl.length) v, q) := fun m v => stm_1028 (by omega)
      have st29 : ∀ (m : Nat → Nat → Int32) (v : Int32), mk_st 100 (KS, m, q) 1029 (nI (12 * r + cl.length)) v = some (KS, mk_u2 m 1029 (12 * r + cl.length) v, q) := fun m v => stm_1029 (by omega)
      have h104 : ∀ (m : Nat → Nat → Int32), B_X12_ruleClause_104 996 (nI (12 * r + cl.length)) (KS, m, q) = some ((), (KS, mk_u2 m 1029 (12 * r + cl.length) (m 996 32), q)) := fun m => by
        unfold B_X12_ruleClause_104
        simp only [gam_43, gim_32, ob_some, st29]
      generalize mk_u2 ((mk_u2 m 996 28 (nI (sp isB T a + 4)))) 1027 (12 * r + cl.length) (nI (lenR cl)) = m5 at *
      obtain ⟨mv, v1, v2, v3⟩ := suM (q := q) (o := lenR cl) (tl := []) hr rfl (by omega) (fun x r e => by simp at e) hM5 rfl rfl (Nat.zero_le _) hG1
      have vU : FrU r m mv := f5.trans v2.t.u
      rcases v3 with ⟨fl, w1, w2⟩ | ⟨x1, w1, w2, w3, w4⟩
      · refine ⟨mk_u2 (mk_u2 mv 1028 (12 * r + cl.length) (mv 996 32)) 1029 (12 * r + cl.length) (mv 996 32), ?_, (vU.upc (by omega) (by omega)).upc (by omega) (by omega), .inl ⟨fl, (R1.one hx1).trans w1, w2.z (by rw [mk_u2_ne (by omega), mk_u2_ne (by omega)]) (by rw [mk_u2_ne (by omega), mk_u2_ne (by omega)])⟩⟩
        have h29 : mk_u2 mv 1028 (12 * r + cl.length) (mv 996 32) 996 29 = nI fl := by rw [u2_a (by omega)]; exact w2.2.1
        have hfl := w2.2.2.1
        have hfl2 := w2.2.2.2.1
        rw [hF5]
        simp (disch := omega) only [v1, ob_some, gam_42, gim_32, st28, gim_29, h29, eq_F, reduceIte, h104, u2_s, u2_a, u2_b]
      · obtain ⟨a1, it1, cd1, U, rfl, hM1, hU, hty1, hpu1, hG2⟩ := w2
        obtain ⟨q1, q2, q3⟩ := hG2.bnd hT4 (fun u hu => by have := hU u hu; omega)
        simp only [List.length_nil, Nat.add_zero] at q1
        have hU1 : ∀ u, u ∈ U → 1 ≤ bd u := fun u hu => by have := hU u hu; omega
        have hrl := rl_app (lv := 1) (st := []) (fun x r e => by simp at e) U cd1 hU1
        rw [List.append_nil] at hrl hG2 w1 w3
        have w1 := (R1.one hx1).trans w1
        have hpl1 := hM1.2.2.1
        have h32v : mv 996 32 = nI (lenR cl + (cd1 ++ U.map en).length) := hM1.2.2.2.2.2.1
        generalize hes : cd1 ++ U.map en = es at *
        have M28 : MB T r (lenR cl) (mk_u2 mv 1028 (12 * r + cl.length) (nI (lenR cl + es.length))) (sp isB T a1) es it1 := hM1.z (mk_u2_ne (by omega)) (mk_u2_ne (by omega)) (mk_u2_ne (by omega)) (mk_u2_ne (by omega))
        have Q28 : ClQ (mk_u2 mv 1028 (12 * r + cl.length) (nI (lenR cl + es.length))) r 0 0 cl := ClQ.fr (m := m5) hQ5 (fun k hk => by rw [u2_a (by omega), u2_a (by omega)]; exact v2.2.2 k (by omega)) (fun j hj => by rw [u2_a (by omega), u2_b (by omega), u2_a (by omega), v2.1 1027 (by omega) (by omega) (by omega), v2.1 1028 (by omega) (by omega) (by omega), v2.1 1029 (by omega) (by omega) (by omega)]; exact ⟨rfl, rfl, rfl⟩)
        have f28 : FrU r m (mk_u2 mv 1028 (12 * r + cl.length) (nI (lenR cl + es.length))) := vU.upc (by omega) (by omega)
        have k27b : mk_u2 mv 1028 (12 * r + cl.length) (nI (lenR cl + es.length)) 1027 (12 * r + cl.length) = nI (lenR cl) := by rw [u2_a (by omega), v2.1 1027 (by omega) (by omega) (by omega)]; exact k27
        have k28b : mk_u2 mv 1028 (12 * r + cl.length) (nI (lenR cl + es.length)) 1028 (12 * r + cl.length) = nI (lenR cl + es.length) := u2_s
        have k33b : mk_u2 mv 1028 (12 * r + cl.length) (nI (lenR cl + es.length)) 996 33 = nI 0 := by rw [u2_a (by omega), v2.2.1 33 (by omega) (by omega) (by omega) (by omega)]; exact k33
        have hF6 : F_X12_ruleClause 996 (nI cl.length) (KS, m, q) = ((F_X12_isNext 996 1000040 (KS, mk_u2 mv 1028 (12 * r + cl.length) (nI (lenR cl + es.length)), q)).bind fun z17 => if z17.1 = nI 0 then (B_X12_ruleClause_104 996 (nI (12 * r + cl.length)) z17.2) else ((F_X12_test 996 z17.2).bind fun z18 => B_X12_ruleClause_104 996 (nI (12 * r + cl.length)) z18.2)) := by
          rw [hF5]
          simp (disch := omega) only [v1, ob_some, gam_42, gim_32, h32v, st28, gim_29, M28.2.2.2.1, eq_T, reduceIte]
        generalize mk_u2 mv 1028 (12 * r + cl.length) (nI (lenR cl + es.length)) = m6 at *
        have hbl6 := blkM (q := q) M28.1 M28.2.1 (by omega)
        rw [sp_sp hB, u2_id M28.2.1] at hbl6
        have hst6 : F_X12_stood 996 1000040 (KS, m6, q) = some (bI (decide (wix T (sp isB T a1) = 12)), (KS, m6, q)) := stMw (k := 40) (j := 12) (by omega) (by omega) (by omega) rfl M28.1 M28.2.1 (by omega)
        have sl6 : mk_sln 1000040 (KS, m6, q) = some (nI 2, (KS, m6, q)) := wsln (k := 40) (by omega) _
        have hbs1 := hb (sp isB T a1)
        have no5 : ¬ 5 ≤ bd (sgn1 T (sp isB T a1)) := fun h5 => by
          obtain ⟨⟨n42, n47, n37⟩, n43, n45⟩ := w3
          have n42 : bt T (sp isB T a1) ≠ 42 := n42
          have n47 : bt T (sp isB T a1) ≠ 47 := n47
          have n37 : bt T (sp isB T a1) ≠ 37 := n37
          have n43 : bt T (sp isB T a1) ≠ 43 := n43
          have n45 : bt T (sp isB T a1) ≠ 45 := n45
          have := sg_5 hbs1 h5
          omega
        by_cases c12 : wix T (sp isB T a1) = 12
        · have hgi : sgn1 T (sp isB T a1) = 312 := (sg_w (k := 12) hbs1 (by omega)).mpr c12
          have hei := end_w (T := T) (s := sp isB T a1) (by omega)
          have e2 : (wd 12).length = 2 := rfl
          rw [c12, e2] at hei
          have heli := (end1_le (T := T) (s := sp isB T a1) hpl1).2.1
          rw [hei] at heli
          have hx3 : rst T (0, a1, 3, 0, U, it1, cl, [], cd1) = (0, sp isB T a1 + 2, 2, 0, [], it1, cl, es, []) := by
            show sB T (sp isB T a1) 0 U it1 cl [] cd1 = _
            unfold sB
            rw [if_neg (fun h => no5 h.1), if_neg (fun h => by omega), if_neg (fun h => by omega), if_neg (fun h => by omega), if_pos ⟨hgi, rfl⟩, hrl, hei]
          have hG3 := hG2.rst hT4 hb
          rw [hx3] at hG3
          rw [decide_eq_true c12, bI_T] at hst6
          have hnx : F_X12_isNext 996 1000040 (KS, m6, q) = some (nI 1, (KS, (mk_u2 m6 996 28 (nI (sp isB T a1 + 2))), q)) := by
            unfold F_X12_isNext
            simp (disch := omega) only [gdm, hbl6, ob_some, hst6, gim_28, M28.2.1, lit, eq_F, reduceIte, sl6, nI_add, pim_28, rz1]
          have M7' := M28.p (p1 := sp isB T a1 + 2) heli
          have M7 : MB T r (lenR cl + es.length) ((mk_u2 m6 996 28 (nI (sp isB T a1 + 2)))) (sp isB T a1 + 2) [] it1 := ⟨M7'.1, M7'.2.1, M7'.2.2.1, M7'.2.2.2.1, M7'.2.2.2.2.1, M7'.2.2.2.2.2.1, M7'.2.2.2.2.2.2.1, M7'.2.2.2.2.2.2.2.1, trivial⟩
          have S7 : SegM ((mk_u2 m6 996 28 (nI (sp isB T a1 + 2)))) r (lenR cl) es := M7'.2.2.2.2.2.2.2.2
          obtain ⟨mt, t1, t2, t3⟩ := tsM (q := q) (o := lenR cl + es.length) hr rfl M7 rfl (by rw [u2_b (by omega)]; exact k33b) hG3
          have w1 := w1.trans (R1.one hx3)
          have tU : FrU r m mt := (f28.up (by omega)).trans t2.u
          have hF7 : F_X12_ruleClause 996 (nI cl.length) (KS, m, q) = some ((), (KS, mk_u2 mt 1029 (12 * r + cl.length) (mt 996 32), q)) := by
            rw [hF6, hnx]
            simp (disch := omega) only [ob_some, eq_F, reduceIte, t1, h104]
          refine ⟨mk_u2 mt 1029 (12 * r + cl.length) (mt 996 32), hF7, tU.upc (by omega) (by omega), ?_⟩
          rcases t3 with ⟨fl, y1, y2⟩ | ⟨x', y1, y2⟩
          · exact .inl ⟨fl, w1.c y1, y2.z (mk_u2_ne (by omega)) (mk_u2_ne (by omega))⟩
          · obtain ⟨a2, pt2, S, it2, cd2, es2, rfl, z1, z2, z3, z4, z5, z6, z7, z8, z9, z10⟩ := y2
            have hit2 := (z10.2 rfl).2.2.2.1
            have h32t : mt 996 32 = nI (lenR cl + es.length + es2.length) := z2.2.2.2.2.2.1
            have hbs2 := hb (sp isB T a2)
            rw [h32t]
            have low : ∀ k, k < 300 * r + (lenR cl + es.length) → mk_u2 mt 1029 (12 * r + cl.length) (nI (lenR cl + es.length + es2.length)) 1024 k = (mk_u2 m6 996 28 (nI (sp isB T a1 + 2))) 1024 k ∧ mk_u2 mt 1029 (12 * r + cl.length) (nI (lenR cl + es.length + es2.length)) 1025 k = (mk_u2 m6 996 28 (nI (sp isB T a1 + 2))) 1025 k := fun k hk => by
              rw [u2_a (by omega), u2_a (by omega)]; exact t2.2.2 k hk
            have hpt : pt2 ≠ 0 := by omega
            have c3 : ∀ j, j = 1027 ∨ j = 1028 ∨ j = 1029 → mt j = m6 j := fun j hj => (t2.1 j (by omega) (by omega) (by omega) (by omega)).trans (mk_u2_ne (by omega))
            refine .inr ⟨_, w1.c y1, by omega, a2, pt2, S, it2, es, cd2, lenR cl + es.length, es2, (es, es2), rfl, z1, z2.z (mk_u2_ne (by omega)) (mk_u2_ne (by omega)) (mk_u2_ne (by omega)) (mk_u2_ne (by omega)), by omega, fun h5 => ?_, fun h => by omega, fun h => hpt h.2, by rw [if_neg hpt], by show lenR cl + es.length + es2.length = lenR cl + (es.length + es2.length); omega, ?_, ⟨hty1, .inr z5, Nat.le_trans hpu1 q2, Nat.le_trans z6 hit2⟩, by rw [u2_a (by omega)]; exact z9, z10⟩
            · obtain ⟨⟨n42, n47, n37⟩, n43, n45⟩ := z4 (by have := (z10.2 rfl).2.2.2.2.2.2.2.2.1; omega)
              have n42 : bt T (sp isB T a2) ≠ 42 := n42
              have n47 : bt T (sp isB T a2) ≠ 47 := n47
              have n37 : bt T (sp isB T a2) ≠ 37 := n37
              have n43 : bt T (sp isB T a2) ≠ 43 := n43
              have n45 : bt T (sp isB T a2) ≠ 45 := n45
              have := sg_5 hbs2 h5.1
              omega
            · refine ClQ.app (ClQ.fr (m := m6) Q28 (fun k hk => ?_) (fun j hj => ?_)) ?_ ?_ ?_ (SegM.fr (m := (mk_u2 m6 996 28 (nI (sp isB T a1 + 2)))) (by rw [Nat.zero_add]; exact S7) (fun k hk => low k (by have hk : k < 300 * r + (0 + lenR cl + es.length) := hk; omega))) (SegM.fr (m := mt) (by rw [Nat.zero_add]; exact z2.2.2.2.2.2.2.2.2) (fun k hk => by rw [u2_a (by omega), u2_a (by omega)]; exact ⟨rfl, rfl⟩))
              · have := low k (by omega)
                rwa [u2_a (i := 1024) (a := 996) (by omega), u2_a (i := 1025) (a := 996) (by omega)] at this
              · rw [u2_a (by omega), u2_a (by omega), u2_b (by omega), c3 1027 (by omega), c3 1028 (by omega), c3 1029 (by omega)]; exact ⟨rfl, rfl, rfl⟩
              · rw [u2_a (by omega), c3 1027 (by omega), Nat.zero_add, Nat.zero_add]; exact k27b
              · rw [u2_a (by omega), c3 1028 (by omega), Nat.zero_add, Nat.zero_add]; exact k28b
              · rw [Nat.zero_add, Nat.zero_add, u2_s]
        · have ng12 : sgn1 T (sp isB T a1) ≠ 312 := fun e => c12 ((sg_w (k := 12) hbs1 (by omega)).mp e)
          rw [decide_eq_false c12, bI_F] at hst6
          have hnx : F_X12_isNext 996 1000040 (KS, m6, q) = some (nI 0, (KS, m6, q)) := by
            have e6 : mk_u2 m6 996 28 (nI (sp isB T a1)) = m6 := u2_id M28.2.1
            unfold F_X12_isNext
            simp (disch := omega) only [gdm, hbl6, ob_some, hst6, gim_28, M28.2.1, lit, eq_T, reduceIte, nI_add, Nat.add_zero, pim_28, e6, rz0]
          have h32b : m6 996 32 = nI (lenR cl + es.length) := M28.2.2.2.2.2.1
          refine ⟨mk_u2 m6 1029 (12 * r + cl.length) (nI (lenR cl + es.length)), ?_, f28.upc (by omega) (by omega), .inr ⟨_, w1, by omega, a1, 0, U, it1, [], cd1, lenR cl, es, (es, []), rfl, hrl, M28.z (mk_u2_ne (by omega)) (mk_u2_ne (by omega)) (mk_u2_ne (by omega)) (mk_u2_ne (by omega)), by omega, fun h => no5 h.1, fun h => by omega, fun h => ng12 h.1, rfl, rfl, ?_, ⟨hty1, .inl rfl, Nat.le_trans hpu1 q2, by show 0 ≤ 60; omega⟩, by rw [u2_a (by omega)]; exact k33b, hG2⟩⟩
          · rw [hF6, hnx]
            simp (disch := omega) only [ob_some, eq_T, reduceIte, h104, h32b]
          · refine ClQ.app (ClQ.fr (m := m6) Q28 (fun k hk => by rw [u2_a (by omega), u2_a (by omega)]; exact ⟨rfl, rfl⟩) (fun j hj => by rw [u2_a (by omega), u2_a (by omega), u2_b (by omega)]; exact ⟨rfl, rfl, rfl⟩)) ?_ ?_ ?_ (SegM.fr (m := m6) (by rw [Nat.zero_add]; exact M28.2.2.2.2.2.2.2.2) (fun k hk => by rw [u2_a (by omega), u2_a (by omega)]; exact ⟨rfl, rfl⟩)) trivial
            · rw [u2_a (by omega), Nat.zero_add, Nat.zero_add]; exact k27b
            · rw [u2_a (by omega), Nat.zero_add, Nat.zero_add]; exact k28b
            · rw [Nat.zero_add, Nat.zero_add, u2_s]; rfl
    · have hx1 : rst T (0, a, 0, pt, [], it, cl, [], []) = ft (1 + 8 * sp isB T a + 4) := by
        rw [hx]
        unfold sC
        rw [if_pos hg, if_neg c12]
      obtain ⟨f1, f2⟩ := hMs.fails (q := q) (s := sp isB T a) (c := 4) (by omega) (by omega)
      refine ⟨_, ?_, f0.up (by omega), .inl ⟨_, R1.one hx1, f2⟩⟩
      unfold F_X12_ruleClause
      simp (disch := omega) only [gdm, hbl, ob_some, gim_28, hMs.2.1, hst, lit, eq_F, eq_T, reduceIte, f1]
  · have hx1 : rst T (0, a, 0, pt, [], it, cl, [], []) = ft (1 + 8 * sp isB T a + 0) := by
      rw [hx]
      unfold sC
      rw [if_neg (fun e => c16 ((sg_w (k := 16) hbs (by omega)).mp e))]
    rw [decide_eq_false c16, bI_F] at hst
    obtain ⟨f1, f2⟩ := hMs.fails (q := q) (s := sp isB T a) (c := 0) (by omega) (by omega)
    refine ⟨_, ?_, f0.up (by omega), .inl ⟨_, R1.one hx1, f2⟩⟩
    unfold F_X12_ruleClause
    simp (disch := omega) only [gdm, hbl, ob_some, gim_28, hMs.2.1, hst, lit, eq_T, reduceIte, f1]
