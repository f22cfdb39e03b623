/-! RULES told: the reference; a whole test -/
def TE (T : TT) (r o : Nat) (m : Nat → Nat → Int32) (x : RG) (cl : RT) (c1 : List (Nat × Nat)) : Prop := ∃ a pt S it cd es, x = (0, a, 3, pt, S, it, cl, c1, cd) ∧ rl 1 S cd = ([], es) ∧ MB T r o m (sp isB T a) es it ∧ 2 ≤ pt ∧ (pt = 2 → N5 T x) ∧ tys es [] = some [true] ∧ pushes es ≤ it ∧ sgn1 T (sp isB T a) ≠ 313 ∧ sgn1 T (sp isB T a) ≠ 314 ∧ m 996 33 = nI 0 ∧ Gv T x
def W1 (T : TT) (r o : Nat) (m : Nat → Nat → Int32) (x : RG) (cl : RT) (c1 : List (Nat × Nat)) : Prop := ∃ a pt st it cd p, x = (0, a, 2, pt, st, it, cl, c1, cd) ∧ MB T r o m p cd it ∧ sp isB T p = sp isB T a ∧ OS m st ∧ okL st ∧ SW st ∧ dp st ≤ 10 ∧ tys cd [] = some (rp (ao st)) ∧ pushes cd ≤ it ∧ Gv T x
def W0 (T : TT) (r o : Nat) (m : Nat → Nat → Int32) (x : RG) (cl : RT) (c1 : List (Nat × Nat)) : Prop := ∃ a pt st it cd U p, x = (0, a, 3, pt, U ++ st, it, cl, c1, cd) ∧ MB T r o m p (cd ++ U.map en) it ∧ sp isB T p = sp isB T a ∧ (∀ u, u ∈ U → 4 ≤ bd u) ∧ 2 ≤ pt ∧ (pt = 2 → N5 T x) ∧ OS m st ∧ okL st ∧ SW st ∧ dp st ≤ 10 ∧ tys (cd ++ U.map en) [] = some (rp (ao st + 1)) ∧ pushes (cd ++ U.map en) ≤ it ∧ Gv T x
set_option maxRecDepth 4000 in
theorem MB.al {T : TT} {r o : Nat} {m : Nat → Nat → Int32} {p : Nat} {es : List (Nat × Nat)} {it : Nat} (h : MB T r o m p es it) : p ≤ 400 := by
  have := h.1.2.1
  have := h.2.2.1
  omega
set_option maxRecDepth 4000 in
theorem FrT.le {r o o1 : Nat} {m m1 : Nat → Nat → Int32} (h : FrT r o1 m m1) (ho : o ≤ o1) : FrT r o m m1 := ⟨h.1, h.2.1, fun k hk => h.2.2 k (by omega)⟩
set_option maxRecDepth 4000 in
theorem pkNb {k : Nat} (hk : k ≠ 12) : ∀ (st : List Nat) (cd : List (Nat × Nat)), okL st → nb (pk k st cd).1 + (pk k st cd).2.length = nb st + cd.length := by
  intro st
  induction st with
  | nil => intro cd _; rfl
  | cons s st ih =>
    intro cd hok
    unfold pk
    split
    · rename_i c
      have := ih (cd ++ [en s]) hok.tail
      simp only [List.length_append, List.length_cons, List.length_nil] at this
      have h91 : s ≠ 91 := fun e => by rw [e] at c; exact hk c.symm
      simp only [nb, h91, if_false]
      omega
    · rfl
set_option maxRecDepth 4000 in
/-- once, where a fact was read -/
theorem t0M {T : TT} {r o f : Nat} {cl : RT} {c1 : List (Nat × Nat)} {x : RG} {m : Nat → Nat → Int32} {q : Nat → Nat → Int64} (hr : r < 6) (ho : o = lenR cl + c1.length) (h : W0 T r o m x cl c1) : ∃ m1, FrT r o m m1 ∧ ((∃ fl, R1 T x (ft fl) ∧ DD T r m1 fl ∧ B_X12_test_9 (f + 1) 996 (nI 0) (nI 1) (KS, m, q) = B_X12_test_9 f 996 (nI 0) (nI 1) (KS, m1, q)) ∨ (TE T r o m1 x cl c1 ∧ B_X12_test_9 (f + 1) 996 (nI 0) (nI 1) (KS, m, q) = B_X12_test_9 f 996 (nI 0) (nI 0) (KS, m1, q)) ∨ (∃ x', R1 T x x' ∧ x.2.1 < x'.2.1 ∧ W1 T r o m1 x' cl c1 ∧ B_X12_test_9 (f + 1) 996 (nI 0) (nI 1) (KS, m, q) = B_X12_test_9 f 996 (nI 1) (nI 1) (KS, m1, q)) ∨ (∃ x', R1 T x x' ∧ x.2.1 < x'.2.1 ∧ W0 T r o m1 x' cl c1 ∧ B_X12_test_9 (f + 1) 996 (nI 0) (nI 1) (KS, m, q) = B_X12_test_9 f 996 (nI 0) (nI 1) (KS, m1, q))) := by
  obtain ⟨a, pt, st, it, cd, U, p, rfl, hM, hsp, hU, hpt, hN, hO, hok, hS, hd, hty, hpu, hG⟩ := h
  obtain ⟨hT4, hb⟩ := hM.bt
  obtain ⟨g1, g2, g3, g4, g5, g6, g7, g8, g9, g10, g11⟩ := hG.2 rfl
  rw [if_pos rfl, nb_app st U (fun u hu => by have := hU u hu; omega)] at g3
  rw [List.length_append] at g2
  have hlen : (cd ++ U.map en).length = cd.length + U.length := by rw [List.length_append, List.length_map]
  have hpl := hM.2.2.1
  have hsl := sp_le (P := isB) (T := T) hB g1
  have hs2 := sp_ge (P := isB) (T := T) hB a
  have hbs := hb (sp isB T a)
  -- answers, blanks, words
  obtain ⟨m9, a1, a2, a3, a4⟩ := anM (q := q) (k := 9) hr (.inl rfl) hM hO hok (by omega) (by rw [hlen]; omega)
  have l9 := pk_len (k := 9) st (cd ++ U.map en)
  have ok9 := pk_ok (k := 9) st (cd ++ U.map en) hok
  have hbl := blkM (q := q) a3.1 a3.2.1 (by omega)
  rw [hsp] at hbl
  have b3 := a3.p (p1 := sp isB T a) hsl
  have b4 : OS ((mk_u2 m9 996 28 (nI (sp isB T a)))) (pk 9 st (cd ++ U.map en)).1 := a4.fs (r := r) (o := 0) (FrS.rf.up (by omega))
  have sA : F_X12_stood 996 1000034 (KS, (mk_u2 m9 996 28 (nI (sp isB T a))), q) = some (bI (decide (wix T (sp isB T a) = 13)), (KS, (mk_u2 m9 996 28 (nI (sp isB T a))), q)) := stMw (k := 34) (j := 13) (by omega) (by omega) (by omega) rfl b3.1 b3.2.1 (by omega)
  have sO : F_X12_stood 996 1000035 (KS, (mk_u2 m9 996 28 (nI (sp isB T a))), q) = some (bI (decide (wix T (sp isB T a) = 14)), (KS, (mk_u2 m9 996 28 (nI (sp isB T a))), q)) := stMw (k := 35) (j := 14) (by omega) (by omega) (by omega) rfl b3.1 b3.2.1 (by omega)
  have nb9 : nb (pk 9 st (cd ++ U.map en)).1 ≤ (pk 9 st (cd ++ U.map en)).1.length := nb_le _
  obtain ⟨m10, c1', c2, c3, c4⟩ := anM (q := q) (k := 10) hr (.inr (.inl rfl)) b3 b4 ok9 (by omega) (by have := pkNb (k := 9) (by omega) st (cd ++ U.map en) hok; rw [hlen] at this; omega)
  have fr10 : FrT r o m m10 := ((a2.le (o := o) (by omega)).up (by omega)).trans (c2.le (o := o) (by omega)) (Nat.le_refl _)
  have l10 := pk_len (k := 10) (pk 9 st (cd ++ U.map en)).1 (pk 9 st (cd ++ U.map en)).2
  have ok10 := pk_ok (k := 10) (pk 9 st (cd ++ U.map en)).1 (pk 9 st (cd ++ U.map en)).2 ok9
  have eD := pkD st (cd ++ U.map en) hS hok
  have h29 : m 996 29 = nI 0 := hM.2.2.2.1
  have hU2 : ∀ u, u ∈ U → 2 ≤ bd u := fun u hu => by have := hU u hu; omega
  have hU1 : ∀ u, u ∈ U → 1 ≤ bd u := fun u hu => by have := hU u hu; omega
  have hx : rst T (0, a, 3, pt, U ++ st, it, cl, c1, cd) = sB T (sp isB T a) pt (U ++ st) it cl c1 cd := rfl
  have no5 : ¬ (5 ≤ bd (sgn1 T (sp isB T a)) ∧ pt ≠ 3) := fun h5 => by
    have h2 : pt = 2 := by omega
    obtain ⟨⟨n42, n47, n37⟩, n43, n45⟩ := hN h2
    have n42 : bt T (sp isB T a) ≠ 42 := n42
    have n47 : bt T (sp isB T a) ≠ 47 := n47
    have n37 : bt T (sp isB T a) ≠ 37 := n37
    have n43 : bt T (sp isB T a) ≠ 43 := n43
    have n45 : bt T (sp isB T a) ≠ 45 := n45
    have := sg_5 hbs h5.1
    omega
  have no4 : ¬ (bd (sgn1 T (sp isB T a)) = 4 ∧ pt = 1) := fun h4 => by omega
  by_cases c13 : wix T (sp isB T a) = 13
  · have hg : sgn1 T (sp isB T a) = 313 := (sg_w (k := 13) hbs (by omega)).mpr c13
    have he := end_w (T := T) (s := sp isB T a) (by omega)
    have e3 : (wd 13).length = 3 := rfl
    rw [c13, e3] at he
    have hel := (end1_le hsl).2.1
    rw [he] at hel
    have hb2 : bd 313 = 2 := rfl
    have hx1 : rst T (0, a, 3, pt, U ++ st, it, cl, c1, cd) = (0, sp isB T a + 3, 2, pt, 313 :: (rl 2 st (cd ++ U.map en)).1, it, cl, c1, (rl 2 st (cd ++ U.map en)).2) := by
      rw [hx]
      unfold sB
      rw [if_neg no5, if_neg no4, if_pos ⟨.inl hg, hpt⟩, hg, he, hb2, rl_pre U cd hU2]
    rw [decide_eq_true c13, bI_T] at sA
    rw [decide_eq_false (by omega), bI_F] at sO
    rw [eD] at c3 c4 l10
    have hG1 := hG.rst hT4 hb
    rw [hx1] at hG1
    obtain ⟨mo, k1, k2, k3, k4⟩ := op2M (q := q) (s := 313) (.inl rfl) c3 c4 (by omega)
    have k1 : F_X12_opens 996 (nI 10) (KS, m10, q) = some ((), (KS, mo, q)) := k1
    obtain ⟨t1, t2⟩ := rl_ty (lv := 2) (by omega) st (cd ++ U.map en) hok hty
    have hdp : dp (313 :: (rl 2 st (cd ++ U.map en)).1) = dp (rl 2 st (cd ++ U.map en)).1 := rfl
    have := rl_dp (lv := 2) st (cd ++ U.map en)
    refine ⟨(mk_u2 mo 996 28 (nI (sp isB T a + 3))), (fr10.trans (k2 o) (Nat.le_refl _)).up (by omega), .inr (.inr (.inl ⟨_, R1.one hx1, by show a < sp isB T a + 3; omega, ⟨sp isB T a + 3, pt, 313 :: (rl 2 st (cd ++ U.map en)).1, it, (rl 2 st (cd ++ U.map en)).2, sp isB T a + 3, rfl, k3.p hel, rfl, k4.fs (r := r) (o := 0) (FrS.rf.up (by omega)), ?_, ⟨fun b r e => ?_, rl_SW st _ hS⟩, by rw [hdp]; omega, t1, by rw [t2]; exact hpu, hG1⟩, ?_⟩))⟩
    · intro z hz
      rcases List.mem_cons.mp hz with hz | hz
      · rw [hz]; omega
      · exact rl_ok st _ hok z hz
    · have := rl_hd st _ b r e
      right
      rw [hb2]; omega
    · have h28 : mo 996 28 = nI (sp isB T a) := k3.2.1
      rw [B_X12_test_9]
      unfold B_X12_test_82 B_X12_test_93 B_X12_test_105 B_X12_test_122 B_X12_test_199
      simp (disch := omega) only [lit, eq_T, eq_F, reduceIte, gim_29, ob_some, h29, a1, hbl, sA, sO, c1', k1, gim_28, h28, nI_add, pim_28]
  · by_cases c14 : wix T (sp isB T a) = 14
    · have hg : sgn1 T (sp isB T a) = 314 := (sg_w (k := 14) hbs (by omega)).mpr c14
      have he := end_w (T := T) (s := sp isB T a) (by omega)
      have e3 : (wd 14).length = 2 := rfl
      rw [c14, e3] at he
      have hel := (end1_le hsl).2.1
      rw [he] at hel
      have hb1 : bd 314 = 1 := rfl
      have hx1 : rst T (0, a, 3, pt, U ++ st, it, cl, c1, cd) = (0, sp isB T a + 2, 2, pt, 314 :: (rl 1 st (cd ++ U.map en)).1, it, cl, c1, (rl 1 st (cd ++ U.map en)).2) := by
        rw [hx]
        unfold sB
        rw [if_neg no5, if_neg no4, if_pos ⟨.inr hg, hpt⟩, hg, he, hb1, rl_pre U cd hU1]
      rw [decide_eq_false c13, bI_F] at sA
      rw [decide_eq_true c14, bI_T] at sO
      obtain ⟨m11, d1, d2, d3, d4⟩ := anM (q := q) (k := 11) hr (.inr (.inr rfl)) c3 c4 ok10 (by omega) (by have h9 := pkNb (k := 9) (by omega) st (cd ++ U.map en) hok; have h10 := pkNb (k := 10) (by omega) _ (pk 9 st (cd ++ U.map en)).2 ok9; rw [hlen] at h9; omega)
      rw [pkE st (cd ++ U.map en) hS hok] at d3 d4
      have fr11 : FrT r o m m11 := fr10.trans (d2.le (o := o) (by omega)) (Nat.le_refl _)
      have l1 := rl_len (lv := 1) st (cd ++ U.map en)
      have hG1 := hG.rst hT4 hb
      rw [hx1] at hG1
      obtain ⟨mo, k1, k2, k3, k4⟩ := op2M (q := q) (s := 314) (.inr rfl) d3 d4 (by omega)
      have k1 : F_X12_opens 996 (nI 11) (KS, m11, q) = some ((), (KS, mo, q)) := k1
      obtain ⟨t1, t2⟩ := rl_ty (lv := 1) (by omega) st (cd ++ U.map en) hok hty
      have hdp : dp (314 :: (rl 1 st (cd ++ U.map en)).1) = dp (rl 1 st (cd ++ U.map en)).1 := rfl
      have := rl_dp (lv := 1) st (cd ++ U.map en)
      refine ⟨(mk_u2 mo 996 28 (nI (sp isB T a + 2))), (fr11.trans (k2 o) (Nat.le_refl _)).up (by omega), .inr (.inr (.inl ⟨_, R1.one hx1, by show a < sp isB T a + 2; omega, ⟨sp isB T a + 2, pt, 314 :: (rl 1 st (cd ++ U.map en)).1, it, (rl 1 st (cd ++ U.map en)).2, sp isB T a + 2, rfl, k3.p hel, rfl, k4.fs (r := r) (o := 0) (FrS.rf.up (by omega)), ?_, ⟨fun b r e => ?_, rl_SW st _ hS⟩, by rw [hdp]; omega, t1, by rw [t2]; exact hpu, hG1⟩, ?_⟩))⟩
      · intro z hz
        rcases List.mem_cons.mp hz with hz | hz
        · rw [hz]; omega
        · exact rl_ok st _ hok z hz
      · have := rl_hd st _ b r e
        right
        rw [hb1]; omega
      · have h28 : mo 996 28 = nI (sp isB T a) := k3.2.1
        rw [B_X12_test_9]
        unfold B_X12_test_82 B_X12_test_93 B_X12_test_105 B_X12_test_122 B_X12_test_199
        simp (disch := omega) only [lit, eq_T, eq_F, reduceIte, gim_29, ob_some, h29, a1, hbl, sA, sO, c1', d1, k1, gim_28, h28, nI_add, pim_28]
    · rw [decide_eq_false c13, bI_F] at sA
      rw [decide_eq_false c14, bI_F] at sO
      have ng13 : sgn1 T (sp isB T a) ≠ 313 := fun e => c13 ((sg_w (k := 13) hbs (by omega)).mp e)
      have ng14 : sgn1 T (sp isB T a) ≠ 314 := fun e => c14 ((sg_w (k := 14) hbs (by omega)).mp e)
      obtain ⟨m11, d1, d2, d3, d4⟩ := anM (q := q) (k := 11) hr (.inr (.inr rfl)) c3 c4 ok10 (by omega) (by have h9 := pkNb (k := 9) (by omega) st (cd ++ U.map en) hok; have h10 := pkNb (k := 10) (by omega) _ (pk 9 st (cd ++ U.map en)).2 ok9; rw [hlen] at h9; omega)
      rw [pkE st (cd ++ U.map en) hS hok] at d3 d4
      have fr11 : FrT r o m m11 := fr10.trans (d2.le (o := o) (by omega)) (Nat.le_refl _)
      have l1 := rl_len (lv := 1) st (cd ++ U.map en)
      obtain ⟨t1, t2⟩ := rl_ty (lv := 1) (by omega) st (cd ++ U.map en) hok hty
      have ht := tpM (q := q) d4 (by omega)
      have hSr := rl_SW (lv := 1) st (cd ++ U.map en) hS
      have hokr := rl_ok (lv := 1) st (cd ++ U.map en) hok
      have hdr := rl_dp (lv := 1) st (cd ++ U.map en)
      have hpr := rl_pre (lv := 1) (st := st) U cd hU1
      have hmr := fun x (hx : x ∈ (rl 1 st (cd ++ U.map en)).1) => hokr x hx
      cases hrl : (rl 1 st (cd ++ U.map en)).1 with
      | nil =>
        rw [hrl] at ht t1
        have ht : F_X12_top 996 (KS, m11, q) = some (-nI 1, (KS, m11, q)) := ht
        have z12 : (-nI 1 = nI 12) = False := eq_false (by decide)
        refine ⟨m11, fr11, .inr (.inl ⟨⟨a, pt, U ++ st, it, cd, (rl 1 st (cd ++ U.map en)).2, rfl, by rw [hpr, ← hrl], d3, hpt, hN, t1, by rw [t2]; exact hpu, ng13, ng14, by rw [hrl] at d4; exact d4.2.1, hG⟩, ?_⟩)⟩
        rw [B_X12_test_9]
        unfold B_X12_test_199
        simp (disch := omega) only [lit, eq_T, eq_F, reduceIte, gim_29, ob_some, h29, a1, hbl, sA, sO, c1', d1, ht, z12]
      | cons y R =>
        have hyb := rl_hd st _ y R hrl
        have hy91 : y = 91 := by
          rcases hmr y (by rw [hrl]; exact List.mem_cons_self ..) with e | e | e | e
          · exact e
          all_goals
            rw [e] at hyb
            exact absurd hyb (by decide)
        subst hy91
        rw [hrl] at ht d4 t1 hSr hokr hdr l1
        have ht : F_X12_top 996 (KS, m11, q) = some (nI 12, (KS, m11, q)) := ht
        have hsg := sgM (q := q) d3.1 d3.2.1 (by omega)
        have hdpR : dp (91 :: R) = dp R + 1 := rfl
        obtain ⟨o1, o2, o3⟩ := d4
        have o1 : m11 996 35 = nI (R.length + 1) := o1
        rw [hdpR] at o2
        have s1 : nI (R.length + 1) - nI 1 = nI R.length := pk_sub (by omega)
        have s2 : nI (dp R + 1) - nI 1 = nI (dp R) := pk_sub (by omega)
        have aoR : ao (91 :: R) = ao R := rfl
        rw [aoR] at t1
        simp only [List.length_cons] at l1
        by_cases c93 : bt T (sp isB T a) = 93
        · have hg : sgn1 T (sp isB T a) = 93 := (sg_b hbs (by omega) rfl rfl (by omega) (by omega)).mpr c93
          have he : end1 T (sp isB T a) = sp isB T a + 1 := end_b (by rw [c93]; rfl) (by rw [c93]; rfl) (by omega) (by omega) (by omega)
          have hel := (end1_le hsl).2.1
          rw [he] at hel
          have hx1 : rst T (0, a, 3, pt, U ++ st, it, cl, c1, cd) = (0, sp isB T a + 1, 3, 3, R, it, cl, c1, (rl 1 st (cd ++ U.map en)).2) := by
            rw [hx]
            unfold sB
            rw [if_neg no5, if_neg no4, if_neg (by omega), if_pos ⟨hg, hpt⟩, hpr, hrl, if_neg (by simp), he]
            rfl
          rw [c93, sI_n (by omega)] at hsg
          have hG1 := hG.rst hT4 hb
          rw [hx1] at hG1
          have e4 : MB T r o (mk_u2 (mk_u2 ((mk_u2 m11 996 28 (nI (sp isB T a + 1)))) 996 35 (nI R.length)) 996 33 (nI (dp R))) (sp isB T a + 1) (rl 1 st (cd ++ U.map en)).2 it := (d3.p (p1 := sp isB T a + 1) hel).x (fun j a1 a2 => by rw [mk_u2_ne a1, mk_u2_ne a1]) (fun k a1 a2 => by rw [u2_b a1, u2_b a2])
          refine ⟨mk_u2 (mk_u2 ((mk_u2 m11 996 28 (nI (sp isB T a + 1)))) 996 35 (nI R.length)) 996 33 (nI (dp R)), ((fr11.up (by omega)).up (by omega)).up (by omega), .inr (.inr (.inr ⟨_, R1.one hx1, by show a < sp isB T a + 1; omega, ⟨sp isB T a + 1, 3, R, it, (rl 1 st (cd ++ U.map en)).2, [], sp isB T a + 1, rfl, by rw [List.map_nil, List.append_nil]; exact e4, rfl, fun u hu => by simp at hu, by omega, fun h => by omega, ⟨by rw [u2_b (by omega), u2_s], u2_s, o3.2.congr (fun j _ => by rw [u2_a (by omega), u2_a (by omega), u2_a (by omega)])⟩, hokr.tail, hSr.2, by omega, by rw [List.map_nil, List.append_nil]; exact t1, by rw [List.map_nil, List.append_nil, t2]; exact hpu, hG1⟩, ?_⟩))⟩
          rw [B_X12_test_9]
          unfold B_X12_test_164 B_X12_test_199
          simp (disch := omega) only [lit, eq_T, eq_F, reduceIte, gim_29, ob_some, h29, a1, hbl, sA, sO, c1', d1, ht, hsg, gim_28, d3.2.1, nI_add, pim_28, gim_35, o1, s1, pim_35, gim_33, o2, s2, pim_33, u2_s, u2_a, u2_b]
        · have ng93 : sgn1 T (sp isB T a) ≠ 93 := fun e => c93 ((sg_b hbs (by omega) rfl rfl (by omega) (by omega)).mp e)
          have hx1 : rst T (0, a, 3, pt, U ++ st, it, cl, c1, cd) = ft (1 + 8 * sp isB T a + 0) := by
            rw [hx]
            unfold sB sE
            rw [if_neg no5, if_neg no4, if_neg (by omega), if_neg (by omega), if_neg (by omega), hpr, hrl]
            split
            · rw [if_neg (by simp)]
            · rfl
          obtain ⟨f1, f2⟩ := d3.fails (q := q) (s := sp isB T a) (c := 0) (by omega) (by omega)
          have p28 : mk_u2 m11 996 29 (nI (1 + 8 * sp isB T a + 0)) 996 28 = nI (sp isB T a) := by rw [u2_b (by omega)]; exact d3.2.1
          have p35 : mk_u2 m11 996 29 (nI (1 + 8 * sp isB T a + 0)) 996 35 = nI (R.length + 1) := by rw [u2_b (by omega)]; exact o1
          have p33 : mk_u2 m11 996 29 (nI (1 + 8 * sp isB T a + 0)) 996 33 = nI (dp R + 1) := by rw [u2_b (by omega)]; exact o2
          have fr12 : FrT r o m (mk_u2 m11 996 29 (nI (1 + 8 * sp isB T a + 0))) := fr11.up (by omega)
          generalize mk_u2 m11 996 29 (nI (1 + 8 * sp isB T a + 0)) = mf at *
          refine ⟨mk_u2 (mk_u2 ((mk_u2 mf 996 28 (nI (sp isB T a + 1)))) 996 35 (nI R.length)) 996 33 (nI (dp R)), ((fr12.up (by omega)).up (by omega)).up (by omega), .inl ⟨_, R1.one hx1, (f2.p (p1 := sp isB T a + 1) (by omega)).x (fun j a1 a2 => by rw [mk_u2_ne a1, mk_u2_ne a1]) (fun k a1 a2 => by rw [u2_b a1, u2_b a2]), ?_⟩⟩
          rw [B_X12_test_9]
          unfold B_X12_test_164 B_X12_test_199
          simp (disch := omega) only [lit, eq_T, eq_F, reduceIte, gim_29, ob_some, h29, a1, hbl, sA, sO, c1', d1, ht, hsg, sI_eqc, c93, gim_28, d3.2.1, f1, p28, nI_add, pim_28, gim_35, p35, s1, pim_35, gim_33, p33, s2, pim_33, u2_s, u2_a, u2_b]
