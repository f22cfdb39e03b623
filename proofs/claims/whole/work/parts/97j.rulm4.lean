/-! RULES told: the reference; comparing -/
set_option maxRecDepth 4000 in
theorem sg_5 {T : TT} {s : Nat} (hb : bt T s < 256 ∨ bt T s = 1000) (h : 5 ≤ bd (sgn1 T s)) : bt T s = 37 ∨ bt T s = 42 ∨ bt T s = 47 ∨ bt T s = 43 ∨ bt T s = 45 := by
  have k : ∀ c, c < 60 → isD c = false → sgn1 T s = c → bt T s = c := fun c hc hD e => (sg_b hb (by omega) hD (isL_F (by omega)) (by omega) (by omega)).mp e
  rcases bd_mem (s := sgn1 T s) (by omega) with e | e | e | e | e | e | e | e | e | e | e | e | e
  · exact .inl (k 37 (by omega) rfl e)
  · exact .inr (.inl (k 42 (by omega) rfl e))
  · exact .inr (.inr (.inl (k 47 (by omega) rfl e)))
  · exact .inr (.inr (.inr (.inl (k 43 (by omega) rfl e))))
  · exact .inr (.inr (.inr (.inr (k 45 (by omega) rfl e))))
  all_goals
    rw [e] at h
    exact absurd h (by decide)
set_option maxRecDepth 4000 in
theorem sg_nd {T : TT} {s : Nat} (h1 : isD (bt T s) = false) (h2 : isL (bt T s) = false) : sgn1 T s = if bt T s = 60 ∧ bt T (s + 1) = 61 then 257 else if bt T s = 62 ∧ bt T (s + 1) = 61 then 258 else bt T s := by
  unfold sgn1
  rw [if_neg (by simp [h1]), if_neg (by simp [h2])]
set_option maxRecDepth 4000 in
theorem en_nd {T : TT} {s : Nat} (h1 : isD (bt T s) = false) (h2 : isL (bt T s) = false) (h3 : bt T s ≠ 1000) : end1 T s = if (bt T s = 60 ∨ bt T s = 62) ∧ bt T (s + 1) = 61 then s + 2 else s + 1 := by
  unfold end1
  rw [if_neg (by simp [h1]), if_neg (by simp [h2]), if_neg h3]
set_option maxRecDepth 4000 in
theorem sg_4 {T : TT} {s : Nat} (hb : bt T s < 256 ∨ bt T s = 1000) (h : bd (sgn1 T s) = 4) : bt T s = 60 ∨ bt T s = 61 ∨ bt T s = 62 := by
  cases cD : isD (bt T s) with
  | true =>
    have := (sg_256 hb).mpr cD
    rw [this] at h
    exact absurd h (by decide)
  | false =>
    cases cL : isL (bt T s) with
    | true =>
      have hw := wix_le T s
      have e : sgn1 T s = if wix T s < 20 then 300 + wix T s else 259 := by unfold sgn1; rw [if_neg (by simp [cD]), if_pos cL]
      exfalso
      rcases bd_mem (s := sgn1 T s) (by omega) with z | z | z | z | z | z | z | z | z | z | z | z | z
      all_goals first
        | (rw [z] at h; exact absurd h (by decide))
        | (rw [z] at e; split at e <;> omega)
    | false =>
      rw [sg_nd cD cL] at h
      split at h
      · rename_i c; exact .inl c.1
      · split at h
        · rename_i c; exact .inr (.inr c.1)
        · rcases bd_mem (s := bt T s) (by omega) with z | z | z | z | z | z | z | z | z | z | z | z | z
          all_goals first
            | (rw [z] at h; exact absurd h (by decide))
            | omega
set_option maxRecDepth 4000 in
theorem c139 {T : TT} {r f : Nat} {m : Nat → Nat → Int32} {q : Nat → Nat → Int64} (h : DD T r m f) (k : Int32) : B_X12_compared_139 996 k (KS, m, q) = some ((), (KS, m, q)) := by
  unfold B_X12_compared_139
  simp only [lit, h.entry, ob_some]
set_option maxRecDepth 4000 in
/-- comparing, where a fault has come behind the first sum -/
theorem coT {T : TT} {r f : Nat} {m mv : Nat → Nat → Int32} {q : Nat → Nat → Int64} (hs : F_X12_sum 996 (KS, m, q) = some ((), (KS, mv, q))) (h : DD T r mv f) : ∃ m1, F_X12_compared 996 (KS, m, q) = some ((), (KS, m1, q)) ∧ (∀ o, FrS r o mv m1) ∧ DD T r m1 f := by
  have hl := h.1.2.1
  obtain ⟨p, h5, h55⟩ := h.2.2.2.2.1
  have hsg := sgM (q := q) h.1 h55 (by omega)
  have hb := h.1.b p
  by_cases c : bt T p = 60 ∨ bt T p = 61 ∨ bt T p = 62
  · have hlt := bt_far (T := T) (s := p) (by omega)
    rw [sI_n (by omega)] at hsg
    obtain ⟨g1, g2⟩ := h.count (q := q) (s := p) (by omega)
    have g28 : mk_u2 mv 996 34 (mv 996 34 + nI 1) 996 28 = nI p := by rw [u2_b (by omega)]; exact h55
    have fA : ∀ o, FrS r o mv (mk_u2 mv 996 34 (mv 996 34 + nI 1)) := fun o => FrS.rf.up (by omega)
    generalize mk_u2 mv 996 34 (mv 996 34 + nI 1) = mc at *
    have e37 : F_X12_compared 996 (KS, m, q) = B_X12_compared_37 996 (nI (bt T p)) (KS, mv, q) := by
      unfold F_X12_compared
      rcases c with c | c | c <;> rw [c] at hsg ⊢ <;> simp (disch := omega) only [gdm, hs, ob_some, hsg, lit, eq_T, eq_F, reduceIte]
    have g3 := g2.p (p1 := p + 1) (by omega)
    have g3s := sgM (q := q) g3.1 (u2_s (f := mc) (a := 996) (k := 28) (v := nI (p + 1))) (by omega)
    have fin : ∀ (E : Nat) (x1 x2 y : Int32), E ≤ 405 → nI (p + 1) + y = nI E → B_X12_compared_37 996 (nI (bt T p)) (KS, mv, q) = B_X12_compared_90 996 x1 x2 996 (nI (p + 1)) y (KS, (mk_u2 mc 996 28 (nI (p + 1))), q) → ∃ m1, F_X12_compared 996 (KS, m, q) = some ((), (KS, m1, q)) ∧ (∀ o, FrS r o mv m1) ∧ DD T r m1 f := fun E x1 x2 y hE hy hB => by
      obtain ⟨m1, z1, z2, z3⟩ := suD (q := q) (g2.p (p1 := E) hE)
      refine ⟨m1, ?_, fun o => (((fA o).up (by omega)).trans (z2 o) (Nat.le_refl _)), z3⟩
      rw [e37, hB]
      unfold B_X12_compared_90
      simp only [hy, pim_28, ob_some, u2_u2, z1, c139 z3, ite_self]
    have hb1 := h.1.b (p + 1)
    by_cases c61 : bt T p = 61
    · refine fin (p + 1) (nI 61) (nI 0) (nI 0) (by omega) (nI_add _ _) ?_
      unfold B_X12_compared_37 B_X12_compared_74 B_X12_compared_75
      rw [c61]
      simp (disch := omega) only [gim_28, h55, ob_some, g1, g28, lit, nI_add, pim_28, eq_T, reduceIte, u2_s]
    · by_cases cn : bt T (p + 1) = 61
      · have := bt_far (T := T) (s := p + 1) (by omega)
        rw [cn, sI_n (by omega)] at g3s
        refine fin (p + 2) (nI (bt T p)) (nI 1) (nI 1) (by omega) (nI_add _ _) ?_
        unfold B_X12_compared_37 B_X12_compared_75
        simp (disch := omega) only [gim_28, h55, ob_some, g1, g28, lit, nI_add, pim_28, eq_T, eq_F, reduceIte, u2_s, g3s]
      · refine fin (p + 1) (nI (bt T p)) (nI 0) (nI 0) (by omega) (nI_add _ _) ?_
        unfold B_X12_compared_37 B_X12_compared_74 B_X12_compared_75
        simp (disch := omega) only [gim_28, h55, ob_some, g1, g28, lit, nI_add, pim_28, eq_T, eq_F, reduceIte, u2_s, g3s, sI_eqc, cn]
  · have n1 : bt T p ≠ 60 := by omega
    have n2 : bt T p ≠ 61 := by omega
    have n3 : bt T p ≠ 62 := by omega
    refine ⟨mv, ?_, fun o => FrS.rf, h⟩
    unfold F_X12_compared
    simp (disch := omega) only [gdm, hs, ob_some, hsg, lit, sI_eqc, n1, n2, n3, reduceIte, gim_28, h55, h.fails]
set_option maxRecDepth 4000 in
theorem coM {T : TT} {r o pt a p it : Nat} {st : List Nat} {cl : RT} {c1 cd : List (Nat × Nat)} {tl : List Bool} {m : Nat → Nat → Int32} {q : Nat → Nat → Int64} (hr : r < 6) (ho : o = lenR cl + c1.length) (hs : ∀ x r, st = x :: r → bd x < 4) (h : MB T r o m p cd it) (hsp : sp isB T p = sp isB T a) (hty : tys cd [] = some tl) (hpu : pushes cd ≤ it) (hG : Gv T (0, a, 2, pt, st, it, cl, c1, cd)) (hg1 : sgn1 T (sp isB T a) ≠ 91) (hg2 : sgn1 T (sp isB T a) ≠ 315) : ∃ m1, F_X12_compared 996 (KS, m, q) = some ((), (KS, m1, q)) ∧ FrS r o m m1 ∧ ((∃ fl, R1 T (0, a, 2, pt, st, it, cl, c1, cd) (ft fl) ∧ DD T r m1 fl) ∨ ∃ x', R1 T (0, a, 2, pt, st, it, cl, c1, cd) x' ∧ AB T r o m1 x' 4 2 st cl c1 (true :: tl) ∧ N5 T x' ∧ a ≤ x'.2.1) := by
  obtain ⟨hT4, hb⟩ := h.bt
  have hst : rst T (0, a, 2, pt, st, it, cl, c1, cd) = rst T (0, a, 1, 1, st, it, cl, c1, cd) := by
    show sF T (sp isB T a) pt st it cl c1 cd = sV T (sp isB T a) 1 st it cl c1 cd
    unfold sF
    rw [if_neg (by omega)]
  have hG1 : Gv T (0, a, 1, 1, st, it, cl, c1, cd) := by
    obtain ⟨g1, g2, g3, g4, g5, g6, g7, g8, g9, g10, g11⟩ := hG.2 rfl
    exact ⟨by omega, fun _ => ⟨g1, g2, g3, g4, g5, fun _ => g6 (by omega), g7, by omega, by omega, fun h => by omega, fun h => by omega⟩⟩
  obtain ⟨mv, v1, v2, v3⟩ := suM (q := q) hr ho (by omega) (fun x r e => by have := hs x r e; omega) h hsp hty hpu hG1
  rcases v3 with ⟨fl, w1, w2⟩ | ⟨x1, w1, w2, w3, w4⟩
  · obtain ⟨m1, z1, z2, z3⟩ := coT (q := q) v1 w2
    exact ⟨m1, z1, v2.trans (z2 o) (Nat.le_refl _), .inl ⟨fl, R1.of hst w1, z3⟩⟩
  · obtain ⟨a1, it1, cd1, U, rfl, hM, hU, hty1, hpu1, hG2⟩ := w2
    have w4 : a ≤ a1 := w4
    have w1 := R1.of hst w1
    obtain ⟨⟨n42, n47, n37⟩, n43, n45⟩ := w3
    have n42 : bt T (sp isB T a1) ≠ 42 := n42
    have n47 : bt T (sp isB T a1) ≠ 47 := n47
    have n37 : bt T (sp isB T a1) ≠ 37 := n37
    have n43 : bt T (sp isB T a1) ≠ 43 := n43
    have n45 : bt T (sp isB T a1) ≠ 45 := n45
    have hpl := hM.2.2.1
    have hbp := hb (sp isB T a1)
    have hb5 : ¬ 5 ≤ bd (sgn1 T (sp isB T a1)) := fun h5 => by have := sg_5 hbp h5; omega
    obtain ⟨q1, q2, q3⟩ := hG2.bnd hT4 (fun u hu => by have := hU u hu; omega)
    have hsg := sgM (q := q) hM.1 hM.2.1 (by omega)
    have hx2 : rst T (0, a1, 3, 1, U ++ st, it1, cl, c1, cd1) = sB T (sp isB T a1) 1 (U ++ st) it1 cl c1 cd1 := rfl
    have hs2 := sp_ge (P := isB) (T := T) hB a1
    by_cases c : bt T (sp isB T a1) = 60 ∨ bt T (sp isB T a1) = 61 ∨ bt T (sp isB T a1) = 62
    · have hlt := bt_far (T := T) (s := sp isB T a1) (by omega)
      have cD : isD (bt T (sp isB T a1)) = false := isD_F (by omega)
      have cL : isL (bt T (sp isB T a1)) = false := isL_F (by omega)
      have hgE := sg_nd cD cL
      have heE := en_nd cD cL (by omega)
      have hend := (end1_le (T := T) (s := sp isB T a1) hpl).2.1
      rw [sI_n (by omega)] at hsg
      have e37 : F_X12_compared 996 (KS, m, q) = B_X12_compared_37 996 (nI (bt T (sp isB T a1))) (KS, mv, q) := by
        unfold F_X12_compared
        rcases c with c | c | c <;> rw [c] at hsg ⊢ <;> simp (disch := omega) only [gdm, v1, ob_some, hsg, lit, eq_T, eq_F, reduceIte]
      have hbd4 : bd (sgn1 T (sp isB T a1)) = 4 := by
        rw [hgE]
        split
        · rfl
        · split
          · rfl
          · rcases c with c | c | c <;> rw [c] <;> rfl
      have hx2' : rst T (0, a1, 3, 1, U ++ st, it1, cl, c1, cd1) = if it1 < 60 then (0, end1 T (sp isB T a1), 1, 2, sgn1 T (sp isB T a1) :: st, it1 + 1, cl, c1, cd1 ++ U.map en) else ft (1 + 8 * sp isB T a1 + 3) := by
        rw [hx2]
        unfold sB
        rw [if_neg (fun h => hb5 h.1), if_pos ⟨hbd4, rfl⟩, rl_app hs U cd1 (fun u hu => by have := hU u hu; omega)]
      have hG3 := hG2.rst hT4 hb
      rw [hx2'] at hG3
      obtain ⟨mc, k1, k2, k3⟩ := hM.count (q := q) (s := sp isB T a1) (by omega) q2
      generalize hP : sp isB T a1 = P at *
      have hb1 := hb (P + 1)
      -- all that follows the count
      have fin : ∀ (fl : Nat) (mc' : Nat → Nat → Int32), mc' 996 28 = nI P → TM T mc' → F_X12_isCounted 996 (nI P) (KS, mv, q) = some ((), (KS, mc', q)) → ∃ E y : Nat, E = end1 T P ∧ E ≤ 400 ∧ F_X12_compared 996 (KS, m, q) = (F_X12_sum 996 (KS, (mk_u2 mc' 996 28 (nI E)), q)).bind fun z => B_X12_compared_139 996 (nI (ent (sgn1 T P))) z.2 := fun fl mc' m28 hTm hk => by
        have h55 := hM.2.1
        have g3s := sgM (q := q) (m := (mk_u2 mc' 996 28 (nI (P + 1)))) (hTm.up (by omega)) (u2_s (f := mc') (a := 996) (k := 28) (v := nI (P + 1))) (by omega)
        by_cases c61 : bt T P = 61
        · refine ⟨P + 1, 0, ?_, by omega, ?_⟩
          · rw [heE, if_neg (by omega)]
          · have e6 : sgn1 T P = 61 := by rw [hgE, if_neg (by omega), if_neg (by omega)]; exact c61
            rw [e37, e6, c61]
            unfold B_X12_compared_37 B_X12_compared_74 B_X12_compared_75 B_X12_compared_90
            simp (disch := omega) only [gim_28, h55, ob_some, hk, m28, lit, nI_add, pim_28, eq_T, reduceIte, u2_s, u2_u2, Nat.add_zero]
            rfl
        · by_cases cn : bt T (P + 1) = 61
          · have := bt_far (T := T) (s := P + 1) (by omega)
            rw [cn, sI_n (by omega)] at g3s
            refine ⟨P + 1 + 1, 0, ?_, by omega, ?_⟩
            · rw [heE, if_pos (by omega)]
            · rcases c with c | c | c
              · have e6 : sgn1 T P = 257 := by rw [hgE, if_pos (by omega)]
                rw [e37, e6, c]
                unfold B_X12_compared_37 B_X12_compared_75 B_X12_compared_90
                simp (disch := omega) only [gim_28, h55, ob_some, hk, m28, lit, nI_add, pim_28, eq_T, eq_F, reduceIte, u2_s, u2_u2, g3s]
                rfl
              · exact absurd c c61
              · have e6 : sgn1 T P = 258 := by rw [hgE, if_neg (by omega), if_pos (by omega)]
                rw [e37, e6, c]
                unfold B_X12_compared_37 B_X12_compared_75 B_X12_compared_90
                simp (disch := omega) only [gim_28, h55, ob_some, hk, m28, lit, nI_add, pim_28, eq_T, eq_F, reduceIte, u2_s, u2_u2, g3s]
                rfl
          · refine ⟨P + 1, 0, ?_, by omega, ?_⟩
            · rw [heE, if_neg (by omega)]
            · rcases c with c | c | c
              · have e6 : sgn1 T P = 60 := by rw [hgE, if_neg (by omega), if_neg (by omega)]; exact c
                rw [e37, e6, c]
                unfold B_X12_compared_37 B_X12_compared_74 B_X12_compared_75 B_X12_compared_90
                simp (disch := omega) only [gim_28, h55, ob_some, hk, m28, lit, nI_add, pim_28, eq_T, eq_F, reduceIte, u2_s, u2_u2, g3s, sI_eqc, cn, Nat.add_zero]
                rfl
              · exact absurd c c61
              · have e6 : sgn1 T P = 62 := by rw [hgE, if_neg (by omega), if_neg (by omega)]; exact c
                rw [e37, e6, c]
                unfold B_X12_compared_37 B_X12_compared_74 B_X12_compared_75 B_X12_compared_90
                simp (disch := omega) only [gim_28, h55, ob_some, hk, m28, lit, nI_add, pim_28, eq_T, eq_F, reduceIte, u2_s, u2_u2, g3s, sI_eqc, cn, Nat.add_zero]
                rfl
      rcases k3 with ⟨c6, k3⟩ | ⟨c6, k3, k4⟩
      · rw [if_pos c6] at hx2' hG3
        obtain ⟨E, y, hE, hE4, hF⟩ := fin 0 mc k3.2.1 k3.1 k1
        rw [← hE] at hx2' hG3 hend
        have hEP : P < E := by rw [hE, heE]; split <;> omega
        have k5 := k3.p (p1 := E) hend
        obtain ⟨mw, y1, y2, y3⟩ := suM (q := q) (st := sgn1 T P :: st) hr ho (by omega) (fun x r e => by simp only [List.cons.injEq] at e; rw [← e.1]; omega) k5 rfl hty1 (by omega) hG3
        have fr : FrS r o m mw := ((v2.trans (k2 o) (Nat.le_refl _)).up (by omega)).trans y2 (Nat.le_refl _)
        have hR := w1.trans (R1.one hx2')
        rcases y3 with ⟨fl, t1, t2⟩ | ⟨x', t1, t2, t3, t4⟩
        · refine ⟨mw, ?_, fr, .inl ⟨fl, hR.trans t1, t2⟩⟩
          rw [hF, y1, ob_some]
          exact c139 t2 _
        · obtain ⟨a2, it2, cd2, U2, rfl, hM2, hU2, hty2, hpu2, hG4⟩ := t2
          have t4 : E ≤ a2 := t4
          generalize hgg : sgn1 T P = g at *
          have hU2' : ∀ u, u ∈ U2 ++ [g] → 4 ≤ bd u := fun u hu => by
            rcases List.mem_append.mp hu with h | h
            · have := hU2 u h; omega
            · rw [List.mem_singleton] at h; rw [h]; omega
          have est : U2 ++ g :: st = (U2 ++ [g]) ++ st := by rw [List.append_assoc]; rfl
          have ecd : cd2 ++ U2.map en ++ [en g] = cd2 ++ (U2 ++ [g]).map en := by rw [List.map_append, List.append_assoc]; rfl
          obtain ⟨s1, s2, s3⟩ := hG4.bnd hT4 (fun u hu => by have := hU2 u hu; omega)
          obtain ⟨me, e1, e2, e3⟩ := hM2.entry (q := q) (k := ent g) (v := 0) hr (by omega)
          have e3 : MB T r o me (sp isB T a2) (cd2 ++ U2.map en ++ [en g]) it2 := e3
          have hty3 : tys (cd2 ++ U2.map en ++ [en g]) [] = some (true :: tl) := tys_one hty2 (ty4 hbd4 _)
          have hpu3 : pushes (cd2 ++ U2.map en ++ [en g]) ≤ it2 := by rw [pushes_en (by omega)]; exact hpu2
          rw [ecd] at e3 hty3 hpu3
          have hRt := hR.trans t1
          rw [est] at hRt hG4 t3
          refine ⟨me, ?_, fr.trans e2 (by omega), .inr ⟨_, hRt, ⟨a2, it2, cd2, U2 ++ [g], rfl, e3, hU2', hty3, hpu3, hG4⟩, t3, by show a ≤ a2; omega⟩⟩
          rw [hF, y1, ob_some]
          unfold B_X12_compared_139
          simp only [lit, e1, ob_some]
      · rw [if_neg (by omega)] at hx2'
        obtain ⟨E, y, hE, hE4, hF⟩ := fin 0 mc k4 k3.1 k1
        have k5 := k3.p (p1 := E) (by omega)
        obtain ⟨mw, y1, y2, y3⟩ := suD (q := q) k5
        refine ⟨mw, ?_, ((v2.trans (k2 o) (Nat.le_refl _)).up (by omega)).trans (y2 o) (Nat.le_refl _), .inl ⟨_, w1.trans (R1.one hx2'), y3⟩⟩
        rw [hF, y1, ob_some]
        exact c139 y3 _
    · have n1 : bt T (sp isB T a1) ≠ 60 := by omega
      have n2 : bt T (sp isB T a1) ≠ 61 := by omega
      have n3 : bt T (sp isB T a1) ≠ 62 := by omega
      have hb4 : bd (sgn1 T (sp isB T a1)) ≠ 4 := fun h4 => c (sg_4 hbp h4)
      have hx2' : rst T (0, a1, 3, 1, U ++ st, it1, cl, c1, cd1) = ft (1 + 8 * sp isB T a1 + 0) := by
        rw [hx2]
        unfold sB sE
        rw [if_neg (fun h => hb5 h.1), if_neg (fun h => hb4 h.1), if_neg (fun h => by omega), if_neg (fun h => by omega), if_neg (fun h => by omega), if_neg (fun h => h.2 rfl)]
      obtain ⟨f1, f2⟩ := hM.fails (q := q) (s := sp isB T a1) (c := 0) (by omega) (by omega)
      refine ⟨_, ?_, v2.up (by omega), .inl ⟨_, w1.trans (R1.one hx2'), f2⟩⟩
      have h55 := hM.2.1
      unfold F_X12_compared
      simp (disch := omega) only [gdm, v1, ob_some, hsg, lit, sI_eqc, n1, n2, n3, reduceIte, gim_28, h55, f1]
