/-! acts -/
def upA (A : Nat → Nat → Nat) (j0 p v : Nat) : Nat → Nat → Nat := fun j k => if j = j0 ∧ k = p then v else A j k
set_option maxRecDepth 4000 in
theorem up_j {A : Nat → Nat → Nat} {j0 p v j k : Nat} (h : j ≠ j0) : upA A j0 p v j k = A j k := by
  unfold upA; rw [if_neg (fun g => h g.1)]
set_option maxRecDepth 4000 in
theorem up_k {A : Nat → Nat → Nat} {j0 p v j k : Nat} (h : k ≠ p) : upA A j0 p v j k = A j k := by
  unfold upA; rw [if_neg (fun g => h g.2)]
set_option maxRecDepth 4000 in
theorem up_s {A : Nat → Nat → Nat} {j0 p v : Nat} : upA A j0 p v j0 p = v := by
  unfold upA; rw [if_pos ⟨rfl, rfl⟩]
set_option maxRecDepth 4000 in
theorem blk_u2 {m : Nat → Nat → Int32} {b j0 p j k : Nat} {x : Int32} : blk (mk_u2 m (b + j0) p x) b j k = if j = j0 ∧ k = p then x else blk m b j k := by
  unfold blk; rw [u2_at]
  by_cases h : j = j0 ∧ k = p
  · rw [if_pos h, if_pos ⟨by omega, h.2⟩]
  · rw [if_neg h, if_neg (fun g => h ⟨by omega, g.2⟩)]
set_option maxRecDepth 4000 in
theorem SR.up {P A : Nat → Nat → Nat} {s s1 : Nat → Nat → Int32} {j0 p v : Nat} (h : SR P s A) (hs : ∀ j k, s1 j k = if j = j0 ∧ k = p then nI v else s j k) (hj : (j0 = 1 ∧ v < P 0 0 * P 0 0) ∨ (j0 = 2 ∧ v < 4) ∨ (j0 = 3 ∧ v ≤ 99)) : SR P s1 (upA A j0 p v) := by
  obtain ⟨h1, h2, h3, h4, h5, h6, h7, h8⟩ := h
  have ej : ∀ j k, j ≠ j0 → s1 j k = s j k := fun j k hne => by rw [hs, if_neg (fun g => hne g.1)]
  have ei : ∀ k, k ≠ p → s1 j0 k = s j0 k := fun k hne => by rw [hs, if_neg (fun g => hne g.2)]
  have es : s1 j0 p = nI v := by rw [hs, if_pos ⟨rfl, rfl⟩]
  refine ⟨fun p' hp' => ?_, fun k hk => ?_, fun c hc => ?_, ?_, ?_, fun p' a b => ?_, fun k a b => ?_, fun c a b => ?_⟩
  · obtain ⟨a1, a2, a3, a4, a5⟩ := h1 p' hp'
    rw [ej 4 p' (by omega), up_j (show 4 ≠ j0 by omega), up_j (show 0 ≠ j0 by omega), ej 5 p' (by omega), up_j (show 5 ≠ j0 by omega)]
    rcases hj with ⟨rfl, hv⟩ | ⟨rfl, hv⟩ | ⟨rfl, hv⟩
    · rw [ej 2 p' (by omega), up_j (show 2 ≠ 1 by omega), ej 3 p' (by omega), up_j (show 3 ≠ 1 by omega)]
      refine ⟨?_, a2, a3, a4, a5⟩
      by_cases e : p' = p
      · subst e; rw [es, up_s]; exact ⟨rfl, hv⟩
      · rw [ei _ e, up_k e]; exact a1
    · rw [ej 1 p' (by omega), up_j (show 1 ≠ 2 by omega), ej 3 p' (by omega), up_j (show 3 ≠ 2 by omega)]
      refine ⟨a1, ?_, a3, a4, a5⟩
      by_cases e : p' = p
      · subst e; rw [es, up_s]; exact ⟨rfl, hv⟩
      · rw [ei _ e, up_k e]; exact a2
    · rw [ej 1 p' (by omega), up_j (show 1 ≠ 3 by omega), ej 2 p' (by omega), up_j (show 2 ≠ 3 by omega)]
      refine ⟨a1, a2, ?_, a4, a5⟩
      by_cases e : p' = p
      · subst e; rw [es, up_s]; exact ⟨rfl, hv⟩
      · rw [ei _ e, up_k e]; exact a3
  · rw [ej 6 k (by omega), up_j (show 6 ≠ j0 by omega)]; exact h2 k hk
  · rw [ej 7 c (by omega), up_j (show 7 ≠ j0 by omega)]; exact h3 c hc
  · rw [ej 0 7 (by omega), up_j (show 0 ≠ j0 by omega)]; exact h4
  · rw [ej 0 8 (by omega), up_j (show 0 ≠ j0 by omega)]; exact h5
  · rw [ej 4 p' (by omega)]; exact h6 p' a b
  · rw [ej 6 k (by omega)]; exact h7 k a b
  · rw [ej 7 c (by omega)]; exact h8 c a b
set_option maxRecDepth 4000 in
theorem MS.up {P A : Nat → Nat → Nat} {s s1 : Nat → Nat → Int32} {j0 p v : Nat} (h : MS P s A) (hs : ∀ j k, s1 j k = if j = j0 ∧ k = p then nI v else s j k) (hj : (j0 = 1 ∧ v < P 0 0 * P 0 0) ∨ (j0 = 2 ∧ v < 4) ∨ (j0 = 3 ∧ v ≤ 99)) : MS P s1 (upA A j0 p v) := by
  obtain ⟨h1, h2, h3, h4, h5⟩ := h
  have ej : ∀ j k, j ≠ j0 → s1 j k = s j k := fun j k hne => by rw [hs, if_neg (fun g => hne g.1)]
  have ei : ∀ k, k ≠ p → s1 j0 k = s j0 k := fun k hne => by rw [hs, if_neg (fun g => hne g.2)]
  have es : s1 j0 p = nI v := by rw [hs, if_pos ⟨rfl, rfl⟩]
  refine ⟨fun p' hp' => ?_, fun k hk => ?_, fun c hc => ?_, ?_, ?_⟩
  · obtain ⟨a1, a2, a3, a4, a5⟩ := h1 p' hp'
    rw [ej 4 p' (by omega), up_j (show 4 ≠ j0 by omega), up_j (show 0 ≠ j0 by omega), ej 5 p' (by omega), up_j (show 5 ≠ j0 by omega)]
    rcases hj with ⟨rfl, hv⟩ | ⟨rfl, hv⟩ | ⟨rfl, hv⟩
    · rw [ej 2 p' (by omega), up_j (show 2 ≠ 1 by omega), ej 3 p' (by omega), up_j (show 3 ≠ 1 by omega)]
      refine ⟨?_, a2, a3, a4, a5⟩
      by_cases e : p' = p
      · subst e; rw [es, up_s]; exact ⟨rfl, hv⟩
      · rw [ei _ e, up_k e]; exact a1
    · rw [ej 1 p' (by omega), up_j (show 1 ≠ 2 by omega), ej 3 p' (by omega), up_j (show 3 ≠ 2 by omega)]
      refine ⟨a1, ?_, a3, a4, a5⟩
      by_cases e : p' = p
      · subst e; rw [es, up_s]; exact ⟨rfl, hv⟩
      · rw [ei _ e, up_k e]; exact a2
    · rw [ej 1 p' (by omega), up_j (show 1 ≠ 3 by omega), ej 2 p' (by omega), up_j (show 2 ≠ 3 by omega)]
      refine ⟨a1, a2, ?_, a4, a5⟩
      by_cases e : p' = p
      · subst e; rw [es, up_s]; exact ⟨rfl, hv⟩
      · rw [ei _ e, up_k e]; exact a3
  · rw [ej 6 k (by omega), up_j (show 6 ≠ j0 by omega)]; exact h2 k hk
  · rw [ej 7 c (by omega), up_j (show 7 ≠ j0 by omega)]; exact h3 c hc
  · rw [ej 0 6 (by omega), up_j (show 0 ≠ j0 by omega)]; exact h4
  · rw [ej 0 5 (by omega), up_j (show 0 ≠ j0 by omega)]; exact h5
set_option maxRecDepth 4000 in
theorem SR.upo {P A : Nat → Nat → Nat} {s s1 : Nat → Nat → Int32} {o : Nat} (h : SR P s A) (hs : ∀ j k, s1 j k = if j = 0 ∧ k = 7 then nI o else s j k) (ho : o < 16) : SR P s1 (upA A 0 0 o) := by
  obtain ⟨h1, h2, h3, h4, h5, h6, h7, h8⟩ := h
  have ej : ∀ j k, j ≠ 0 → s1 j k = s j k := fun j k hne => by rw [hs, if_neg (fun g => hne g.1)]
  have e8 : s1 0 8 = s 0 8 := by rw [hs, if_neg (fun g => absurd g.2 (by omega))]
  have es : s1 0 7 = nI o := by rw [hs, if_pos ⟨rfl, rfl⟩]
  refine ⟨fun p' hp' => ?_, fun k hk => ?_, fun c hc => ?_, ?_, ?_, fun p' a b => ?_, fun k a b => ?_, fun c a b => ?_⟩
  · have a := h1 p' hp'
    rw [ej 1 p' (by omega), ej 2 p' (by omega), ej 3 p' (by omega), ej 4 p' (by omega), ej 5 p' (by omega), up_j (show 1 ≠ 0 by omega), up_j (show 2 ≠ 0 by omega), up_j (show 3 ≠ 0 by omega), up_j (show 4 ≠ 0 by omega), up_j (show 5 ≠ 0 by omega), up_k (show 1 ≠ 0 by omega)]
    exact a
  · rw [ej 6 k (by omega), up_j (show 6 ≠ 0 by omega)]; exact h2 k hk
  · rw [ej 7 c (by omega), up_j (show 7 ≠ 0 by omega)]; exact h3 c hc
  · rw [es, up_s]; exact ⟨rfl, ho⟩
  · rw [e8, up_k (show 1 ≠ 0 by omega)]; exact h5
  · rw [ej 4 p' (by omega)]; exact h6 p' a b
  · rw [ej 6 k (by omega)]; exact h7 k a b
  · rw [ej 7 c (by omega)]; exact h8 c a b
set_option maxRecDepth 4000 in
theorem MS.upo {P A : Nat → Nat → Nat} {s s1 : Nat → Nat → Int32} {o : Nat} (h : MS P s A) (hs : ∀ j k, s1 j k = if j = 0 ∧ k = 6 then nI o else s j k) (ho : o < 16) : MS P s1 (upA A 0 0 o) := by
  obtain ⟨h1, h2, h3, h4, h5⟩ := h
  have ej : ∀ j k, j ≠ 0 → s1 j k = s j k := fun j k hne => by rw [hs, if_neg (fun g => hne g.1)]
  have e8 : s1 0 5 = s 0 5 := by rw [hs, if_neg (fun g => absurd g.2 (by omega))]
  have es : s1 0 6 = nI o := by rw [hs, if_pos ⟨rfl, rfl⟩]
  refine ⟨fun p' hp' => ?_, fun k hk => ?_, fun c hc => ?_, ?_, ?_⟩
  · have a := h1 p' hp'
    rw [ej 1 p' (by omega), ej 2 p' (by omega), ej 3 p' (by omega), ej 4 p' (by omega), ej 5 p' (by omega), up_j (show 1 ≠ 0 by omega), up_j (show 2 ≠ 0 by omega), up_j (show 3 ≠ 0 by omega), up_j (show 4 ≠ 0 by omega), up_j (show 5 ≠ 0 by omega), up_k (show 1 ≠ 0 by omega)]
    exact a
  · rw [ej 6 k (by omega), up_j (show 6 ≠ 0 by omega)]; exact h2 k hk
  · rw [ej 7 c (by omega), up_j (show 7 ≠ 0 by omega)]; exact h3 c hc
  · rw [es, up_s]; exact ⟨rfl, ho⟩
  · rw [e8, up_k (show 1 ≠ 0 by omega)]; exact h5
set_option maxRecDepth 4000 in
theorem nv_blk {P A : Nat → Nat → Nat} {m : Nat → Nat → Int32} (h : MS P (nv m) A) : MS P (blk m 997) A := h
set_option maxRecDepth 4000 in
theorem blk_nv {P A : Nat → Nat → Nat} {m : Nat → Nat → Int32} (h : MS P (blk m 997) A) : MS P (nv m) A := h
set_option maxRecDepth 4000 in
theorem mp_of {m : Nat → Nat → Int32} {P : Nat → Nat → Nat} (h : PW (fun j k => nv m (vp j) k) P) (h0 : 0 < P 0 0) : MP m P := by
  refine (h.there h0).congr (fun k hk => rfl) (fun j k h1 h2 hk => ?_) (fun j k h1 h2 hk => ?_)
  · rcases (show j = 1 ∨ j = 2 ∨ j = 3 by omega) with e | e | e <;> subst e <;> rfl
  · rcases (show j = 4 ∨ j = 5 ∨ j = 6 ∨ j = 7 by omega) with e | e | e | e <;> subst e <;> rfl
set_option maxRecDepth 4000 in
/-- an act is done on both sides -/
theorem act_fin {T : TT} {R : Nat × (Nat → RT)} {P A A1 : Nat → Nat → Nat} {H H1 : Nat → Nat → Nat → Nat} {n n1 : Nat} {N : Nat → Nat → Nat} {nn fo x : Nat} {IM : Nat → WT} {md : Nat → Bool} {m m2 m4 : Nat → Nat → Int32} (hC : CI (T, R, (P, A, H, n, N, nn, fo, x), IM, md) m) (hM : MI (T, R, (P, A, H, n, N, nn, fo, x), IM, md) m) (hE : EX m) (c1 : ∀ i, i < 23 ∨ 193 ≤ i → m2 i = m i) (cA : SR P (blk m2 23) A1) (ch : A1 0 1 ≤ 999) (cH : HistC P H1 n1 m2 31) (d1 : ∀ i, i < 996 ∨ 1004 < i → i ≠ 1033 → m4 i = m2 i) (d2 : ∀ k, k ≠ 50 → k ≠ 51 → k ≠ 52 → m4 996 k = m2 996 k) (d3 : MW (nv m4) (P, A1, H1, n1, N, nn, fo, x)) : Inv m4 ∧ ∀ i, 1041 ≤ i → m4 i = m i := by
  obtain ⟨B0, B1, B2, B3, B4, B5⟩ := d3.1.bd
  have e : ∀ i, i < 23 ∨ 193 ≤ i → i < 996 ∨ 1004 < i → i ≠ 1033 → m4 i = m i := fun i h1 h2 h3 => (d1 i h2 h3).trans (c1 i h1)
  have e96 : ∀ k, k ≠ 50 → k ≠ 51 → k ≠ 52 → m4 996 k = m 996 k := fun k h1 h2 h3 => (d2 k h1 h2 h3).trans (by rw [c1 _ (by omega)])
  have e1041 : ∀ i, 1041 ≤ i → m4 i = m i := fun i hi => e i (by omega) (by omega) (by omega)
  refine ⟨⟨⟨(T, R, (P, A1, H1, n1, N, nn, fo, x), IM, md), ?_, ?_⟩, hE.up e1041⟩, e1041⟩
  · have hW := hC.2.2.1
    refine CI.now (m := m) hC (CW.hs (m := m) hW.1 (fun i h1 h2 h3 => e i (by omega) (by omega) (by omega)) ?_ ch ?_) hW.2 (by rw [e _ (by omega) (by omega) (by omega)]) (e _ (by omega) (by omega) (by omega)) (by rw [e _ (by omega) (by omega) (by omega)]) (fun i _ _ => e i (by omega) (by omega) (by omega)) (fun i _ _ => e i (by omega) (by omega) (by omega))
    · exact cA.set (SEq.of (fun j hj => d1 _ (by omega) (by omega))) B2 B3 B5
    · exact cH.congr B2 B3 B5 (fun i h1 h2 => d1 i (by omega) (by omega))
  · exact MI.now (m := m) hM d3 (e96 _ (by omega) (by omega) (by omega)) (e96 _ (by omega) (by omega) (by omega)) (e96 _ (by omega) (by omega) (by omega)) (e96 _ (by omega) (by omega) (by omega)) (fun i h1 h2 => e i (by omega) (by omega) (by omega)) (fun k _ => by rw [e _ (by omega) (by omega) (by omega)]) (e _ (by omega) (by omega) (by omega))
set_option maxRecDepth 4000 in
/-- what is changed of the reference behind a kept act -/
theorem act_mw {P A A1 : Nat → Nat → Nat} {H : Nat → Nat → Nat → Nat} {n : Nat} {N : Nat → Nat → Nat} {nn fo x : Nat} {m3 m4 : Nat → Nat → Int32} (h : MW (nv m3) (P, A, H, n, N, nn, fo, x)) (e1 : ∀ i, i < 997 ∨ 1004 < i → m4 i = m3 i) (e0 : ∀ k, k < 10 → k ≠ 5 → k ≠ 6 → m4 997 k = m3 997 k) (hA : MS P (blk m4 997) A1) (hh : A1 0 1 ≤ 999) : MW (nv m4) (P, A1, H, n, N, nn, fo, x) := by
  obtain ⟨mP, ⟨mA, mAh⟩, ⟨mh1, mh2, mh3⟩, hrest⟩ := id h
  obtain ⟨B0, B1, B2, B3, B4, B5⟩ := mP.bd
  refine MW.hs (v := nv m3) h (fun k hk h5 h6 => e0 k hk h5 h6) (fun j k h1 h2 hk => ?_) (blk_nv hA) hh ?_ mh2 (fun i hi => ⟨pv_congr (mh3 i hi).1 B2 B3 B5 (fun k hk => ?_), (mh3 i hi).2⟩)
  · rw [nv_mid (by omega) h2, nv_mid (by omega) h2, e1 _ (by omega)]
  · rw [nv_8, e1 _ (by omega)]; exact mh1
  · rw [nv_19, nv_19, e1 _ (by omega)]
/-- the RULE IN FORCE -/
def fR (fo : Nat) : Option Nat := match fo with | 0 => none | r + 1 => some (220 + 7 * r)
def frho (RS : Nat → RT) (fo : Nat) : Option RT := match fo with | 0 => none | r + 1 => some (RS r)
set_option maxRecDepth 4000 in
theorem numb_C {m : Nat → Nat → Int32} {q : Nat → Nat → Int64} {fo : Nat} (hf : fo ≤ 6) : F_X2_numbered 13 (fI fo) (KS, m, q) = some (fR fo, (KS, m, q)) := by
  have hl : mk_len (KS, m, q) 197 = some (nI 6) := len_ok kk_197 (by omega) (by omega)
  unfold F_X2_numbered B_X2_numbered_22
  cases fo with
  | zero =>
    simp only [fI, fR, gdc_13, lit, m1_lt0, reduceIte]
  | succ r =>
    simp (disch := omega) only [fI, fR, gdc_13, gac_13_1, ob_some, lit, lt_F, le_F, reduceIte, hl, lda_197]
set_option maxRecDepth 4000 in
theorem inForce_C {m : Nat → Nat → Int32} {q : Nat → Nat → Int64} {fo : Nat} (h : m 14 4 = fI fo) (hf : fo ≤ 6) : F_X2_inForce 13 (KS, m, q) = some (fR fo, (KS, m, q)) := by
  unfold F_X2_inForce
  simp only [gdc_13, gac_13_0, gic_14_4, ob_some, h, numb_C hf]
set_option maxRecDepth 4000 in
theorem rb_of {r : Nat} (h : r < 6) : 220 + 7 * r ∈ RB := by
  rcases (show r = 0 ∨ r = 1 ∨ r = 2 ∨ r = 3 ∨ r = 4 ∨ r = 5 by omega) with e | e | e | e | e | e <;> subst e <;> decide
set_option maxRecDepth 4000 in
theorem forC_of {m : Nat → Nat → Int32} {nr fo : Nat} {RS : Nat → RT} (h : ∀ r, r < nr → RuleC m (220 + 7 * r) (RS r)) (hn : nr ≤ 6) (hf : fo ≤ nr) : ForC m (fR fo) (frho RS fo) := by
  cases fo with
  | zero => trivial
  | succ r => exact ⟨rb_of (by omega), h r (by omega)⟩
set_option maxRecDepth 4000 in
theorem forM_of {m : Nat → Nat → Int32} {nr fo : Nat} {RS : Nat → RT} (h : ∀ r, r < nr → RuleM m r (RS r)) (hn : nr ≤ 6) (hf : fo ≤ nr) (h9 : m 997 9 = fI fo) : ForM m (frho RS fo) := by
  cases fo with
  | zero => exact h9
  | succ r => exact ⟨r, by omega, h9, h r (by omega)⟩
set_option maxRecDepth 4000 in
theorem op_hour : OP (F_X11_hour 0) (F_X12_hour 996) := by
  intro m q hI
  obtain ⟨⟨⟨⟨len, by_⟩, ⟨nr, RS⟩, ⟨P, A, H, n, N, nn, fo, x⟩, IM, md⟩, hC, hM⟩, hE⟩ := id hI
  obtain ⟨⟨ct1, ct2, ct3⟩, ⟨cr1, cr2, cr3⟩, ⟨⟨cP, ⟨cA, cAh⟩, cH, ⟨cn1, cn2⟩, ⟨cf1, cf2⟩, ⟨cx1, cx2⟩⟩, cwf⟩, cm1, cm2⟩ := id hC
  obtain ⟨⟨mt1, mt2⟩, ⟨mr1, mr2⟩, ⟨mP, ⟨mA, mAh⟩, ⟨mh1, mh2, mh3⟩, ⟨mn1, mn2⟩, ⟨mf1, mf2⟩, ⟨mx1, mx2⟩⟩, mm1, mm2, mw, ms⟩ := id hM
  have cP5 : m 15 0 = nI (P 0 0) ∧ m 15 1 = nI (P 0 1) ∧ m 15 2 = nI (P 0 2) ∧ m 15 3 = nI (P 0 3) ∧ m 15 4 = nI (P 0 4) := cP.five
  have mP5 : m 997 0 = nI (P 0 0) ∧ m 997 1 = nI (P 0 1) ∧ m 997 2 = nI (P 0 2) ∧ m 997 3 = nI (P 0 3) ∧ m 997 4 = nI (P 0 4) := mP.five
  obtain ⟨B0, B1, B2, B3, B4, B5⟩ := cP.bd
  by_cases h0 : P 0 0 = 0
  · refine ⟨-nI 1, m, q, m, q, ?_, ?_, hI, fun _ _ => rfl⟩
    · unfold F_X11_hour; simp (disch := omega) only [ob_some, reduceIte, lit, le_T, le_F, lt_T, lt_F, eq_T, eq_F, nI_add, gac_0_0, gac_0_1, gac_0_2, gac_0_3, gac_0_4, gac_0_5, gac_0_6, gac_1_0, gic_1_1, gic_1_2, gic_1_3, gic_1_4, gic_1_5, gic_1_6, gac_3_0, gic_3_1, gic_3_2, gic_3_3, gic_3_4, gic_3_5, gic_3_6, gic_3_7, gic_5_0, gic_5_1, gic_5_2, gic_5_3, gic_5_4, gac_5_5, gac_5_6, gac_5_7, gac_5_8, gac_5_9, gac_5_10, gac_5_11, gac_13_0, gac_13_1, gic_13_2, gac_13_3, gac_13_4, gac_13_5, gac_13_6, gac_13_7, gac_13_8, gac_13_9, gic_13_10, gic_13_11, gic_13_12, gic_13_13, gac_14_0, gac_14_1, gac_14_2, gac_14_3, gic_14_4, gic_14_5, gic_15_0, gic_15_1, gic_15_2, gic_15_3, gic_15_4, gac_15_5, gac_15_6, gac_15_7, gac_15_8, gac_15_9, gac_15_10, gac_15_11, gac_23_0, gac_23_1, gac_23_2, gac_23_3, gac_23_4, gac_23_5, gac_23_6, gic_23_7, gic_23_8, gac_31_0, gic_31_1, gic_31_2, gac_193_0, gac_193_1, gac_193_2, gic_193_3, gac_198_0, gac_200_0, gac_200_1, gac_200_2, gac_200_3, gac_200_4, gac_200_5, gac_200_6, gic_200_7, gic_200_8, pic_1_1, pic_1_2, pic_1_3, pic_1_4, pic_1_5, pic_1_6, pic_3_1, pic_3_2, pic_3_3, pic_3_4, pic_3_5, pic_3_6, pic_3_7, pic_5_0, pic_5_1, pic_5_2, pic_5_3, pic_5_4, pic_13_2, pic_13_10, pic_13_11, pic_13_12, pic_13_13, pic_14_4, pic_14_5, pic_15_0, pic_15_1, pic_15_2, pic_15_3, pic_15_4, pic_23_7, pic_23_8, pic_31_1, pic_31_2, pic_193_3, pic_200_7, pic_200_8, gdc_0, gdc_1, gdc_3, gdc_5, gdc_13, gdc_14, gdc_15, gdc_23, gdc_31, gdc_193, gdc_198, gdc_200, ldc_2, stc_2, ldc_4, stc_4, ldc_6, stc_6, ldc_7, stc_7, ldc_8, stc_8, ldc_9, stc_9, ldc_10, stc_10, ldc_11, stc_11, ldc_12, stc_12, ldc_16, stc_16, ldc_17, stc_17, ldc_18, stc_18, ldc_19, stc_19, ldc_20, stc_20, ldc_21, stc_21, ldc_22, stc_22, ldc_24, stc_24, ldc_25, stc_25, ldc_26, stc_26, ldc_27, stc_27, ldc_28, stc_28, ldc_29, stc_29, ldc_30, stc_30, ldc_194, stc_194, ldc_195, stc_195, ldc_196, stc_196, ldc_199, stc_199, ldc_201, stc_201, ldc_202, stc_202, ldc_203, stc_203, ldc_204, stc_204, ldc_205, stc_205, ldc_206, stc_206, ldc_207, stc_207, ldc_208, stc_208, ldc_209, stc_209, ldc_210, stc_210, ldc_211, stc_211, ldc_213, stc_213, ldc_214, stc_214, ldc_215, stc_215, ldc_216, stc_216, ldc_217, stc_217, ldc_218, stc_218, ldc_219, stc_219, ldc_263, stc_263, lda_197, lda_262, lda_212, lda_32, u2_s, u2_a, u2_b, isPla_C cP5.1, h0]
    · unfold F_X12_hour; simp (disch := omega) only [gdm, gam_1, gam_2, gam_3, gam_4, gam_5, gam_6, gam_7, gam_8, gam_9, gam_10, gam_11, gam_12, gam_13, gam_14, gam_15, gam_16, gam_17, gam_18, gam_19, gam_20, gam_21, gam_22, gam_23, gam_24, gam_25, gam_26, gam_37, gam_38, gam_39, gam_40, gam_41, gam_42, gam_43, gam_44, gam_45, gam_46, gam_48, gam_49, gam_56, gam_57, gam_58, gam_59, gam_60, gam_61, gim_27, gim_28, gim_29, gim_30, gim_31, gim_32, gim_33, gim_34, gim_35, gim_36, gim_47, gim_50, gim_51, gim_52, gim_53, gim_54, gim_55, gim_62, gim_63, ob_some, reduceIte, lit, le_T, le_F, lt_T, lt_F, eq_T, eq_F, nI_add, ldm_997, stm_997, ldm_998, stm_998, ldm_999, stm_999, ldm_1000, stm_1000, ldm_1001, stm_1001, ldm_1002, stm_1002, ldm_1003, stm_1003, ldm_1004, stm_1004, ldm_1005, stm_1005, ldm_1006, stm_1006, ldm_1007, stm_1007, ldm_1008, stm_1008, ldm_1009, stm_1009, ldm_1010, stm_1010, ldm_1011, stm_1011, ldm_1012, stm_1012, ldm_1013, stm_1013, ldm_1014, stm_1014, ldm_1015, stm_1015, ldm_1016, stm_1016, ldm_1017, stm_1017, ldm_1018, stm_1018, ldm_1019, stm_1019, ldm_1020, stm_1020, ldm_1021, stm_1021, ldm_1022, stm_1022, u2_s, u2_a, u2_b, not_true, not_false_iff, isPla_M mP5.1, h0]
  have c8 : m 23 8 = nI (A 0 1) := cA.2.2.2.2.1.1
  have d5 : m 997 5 = nI (A 0 1) := mA.2.2.2.2.1
  by_cases hh : A 0 1 = 999
  · refine ⟨-nI 1, m, q, m, q, ?_, ?_, hI, fun _ _ => rfl⟩
    · unfold F_X11_hour; simp (disch := omega) only [ob_some, reduceIte, lit, le_T, le_F, lt_T, lt_F, eq_T, eq_F, nI_add, gac_0_0, gac_0_1, gac_0_2, gac_0_3, gac_0_4, gac_0_5, gac_0_6, gac_1_0, gic_1_1, gic_1_2, gic_1_3, gic_1_4, gic_1_5, gic_1_6, gac_3_0, gic_3_1, gic_3_2, gic_3_3, gic_3_4, gic_3_5, gic_3_6, gic_3_7, gic_5_0, gic_5_1, gic_5_2, gic_5_3, gic_5_4, gac_5_5, gac_5_6, gac_5_7, gac_5_8, gac_5_9, gac_5_10, gac_5_11, gac_13_0, gac_13_1, gic_13_2, gac_13_3, gac_13_4, gac_13_5, gac_13_6, gac_13_7, gac_13_8, gac_13_9, gic_13_10, gic_13_11, gic_13_12, gic_13_13, gac_14_0, gac_14_1, gac_14_2, gac_14_3, gic_14_4, gic_14_5, gic_15_0, gic_15_1, gic_15_2, gic_15_3, gic_15_4, gac_15_5, gac_15_6, gac_15_7, gac_15_8, gac_15_9, gac_15_10, gac_15_11, gac_23_0, gac_23_1, gac_23_2, gac_23_3, gac_23_4, gac_23_5, gac_23_6, gic_23_7, gic_23_8, gac_31_0, gic_31_1, gic_31_2, gac_193_0, gac_193_1, gac_193_2, gic_193_3, gac_198_0, gac_200_0, gac_200_1, gac_200_2, gac_200_3, gac_200_4, gac_200_5, gac_200_6, gic_200_7, gic_200_8, pic_1_1, pic_1_2, pic_1_3, pic_1_4, pic_1_5, pic_1_6, pic_3_1, pic_3_2, pic_3_3, pic_3_4, pic_3_5, pic_3_6, pic_3_7, pic_5_0, pic_5_1, pic_5_2, pic_5_3, pic_5_4, pic_13_2, pic_13_10, pic_13_11, pic_13_12, pic_13_13, pic_14_4, pic_14_5, pic_15_0, pic_15_1, pic_15_2, pic_15_3, pic_15_4, pic_23_7, pic_23_8, pic_31_1, pic_31_2, pic_193_3, pic_200_7, pic_200_8, gdc_0, gdc_1, gdc_3, gdc_5, gdc_13, gdc_14, gdc_15, gdc_23, gdc_31, gdc_193, gdc_198, gdc_200, ldc_2, stc_2, ldc_4, stc_4, ldc_6, stc_6, ldc_7, stc_7, ldc_8, stc_8, ldc_9, stc_9, ldc_10, stc_10, ldc_11, stc_11, ldc_12, stc_12, ldc_16, stc_16, ldc_17, stc_17, ldc_18, stc_18, ldc_19, stc_19, ldc_20, stc_20, ldc_21, stc_21, ldc_22, stc_22, ldc_24, stc_24, ldc_25, stc_25, ldc_26, stc_26, ldc_27, stc_27, ldc_28, stc_28, ldc_29, stc_29, ldc_30, stc_30, ldc_194, stc_194, ldc_195, stc_195, ldc_196, stc_196, ldc_199, stc_199, ldc_201, stc_201, ldc_202, stc_202, ldc_203, stc_203, ldc_204, stc_204, ldc_205, stc_205, ldc_206, stc_206, ldc_207, stc_207, ldc_208, stc_208, ldc_209, stc_209, ldc_210, stc_210, ldc_211, stc_211, ldc_213, stc_213, ldc_214, stc_214, ldc_215, stc_215, ldc_216, stc_216, ldc_217, stc_217, ldc_218, stc_218, ldc_219, stc_219, ldc_263, stc_263, lda_197, lda_262, lda_212, lda_32, u2_s, u2_a, u2_b, isPla_C cP5.1, h0, c8]
    · unfold F_X12_hour; simp (disch := omega) only [gdm, gam_1, gam_2, gam_3, gam_4, gam_5, gam_6, gam_7, gam_8, gam_9, gam_10, gam_11, gam_12, gam_13, gam_14, gam_15, gam_16, gam_17, gam_18, gam_19, gam_20, gam_21, gam_22, gam_23, gam_24, gam_25, gam_26, gam_37, gam_38, gam_39, gam_40, gam_41, gam_42, gam_43, gam_44, gam_45, gam_46, gam_48, gam_49, gam_56, gam_57, gam_58, gam_59, gam_60, gam_61, gim_27, gim_28, gim_29, gim_30, gim_31, gim_32, gim_33, gim_34, gim_35, gim_36, gim_47, gim_50, gim_51, gim_52, gim_53, gim_54, gim_55, gim_62, gim_63, ob_some, reduceIte, lit, le_T, le_F, lt_T, lt_F, eq_T, eq_F, nI_add, ldm_997, stm_997, ldm_998, stm_998, ldm_999, stm_999, ldm_1000, stm_1000, ldm_1001, stm_1001, ldm_1002, stm_1002, ldm_1003, stm_1003, ldm_1004, stm_1004, ldm_1005, stm_1005, ldm_1006, stm_1006, ldm_1007, stm_1007, ldm_1008, stm_1008, ldm_1009, stm_1009, ldm_1010, stm_1010, ldm_1011, stm_1011, ldm_1012, stm_1012, ldm_1013, stm_1013, ldm_1014, stm_1014, ldm_1015, stm_1015, ldm_1016, stm_1016, ldm_1017, stm_1017, ldm_1018, stm_1018, ldm_1019, stm_1019, ldm_1020, stm_1020, ldm_1021, stm_1021, ldm_1022, stm_1022, u2_s, u2_a, u2_b, not_true, not_false_iff, isPla_M mP5.1, h0, d5]
  obtain ⟨m1, z1, z2, z3⟩ := keep_ok (q := q) B2 B3 B5 cA cAh cH
  have hP1 : PR (blk m1 15) P := PR.keep (a := 15) (m := m) (cP.there (by omega)) (fun j hj => z3 _ (by omega))
  have hA1 : SR P (blk m1 23) A := cA.set (SEq.of (fun j hj => z3 _ (by omega))) B2 B3 B5
  have hF1 : ForC m1 (fR fo) (frho RS fo) := (forC_of cr3 cr2 cwf).congr (fun i h1 h2 => z3 i (by omega))
  have hf1 : m1 14 4 = fI fo := by rw [z3 _ (by omega)]; exact cf1
  obtain ⟨m2, q2, w1, w2, w3⟩ := pass_full (q := q) (kept := -nI 1) pb15 sb23 hP1 hA1 (by omega) (hE.up (fun i hi => z3 i (by omega))) hF1
  have e2 : ∀ i, i < 23 ∨ 193 ≤ i → m2 i = m i := fun i hi => (w2 i (by omega)).trans (z3 i (by omega))
  have hM2 : MI _ m2 := hM.same (fun i h1 h2 => e2 i (by omega))
  obtain ⟨m3, k1, k2, k3, k4, k5⟩ := keepsAct_ok (q := q2) m2 hM2.2.2.1
  have hP3 : MP m3 P := mp_of k2.1 (by omega)
  have hF3 : ForM m3 (frho RS fo) := forM_of (fun r hr => (mr2 r hr).congr (fun i h1 h2 => (k3 i (by omega) (by omega)).trans (e2 i (by omega)))) cr2 cwf k2.2.2.2.2.1.1
  have h47 : m3 996 47 = -nI 1 := (k4 47 (by omega) (by omega) (by omega)).trans (by rw [e2 _ (by omega)]; exact ms)
  obtain ⟨m4, q4, g1, g2, g3, g4⟩ := goes_full (q := q2) hP3 (nv_blk k2.2.1.1) (by omega) h47 hF3
  have hcH : HistC P (consH A H) (min 20 (n + 1)) m2 31 := z2.congr B2 B3 B5 (fun i h1 h2 => w2 i (by omega))
  obtain ⟨f1, f2⟩ := act_fin (m2 := m2) (m4 := m4) hC hM hE e2 w3 (show hourA P (frho RS fo) (-nI 1) A 0 1 ≤ 999 from (show A 0 1 + 1 ≤ 999 by omega)) hcH (fun i h1 h2 => (g2 i (by omega) (by omega) (by omega) (by omega) (by omega) (by omega)).trans (k3 i h1 h2)) (fun k h1 h2 h3 => (by rw [g2 996 (by omega) (by omega) (by omega) (by omega) (by omega) (by omega)]; exact k4 k h1 h2 h3)) (act_mw k2 (fun i hi => g2 i (by omega) (by omega) (by omega) (by omega) (by omega) (by omega)) (fun k _ h5 h6 => g3 k h5 h6) g4 (show A 0 1 + 1 ≤ 999 by omega))
  refine ⟨nI (gb (givesG P A (frho RS fo) (-nI 1)) (P 0 2)), m2, q2, m4, q4, ?_, ?_, f1, f2⟩
  rotate_left
  · unfold F_X12_hour
    simp (disch := omega) only [gdm, gam_1, gam_2, gam_3, gam_4, gam_5, gam_6, gam_7, gam_8, gam_9, gam_10, gam_11, gam_12, gam_13, gam_14, gam_15, gam_16, gam_17, gam_18, gam_19, gam_20, gam_21, gam_22, gam_23, gam_24, gam_25, gam_26, gam_37, gam_38, gam_39, gam_40, gam_41, gam_42, gam_43, gam_44, gam_45, gam_46, gam_48, gam_49, gam_56, gam_57, gam_58, gam_59, gam_60, gam_61, gim_27, gim_28, gim_29, gim_30, gim_31, gim_32, gim_33, gim_34, gim_35, gim_36, gim_47, gim_50, gim_51, gim_52, gim_53, gim_54, gim_55, gim_62, gim_63, ob_some, reduceIte, lit, le_T, le_F, lt_T, lt_F, eq_T, eq_F, nI_add, ldm_997, stm_997, ldm_998, stm_998, ldm_999, stm_999, ldm_1000, stm_1000, ldm_1001, stm_1001, ldm_1002, stm_1002, ldm_1003, stm_1003, ldm_1004, stm_1004, ldm_1005, stm_1005, ldm_1006, stm_1006, ldm_1007, stm_1007, ldm_1008, stm_1008, ldm_1009, stm_1009, ldm_1010, stm_1010, ldm_1011, stm_1011, ldm_1012, stm_1012, ldm_1013, stm_1013, ldm_1014, stm_1014, ldm_1015, stm_1015, ldm_1016, stm_1016, ldm_1017, stm_1017, ldm_1018, stm_1018, ldm_1019, stm_1019, ldm_1020, stm_1020, ldm_1021, stm_1021, ldm_1022, stm_1022, u2_s, u2_a, u2_b, not_true, not_false_iff, isPla_M (show m2 997 0 = nI (P 0 0) by rw [e2 _ (by omega)]; exact mP5.1), h0, show m2 997 5 = nI (A 0 1) by (rw [e2 _ (by omega)]; exact d5), k1, g1]
  · unfold F_X11_hour
    simp (disch := omega) only [ob_some, reduceIte, lit, le_T, le_F, lt_T, lt_F, eq_T, eq_F, nI_add, gac_0_0, gac_0_1, gac_0_2, gac_0_3, gac_0_4, gac_0_5, gac_0_6, gac_1_0, gic_1_1, gic_1_2, gic_1_3, gic_1_4, gic_1_5, gic_1_6, gac_3_0, gic_3_1, gic_3_2, gic_3_3, gic_3_4, gic_3_5, gic_3_6, gic_3_7, gic_5_0, gic_5_1, gic_5_2, gic_5_3, gic_5_4, gac_5_5, gac_5_6, gac_5_7, gac_5_8, gac_5_9, gac_5_10, gac_5_11, gac_13_0, gac_13_1, gic_13_2, gac_13_3, gac_13_4, gac_13_5, gac_13_6, gac_13_7, gac_13_8, gac_13_9, gic_13_10, gic_13_11, gic_13_12, gic_13_13, gac_14_0, gac_14_1, gac_14_2, gac_14_3, gic_14_4, gic_14_5, gic_15_0, gic_15_1, gic_15_2, gic_15_3, gic_15_4, gac_15_5, gac_15_6, gac_15_7, gac_15_8, gac_15_9, gac_15_10, gac_15_11, gac_23_0, gac_23_1, gac_23_2, gac_23_3, gac_23_4, gac_23_5, gac_23_6, gic_23_7, gic_23_8, gac_31_0, gic_31_1, gic_31_2, gac_193_0, gac_193_1, gac_193_2, gic_193_3, gac_198_0, gac_200_0, gac_200_1, gac_200_2, gac_200_3, gac_200_4, gac_200_5, gac_200_6, gic_200_7, gic_200_8, pic_1_1, pic_1_2, pic_1_3, pic_1_4, pic_1_5, pic_1_6, pic_3_1, pic_3_2, pic_3_3, pic_3_4, pic_3_5, pic_3_6, pic_3_7, pic_5_0, pic_5_1, pic_5_2, pic_5_3, pic_5_4, pic_13_2, pic_13_10, pic_13_11, pic_13_12, pic_13_13, pic_14_4, pic_14_5, pic_15_0, pic_15_1, pic_15_2, pic_15_3, pic_15_4, pic_23_7, pic_23_8, pic_31_1, pic_31_2, pic_193_3, pic_200_7, pic_200_8, gdc_0, gdc_1, gdc_3, gdc_5, gdc_13, gdc_14, gdc_15, gdc_23, gdc_31, gdc_193, gdc_198, gdc_200, ldc_2, stc_2, ldc_4, stc_4, ldc_6, stc_6, ldc_7, stc_7, ldc_8, stc_8, ldc_9, stc_9, ldc_10, stc_10, ldc_11, stc_11, ldc_12, stc_12, ldc_16, stc_16, ldc_17, stc_17, ldc_18, stc_18, ldc_19, stc_19, ldc_20, stc_20, ldc_21, stc_21, ldc_22, stc_22, ldc_24, stc_24, ldc_25, stc_25, ldc_26, stc_26, ldc_27, stc_27, ldc_28, stc_28, ldc_29, stc_29, ldc_30, stc_30, ldc_194, stc_194, ldc_195, stc_195, ldc_196, stc_196, ldc_199, stc_199, ldc_201, stc_201, ldc_202, stc_202, ldc_203, stc_203, ldc_204, stc_204, ldc_205, stc_205, ldc_206, stc_206, ldc_207, stc_207, ldc_208, stc_208, ldc_209, stc_209, ldc_210, stc_210, ldc_211, stc_211, ldc_213, stc_213, ldc_214, stc_214, ldc_215, stc_215, ldc_216, stc_216, ldc_217, stc_217, ldc_218, stc_218, ldc_219, stc_219, ldc_263, stc_263, lda_197, lda_262, lda_212, lda_32, u2_s, u2_a, u2_b, isPla_C cP5.1, h0, c8, z1, inForce_C hf1 cf2, w1]
