/-! RULES told: the reference; what is open -/
def StM (f : Nat → Int32) : List Nat → Prop
  | [] => True
  | x :: st => f st.length = nI (ent x) ∧ StM f st
set_option maxRecDepth 4000 in
theorem StM.congr {f g : Nat → Int32} : ∀ {st : List Nat}, StM f st → (∀ k, k < st.length → g k = f k) → StM g st
  | [], _, _ => trivial
  | x :: st, h, e => ⟨(e _ (by simp)).trans h.1, StM.congr h.2 (fun k hk => e k (by simp only [List.length_cons]; omega))⟩
def OS (m : Nat → Nat → Int32) (st : List Nat) : Prop := m 996 35 = nI st.length ∧ m 996 33 = nI (dp st) ∧ StM (m 1030) st
set_option maxRecDepth 4000 in
theorem OS.fs {r o : Nat} {m m1 : Nat → Nat → Int32} {st : List Nat} (h : OS m st) (e : FrS r o m m1) : OS m1 st := ⟨(e.2.1 _ (by omega) (by omega) (by omega) (by omega)).trans h.1, (e.2.1 _ (by omega) (by omega) (by omega) (by omega)).trans h.2.1, by rw [e.1 1030 (by omega) (by omega) (by omega)]; exact h.2.2⟩
def FrT (r o : Nat) (m m1 : Nat → Nat → Int32) : Prop := (∀ j, j ≠ 996 → j ≠ 1024 → j ≠ 1025 → j ≠ 1030 → m1 j = m j) ∧ (∀ k, k < 28 ∨ k = 30 ∨ k = 31 ∨ 35 < k → m1 996 k = m 996 k) ∧ (∀ k, k < 300 * r + o → m1 1024 k = m 1024 k ∧ m1 1025 k = m 1025 k)
set_option maxRecDepth 4000 in
theorem FrT.rf {r o : Nat} {m : Nat → Nat → Int32} : FrT r o m m := ⟨fun _ _ _ _ _ => rfl, fun _ _ => rfl, fun _ _ => ⟨rfl, rfl⟩⟩
set_option maxRecDepth 4000 in
theorem FrT.trans {r o o1 : Nat} {m m1 m2 : Nat → Nat → Int32} (h : FrT r o m m1) (h2 : FrT r o1 m1 m2) (ho : o ≤ o1) : FrT r o m m2 := ⟨fun j a1 a2 a3 a4 => (h2.1 j a1 a2 a3 a4).trans (h.1 j a1 a2 a3 a4), fun k a1 => (h2.2.1 k a1).trans (h.2.1 k a1), fun k hk => ⟨(h2.2.2 k (by omega)).1.trans (h.2.2 k hk).1, (h2.2.2 k (by omega)).2.trans (h.2.2 k hk).2⟩⟩
set_option maxRecDepth 4000 in
theorem FrS.t {r o : Nat} {m m1 : Nat → Nat → Int32} (h : FrS r o m m1) : FrT r o m m1 := ⟨fun j a1 a2 a3 _ => h.1 j a1 a2 a3, fun k hk => h.2.1 k (by omega) (by omega) (by omega) (by omega), h.2.2⟩
set_option maxRecDepth 4000 in
theorem FrT.up {r o k : Nat} {m m1 : Nat → Nat → Int32} {v : Int32} (h : FrT r o m m1) (hk : k = 28 ∨ k = 29 ∨ k = 32 ∨ k = 33 ∨ k = 34 ∨ k = 35) : FrT r o m (mk_u2 m1 996 k v) := ⟨fun j a1 a2 a3 a4 => (mk_u2_ne a1).trans (h.1 j a1 a2 a3 a4), fun k' a1 => (u2_b (by omega)).trans (h.2.1 k' a1), fun k' hk' => ⟨(u2_a (by omega)).trans (h.2.2 k' hk').1, (u2_a (by omega)).trans (h.2.2 k' hk').2⟩⟩
set_option maxRecDepth 4000 in
theorem FrT.up30 {r o k : Nat} {m m1 : Nat → Nat → Int32} {v : Int32} (h : FrT r o m m1) : FrT r o m (mk_u2 m1 1030 k v) := ⟨fun j a1 a2 a3 a4 => (mk_u2_ne a4).trans (h.1 j a1 a2 a3 a4), fun k' a1 => (u2_a (by omega)).trans (h.2.1 k' a1), fun k' hk' => ⟨(u2_a (by omega)).trans (h.2.2 k' hk').1, (u2_a (by omega)).trans (h.2.2 k' hk').2⟩⟩
set_option maxRecDepth 4000 in
/-- cells that MB and DD don't look at -/
theorem MB.x {T : TT} {r o : Nat} {m m1 : Nat → Nat → Int32} {p : Nat} {es : List (Nat × Nat)} {it : Nat} (h : MB T r o m p es it) (e : ∀ j, j ≠ 996 → j ≠ 1030 → m1 j = m j) (e2 : ∀ k, k ≠ 33 → k ≠ 35 → m1 996 k = m 996 k) : MB T r o m1 p es it := by
  obtain ⟨h1, h2, h3, h4, h5, h6, h7, h8, h9⟩ := h
  exact ⟨h1.eq (e2 _ (by omega) (by omega)) (e _ (by omega) (by omega)), (e2 _ (by omega) (by omega)).trans h2, h3, (e2 _ (by omega) (by omega)).trans h4, (e2 _ (by omega) (by omega)).trans h5, (e2 _ (by omega) (by omega)).trans h6, (e2 _ (by omega) (by omega)).trans h7, (e2 _ (by omega) (by omega)).trans h8, h9.fr (fun k _ => by rw [e 1024 (by omega) (by omega), e 1025 (by omega) (by omega)]; exact ⟨rfl, rfl⟩)⟩
set_option maxRecDepth 4000 in
theorem DD.x {T : TT} {r : Nat} {m m1 : Nat → Nat → Int32} {f : Nat} (h : DD T r m f) (e : ∀ j, j ≠ 996 → j ≠ 1030 → m1 j = m j) (e2 : ∀ k, k ≠ 33 → k ≠ 35 → m1 996 k = m 996 k) : DD T r m1 f := by
  obtain ⟨h1, h2, h3, h4, ⟨p, h5, h55⟩, h6, h7⟩ := h
  exact ⟨h1.eq (e2 _ (by omega) (by omega)) (e _ (by omega) (by omega)), (e2 _ (by omega) (by omega)).trans h2, h3, h4, ⟨p, h5, (e2 _ (by omega) (by omega)).trans h55⟩, (e2 _ (by omega) (by omega)).trans h6, (e2 _ (by omega) (by omega)).trans h7⟩
def tpI : List Nat → Int32
  | [] => -nI 1
  | s :: _ => nI (ent s)
set_option maxRecDepth 4000 in
theorem tpM {m : Nat → Nat → Int32} {q : Nat → Nat → Int64} {st : List Nat} (h : OS m st) (hl : st.length ≤ 402) : F_X12_top 996 (KS, m, q) = some (tpI st, (KS, m, q)) := by
  obtain ⟨h1, h2, h3⟩ := h
  unfold F_X12_top
  cases st with
  | nil =>
    have h1 : m 996 35 = nI 0 := h1
    simp (disch := omega) only [gdm, gim_35, ob_some, h1, lit, eq_T, reduceIte]
    rfl
  | cons s st =>
    obtain ⟨h3, -⟩ := h3
    simp only [List.length_cons] at h1 hl
    have hs : nI (st.length + 1) - nI 1 = nI st.length := pk_sub (by omega)
    simp (disch := omega) only [gdm, gim_35, ob_some, h1, lit, eq_F, reduceIte, gam_44, hs, ldm_1030, h3]
    rfl
set_option maxRecDepth 4000 in
theorem ent_lt (s : Nat) : ent s ≤ 15 := by
  unfold ent
  split
  · omega
  split
  · omega
  split
  · omega
  split
  · omega
  split
  · omega
  split
  · omega
  split
  · omega
  split
  · omega
  split
  · omega
  split
  · omega
  split
  · omega
  split
  · omega
  split <;> omega
set_option maxRecDepth 4000 in
/-- push -/
theorem psM {m : Nat → Nat → Int32} {q : Nat → Nat → Int64} {st : List Nat} {s : Nat} (h1 : m 996 35 = nI st.length) (hl : st.length < 402) : B_X12_opens_40 996 (nI (ent s)) (KS, m, q) = some ((), (KS, mk_u2 (mk_u2 m 1030 st.length (nI (ent s))) 996 35 (nI (st.length + 1)), q)) := by
  unfold B_X12_opens_40
  simp (disch := omega) only [gam_44, gim_35, ob_some, h1, stm_1030, lit, nI_add, pim_35, u2_s, u2_a, u2_b]
set_option maxRecDepth 4000 in
theorem op2M {T : TT} {r o p it : Nat} {es : List (Nat × Nat)} {m : Nat → Nat → Int32} {q : Nat → Nat → Int64} {st : List Nat} {s : Nat} (hs : s = 313 ∨ s = 314) (h : MB T r o m p es it) (hO : OS m st) (hl : st.length < 402) : ∃ m1, F_X12_opens 996 (nI (ent s)) (KS, m, q) = some ((), (KS, m1, q)) ∧ (∀ o, FrT r o m m1) ∧ MB T r o m1 p es it ∧ OS m1 (s :: st) := by
  refine ⟨mk_u2 (mk_u2 m 1030 st.length (nI (ent s))) 996 35 (nI (st.length + 1)), ?_, fun o => FrT.rf.up30.up (by omega), h.x (fun j a1 a2 => by rw [mk_u2_ne a1, mk_u2_ne a2]) (fun k a1 a2 => by rw [u2_b a2, u2_a (by omega)]), by rw [u2_s]; rfl, ?_, by rw [u2_a (by omega), u2_s], hO.2.2.congr (fun k hk => by rw [u2_a (by omega), u2_b (by omega)])⟩
  · have hp := psM (q := q) (s := s) hO.1 hl
    have n1 : (nI (ent s) = nI 9) = False := by rcases hs with e | e <;> subst e <;> exact eq_F (by decide) (by decide) (by decide)
    have n2 : (nI (ent s) = nI 12) = False := by rcases hs with e | e <;> subst e <;> exact eq_F (by decide) (by decide) (by decide)
    unfold F_X12_opens
    simp (disch := omega) only [gdm, lit, n1, n2, reduceIte, hp]
  · rw [u2_b (by omega), u2_a (by omega)]
    have : dp (s :: st) = dp st := by
      simp only [dp]
      rw [if_neg (by omega)]
      rfl
    rw [this]; exact hO.2.1
set_option maxRecDepth 4000 in
theorem op1M {T : TT} {r o p it : Nat} {es : List (Nat × Nat)} {m : Nat → Nat → Int32} {q : Nat → Nat → Int64} {st : List Nat} {s : Nat} (hs : s = 91 ∨ s = 315) (h : MB T r o m p es it) (hO : OS m st) (hl : st.length < 402) (hd : dp st ≤ 10) : ∃ m1, F_X12_opens 996 (nI (ent s)) (KS, m, q) = some ((), (KS, m1, q)) ∧ (∀ o, FrT r o m m1) ∧ m1 996 28 = nI p ∧ ((dp st < 10 ∧ MB T r o m1 p es it ∧ OS m1 (s :: st)) ∨ (dp st = 10 ∧ DD T r m1 (1 + 8 * p + 2))) := by
  have hp4 := h.1.2.1
  have hp := h.2.2.1
  have e12 : F_X12_opens 996 (nI (ent s)) (KS, m, q) = B_X12_opens_12 996 (nI (ent s)) (KS, m, q) := by
    unfold F_X12_opens
    rcases hs with e | e <;> subst e
    · have e9 : nI (ent 91) = nI 12 := rfl
      rw [e9]
      simp (disch := omega) only [gdm, lit, eq_T, eq_F, reduceIte]
    · have e9 : nI (ent 315) = nI 9 := rfl
      rw [e9]
      simp (disch := omega) only [gdm, lit, eq_T, reduceIte]
  have hdp : dp (s :: st) = dp st + 1 := by
    simp only [dp]
    rw [if_pos hs]
  by_cases c : dp st < 10
  · have h35 : mk_u2 m 996 33 (nI (dp st + 1)) 996 35 = nI st.length := by rw [u2_b (by omega)]; exact hO.1
    have hps := psM (q := q) (s := s) h35 hl
    refine ⟨mk_u2 (mk_u2 (mk_u2 m 996 33 (nI (dp st + 1))) 1030 st.length (nI (ent s))) 996 35 (nI (st.length + 1)), ?_, fun o => (FrT.rf.up (by omega)).up30.up (by omega), by rw [u2_b (by omega), u2_a (by omega), u2_b (by omega)]; exact h.2.1, .inl ⟨c, h.x (fun j a1 a2 => by rw [mk_u2_ne a1, mk_u2_ne a2, mk_u2_ne a1]) (fun k a1 a2 => by rw [u2_b a2, u2_a (by omega), u2_b a1]), by rw [u2_s]; rfl, ?_, by rw [u2_a (by omega), u2_s], hO.2.2.congr (fun k hk => by rw [u2_a (by omega), u2_b (by omega), u2_a (by omega)])⟩⟩
    · rw [e12]
      unfold B_X12_opens_12 B_X12_opens_30
      simp (disch := omega) only [gim_33, ob_some, hO.2.1, lit, eq_F, reduceIte, nI_add, pim_33, hps]
    · rw [u2_b (by omega), u2_a (by omega), u2_s, hdp]
  · have hd10 : dp st = 10 := by omega
    obtain ⟨f1, f2⟩ := h.fails (q := q) (s := p) (c := 2) (by omega) (by omega)
    have h33 : mk_u2 m 996 29 (nI (1 + 8 * p + 2)) 996 33 = nI 10 := by rw [u2_b (by omega), ← hd10]; exact hO.2.1
    have h35 : mk_u2 (mk_u2 m 996 29 (nI (1 + 8 * p + 2))) 996 33 (nI (10 + 1)) 996 35 = nI st.length := by rw [u2_b (by omega), u2_b (by omega)]; exact hO.1
    have hps := psM (q := q) (s := s) h35 hl
    have hO2 := hO.2.1
    rw [hd10] at hO2
    refine ⟨mk_u2 (mk_u2 (mk_u2 (mk_u2 m 996 29 (nI (1 + 8 * p + 2))) 996 33 (nI (10 + 1))) 1030 st.length (nI (ent s))) 996 35 (nI (st.length + 1)), ?_, fun o => ((FrT.rf.up (by omega)).up (by omega)).up30.up (by omega), by rw [u2_b (by omega), u2_a (by omega), u2_b (by omega), u2_b (by omega)]; exact h.2.1, .inr ⟨hd10, f2.x (fun j a1 a2 => by rw [mk_u2_ne a1, mk_u2_ne a2, mk_u2_ne a1]) (fun k a1 a2 => by rw [u2_b a2, u2_a (by omega), u2_b a1])⟩⟩
    rw [e12]
    unfold B_X12_opens_12 B_X12_opens_30
    simp (disch := omega) only [gim_33, ob_some, hO2, lit, eq_T, reduceIte, gim_28, h.2.1, f1, h33, nI_add, pim_33, hps]
/-! answered -/
def pk (k : Nat) : List Nat → List (Nat × Nat) → List Nat × List (Nat × Nat)
  | [], cd => ([], cd)
  | s :: st, cd => if ent s = k then pk k st (cd ++ [en s]) else (s :: st, cd)
def okL (st : List Nat) : Prop := ∀ s, s ∈ st → s = 91 ∨ s = 313 ∨ s = 314 ∨ s = 315
def SW : List Nat → Prop
  | [] => True
  | a :: st => (∀ b r, st = b :: r → a = 91 ∨ bd b ≤ bd a) ∧ SW st
set_option maxRecDepth 4000 in
theorem okL.tail {s : Nat} {st : List Nat} (h : okL (s :: st)) : okL st := fun x hx => h x (List.mem_cons_of_mem _ hx)
set_option maxRecDepth 4000 in
theorem pk_len {k : Nat} : ∀ (st : List Nat) (cd : List (Nat × Nat)), (pk k st cd).1.length ≤ st.length ∧ (pk k st cd).1.length + (pk k st cd).2.length = st.length + cd.length := by
  intro st
  induction st with
  | nil => intro cd; exact ⟨Nat.le_refl _, rfl⟩
  | cons s st ih =>
    intro cd
    unfold pk
    split
    · have := ih (cd ++ [en s])
      simp only [List.length_append, List.length_cons, List.length_nil] at this ⊢
      omega
    · exact ⟨Nat.le_refl _, rfl⟩
set_option maxRecDepth 4000 in
theorem pk_ok {k : Nat} : ∀ (st : List Nat) (cd : List (Nat × Nat)), okL st → okL (pk k st cd).1 := by
  intro st
  induction st with
  | nil => intro cd h; exact h
  | cons s st ih =>
    intro cd h
    unfold pk
    split
    · exact ih _ h.tail
    · exact h
set_option maxRecDepth 4000 in
theorem anL {T : TT} {r o p it k : Nat} {q : Nat → Nat → Int64} (hr : r < 6) (hk : k = 9 ∨ k = 10 ∨ k = 11) : ∀ (st : List Nat) (f : Nat) (m : Nat → Nat → Int32) (es : List (Nat × Nat)), st.length < f → MB T r o m p es it → OS m st → okL st → st.length ≤ 402 → o + es.length + nb st < 300 → ∃ m1, B_X12_answers_0 f 996 (nI k) (KS, m, q) = some ((), (KS, m1, q)) ∧ FrT r (o + es.length) m m1 ∧ MB T r o m1 p (pk k st es).2 it ∧ OS m1 (pk k st es).1 := by
  intro st
  induction st with
  | nil =>
    intro f m es hf h hO hok hl hb
    obtain ⟨f, rfl⟩ : ∃ g, f = g + 1 := ⟨f - 1, by omega⟩
    have ht : F_X12_top 996 (KS, m, q) = some (-nI 1, (KS, m, q)) := tpM (q := q) hO hl
    refine ⟨m, ?_, FrT.rf, h, hO⟩
    have z : (-nI 1 = nI k) = False := eq_false (fun e => absurd e.symm (by rw [m1_eq (by omega)]; exact id))
    rw [B_X12_answers_0]
    simp only [ht, ob_some, z, reduceIte]
  | cons s st ih =>
    intro f m es hf h hO hok hl hb
    obtain ⟨f, rfl⟩ : ∃ g, f = g + 1 := ⟨f - 1, by omega⟩
    have ht : F_X12_top 996 (KS, m, q) = some (nI (ent s), (KS, m, q)) := tpM (q := q) hO hl
    have hel := ent_lt s
    simp only [List.length_cons] at hf hl
    unfold pk
    by_cases c : ent s = k
    · rw [if_pos c]
      have hs := hok s (List.mem_cons_self ..)
      have hn91 : s ≠ 91 := fun e => by rw [e] at c; have : ent 91 = 12 := rfl; omega
      have hnb : nb (s :: st) = nb st + 1 := by simp only [nb, hn91, if_false]
      rw [hnb] at hb
      obtain ⟨me, e1, e2, e3⟩ := h.entry (q := q) (k := ent s) (v := 0) hr (by omega)
      have hOe := hO.fs e2
      obtain ⟨o1, o2, o3⟩ := hOe
      have o1 : me 996 35 = nI (st.length + 1) := o1
      have hsub : nI (st.length + 1) - nI 1 = nI st.length := pk_sub (by omega)
      have key : ∀ d : Nat, dp (s :: st) = dp st + d → d ≤ 1 → (mk_u2 me 996 35 (nI st.length)) 996 33 - nI d = nI (dp st) := fun d hd hd2 => by
        rw [u2_b (by omega), o2, hd]
        have := pk_sub (a := dp st + d) (b := d) (by omega)
        rwa [Nat.add_sub_cancel] at this
      have hM2 : MB T r o (mk_u2 (mk_u2 me 996 35 (nI st.length)) 996 33 (nI (dp st))) p (es ++ [en s]) it := MB.x (m := me) e3 (fun j a1 a2 => by rw [mk_u2_ne a1, mk_u2_ne a1]) (fun j a1 a2 => by rw [u2_b a1, u2_b a2])
      have hO2 : OS (mk_u2 (mk_u2 me 996 35 (nI st.length)) 996 33 (nI (dp st))) st := ⟨by rw [u2_b (by omega), u2_s], u2_s, o3.2.congr (fun j _ => by rw [u2_a (by omega), u2_a (by omega)])⟩
      obtain ⟨m1, z1, z2, z3, z4⟩ := ih f _ (es ++ [en s]) (by omega) hM2 hO2 hok.tail (by omega) (by simp only [List.length_append, List.length_cons, List.length_nil]; omega)
      refine ⟨m1, ?_, ((e2.t.up (by omega)).up (by omega)).trans z2 (by simp only [List.length_append, List.length_cons, List.length_nil]; omega), z3, z4⟩
      rw [← z1, B_X12_answers_0]
      rw [c] at e1 ht
      by_cases c9 : k = 9
      · have hs315 : s = 315 := by
          rcases hs with e | e | e | e
          · exact absurd e hn91
          · rw [e] at c; have : ent 313 = 10 := rfl; omega
          · rw [e] at c; have : ent 314 = 11 := rfl; omega
          · exact e
        have hd := key 1 (by simp only [dp]; rw [if_pos (.inr hs315)]) (by omega)
        subst c9
        simp (disch := omega) only [ht, ob_some, eq_T, reduceIte, gim_29, h.2.2.2.1, lit, e1, gim_35, o1, hsub, pim_35, gim_33, B_X12_answers_47, hd, pim_33]
      · have hs315 : ¬ (s = 91 ∨ s = 315) := by
          rintro (e | e)
          · exact hn91 e
          · rw [e] at c; have : ent 315 = 9 := rfl; omega
        have hd := key 0 (by simp only [dp]; rw [if_neg hs315]) (by omega)
        simp (disch := omega) only [ht, ob_some, eq_T, eq_F, reduceIte, gim_29, h.2.2.2.1, lit, e1, gim_35, o1, hsub, pim_35, gim_33, B_X12_answers_47, hd, pim_33]
    · rw [if_neg c]
      refine ⟨m, ?_, FrT.rf, h, hO⟩
      rw [B_X12_answers_0]
      simp (disch := omega) only [ht, ob_some, eq_F, reduceIte]
set_option maxRecDepth 4000 in
theorem anM {T : TT} {r o p it k : Nat} {q : Nat → Nat → Int64} {st : List Nat} {m : Nat → Nat → Int32} {es : List (Nat × Nat)} (hr : r < 6) (hk : k = 9 ∨ k = 10 ∨ k = 11) (h : MB T r o m p es it) (hO : OS m st) (hok : okL st) (hl : st.length ≤ 402) (hb : o + es.length + nb st < 300) : ∃ m1, F_X12_answers 996 (nI k) (KS, m, q) = some ((), (KS, m1, q)) ∧ FrT r (o + es.length) m m1 ∧ MB T r o m1 p (pk k st es).2 it ∧ OS m1 (pk k st es).1 := by
  unfold F_X12_answers
  rw [gdm]
  exact anL hr hk st mk_fu m es (by rw [mk_fu_eq]; omega) h hO hok hl hb
