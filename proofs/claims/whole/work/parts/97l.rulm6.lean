/-! RULES told: the reference; tests -/
set_option maxRecDepth 4000 in
theorem pkA : ∀ (st : List Nat) (es : List (Nat × Nat)), SW st → okL st → (∀ b r, st = b :: r → bd b ≤ 2) → pk 10 st es = rl 2 st es := by
  intro st
  induction st with
  | nil => intro es _ _ _; rfl
  | cons s st ih =>
    intro es hS hok hh
    have h2 := hh s st rfl
    unfold pk rl
    rcases hok s (List.mem_cons_self ..) with e | e | e | e <;> subst e
    · rfl
    · rw [if_pos (by decide), if_pos (by decide)]
      exact ih _ hS.2 hok.tail (fun b r e => by
        rcases hS.1 b r e with h | h
        · omega
        · exact h)
    · rfl
    · exact absurd h2 (by decide)
set_option maxRecDepth 4000 in
theorem pkB : ∀ (st : List Nat) (es : List (Nat × Nat)), SW st → okL st → (∀ b r, st = b :: r → bd b ≤ 1) → pk 11 st es = rl 1 st es := by
  intro st
  induction st with
  | nil => intro es _ _ _; rfl
  | cons s st ih =>
    intro es hS hok hh
    have h2 := hh s st rfl
    unfold pk rl
    rcases hok s (List.mem_cons_self ..) with e | e | e | e <;> subst e
    · rfl
    · exact absurd h2 (by decide)
    · rw [if_pos (by decide), if_pos (by decide)]
      exact ih _ hS.2 hok.tail (fun b r e => by
        rcases hS.1 b r e with h | h
        · omega
        · exact h)
    · exact absurd h2 (by decide)
set_option maxRecDepth 4000 in
theorem pkC : ∀ (st : List Nat) (es : List (Nat × Nat)), SW st → okL st → (∀ b r, st = b :: r → bd b ≤ 2) → pk 11 (pk 10 st es).1 (pk 10 st es).2 = rl 1 st es := by
  intro st
  induction st with
  | nil => intro es _ _ _; rfl
  | cons s st ih =>
    intro es hS hok hh
    have h2 := hh s st rfl
    rcases hok s (List.mem_cons_self ..) with e | e | e | e
    · subst e; rfl
    · subst e
      have e1 : pk 10 (313 :: st) es = pk 10 st (es ++ [en 313]) := rfl
      have e2 : rl 1 (313 :: st) es = rl 1 st (es ++ [en 313]) := rfl
      rw [e1, e2]
      exact ih _ hS.2 hok.tail (fun b r e => by
        rcases hS.1 b r e with h | h
        · omega
        · exact h)
    · subst e
      have e1 : pk 10 (314 :: st) es = (314 :: st, es) := rfl
      rw [e1]
      exact pkB _ _ hS hok (fun b r e => by simp only [List.cons.injEq] at e; rw [← e.1]; decide)
    · subst e
      exact absurd h2 (by decide)
set_option maxRecDepth 4000 in
theorem pkD : ∀ (st : List Nat) (es : List (Nat × Nat)), SW st → okL st → pk 10 (pk 9 st es).1 (pk 9 st es).2 = rl 2 st es := by
  intro st
  induction st with
  | nil => intro es _ _; rfl
  | cons s st ih =>
    intro es hS hok
    rcases hok s (List.mem_cons_self ..) with e | e | e | e
    · subst e; rfl
    · subst e
      have e1 : pk 9 (313 :: st) es = (313 :: st, es) := rfl
      rw [e1]
      exact pkA _ _ hS hok (fun b r e => by simp only [List.cons.injEq] at e; rw [← e.1]; decide)
    · subst e; rfl
    · subst e
      have e1 : pk 9 (315 :: st) es = pk 9 st (es ++ [en 315]) := rfl
      have e2 : rl 2 (315 :: st) es = rl 2 st (es ++ [en 315]) := rfl
      rw [e1, e2]
      exact ih _ hS.2 hok.tail
set_option maxRecDepth 4000 in
theorem pkE : ∀ (st : List Nat) (es : List (Nat × Nat)), SW st → okL st → pk 11 (pk 10 (pk 9 st es).1 (pk 9 st es).2).1 (pk 10 (pk 9 st es).1 (pk 9 st es).2).2 = rl 1 st es := by
  intro st
  induction st with
  | nil => intro es _ _; rfl
  | cons s st ih =>
    intro es hS hok
    rcases hok s (List.mem_cons_self ..) with e | e | e | e
    · subst e; rfl
    · subst e
      have e1 : pk 9 (313 :: st) es = (313 :: st, es) := rfl
      rw [e1]
      exact pkC _ _ hS hok (fun b r e => by simp only [List.cons.injEq] at e; rw [← e.1]; decide)
    · subst e
      have e1 : pk 9 (314 :: st) es = (314 :: st, es) := rfl
      rw [e1]
      exact pkC _ _ hS hok (fun b r e => by simp only [List.cons.injEq] at e; rw [← e.1]; decide)
    · subst e
      have e1 : pk 9 (315 :: st) es = pk 9 st (es ++ [en 315]) := rfl
      have e2 : rl 1 (315 :: st) es = rl 1 st (es ++ [en 315]) := rfl
      rw [e1, e2]
      exact ih _ hS.2 hok.tail
def ao : List Nat → Nat
  | [] => 0
  | s :: st => ao st + (if s = 313 ∨ s = 314 then 1 else 0)
def rp (n : Nat) : List Bool := List.replicate n true
set_option maxRecDepth 4000 in
theorem rp_s (n : Nat) : rp (n + 1) = true :: rp n := rfl
set_option maxRecDepth 4000 in
theorem rl_ty {lv : Nat} (hl : 1 ≤ lv) : ∀ (st : List Nat) (es : List (Nat × Nat)), okL st → tys es [] = some (rp (ao st + 1)) → tys (rl lv st es).2 [] = some (rp (ao (rl lv st es).1 + 1)) ∧ pushes (rl lv st es).2 = pushes es := by
  intro st
  induction st with
  | nil => intro es _ h; exact ⟨h, rfl⟩
  | cons s st ih =>
    intro es hok h
    unfold rl
    split
    · rename_i c
      have hb : 1 ≤ bd s := by omega
      rw [← pushes_en hb es]
      rcases hok s (List.mem_cons_self ..) with e | e | e | e <;> subst e
      · exact absurd hb (by decide)
      · refine ih _ hok.tail (tys_one (tl := rp (ao st + 1 + 1)) h ?_)
        rw [rp_s, rp_s]; rfl
      · refine ih _ hok.tail (tys_one (tl := rp (ao st + 1 + 1)) h ?_)
        rw [rp_s, rp_s]; rfl
      · refine ih _ hok.tail (tys_one (tl := rp (ao st + 1)) h ?_)
        rw [rp_s]; rfl
    · exact ⟨h, rfl⟩
set_option maxRecDepth 4000 in
theorem rl_SW {lv : Nat} : ∀ (st : List Nat) (es : List (Nat × Nat)), SW st → SW (rl lv st es).1 := by
  intro st
  induction st with
  | nil => intro es h; exact h
  | cons s st ih =>
    intro es h
    unfold rl
    split
    · exact ih _ h.2
    · exact h
set_option maxRecDepth 4000 in
theorem rl_ok {lv : Nat} (st : List Nat) (es : List (Nat × Nat)) (h : okL st) : okL (rl lv st es).1 := fun x hx => h x (rl_mem st es hx)
set_option maxRecDepth 4000 in
theorem rl_dp {lv : Nat} : ∀ (st : List Nat) (es : List (Nat × Nat)), dp (rl lv st es).1 ≤ dp st := by
  intro st
  induction st with
  | nil => intro es; exact Nat.le_refl _
  | cons s st ih =>
    intro es
    unfold rl
    split
    · have := ih (es ++ [en s])
      simp only [dp]
      omega
    · exact Nat.le_refl _
set_option maxRecDepth 4000 in
theorem rl_pre {lv : Nat} {st : List Nat} : ∀ (U : List Nat) (cd : List (Nat × Nat)), (∀ u, u ∈ U → lv ≤ bd u) → rl lv (U ++ st) cd = rl lv st (cd ++ U.map en)
  | [], cd, _ => by simp
  | u :: U, cd, h => by
    have h1 := h u (List.mem_cons_self ..)
    rw [List.cons_append, List.map_cons]
    show (if lv ≤ bd u then rl lv (U ++ st) (cd ++ [en u]) else _) = _
    rw [if_pos h1, rl_pre U _ (fun x hx => h x (List.mem_cons_of_mem _ hx)), List.append_assoc]
    rfl
set_option maxRecDepth 4000 in
theorem okL.bd {st : List Nat} (h : okL st) : ∀ x r, st = x :: r → bd x < 4 := fun x r e => by
  have := h x (by rw [e]; exact List.mem_cons_self ..)
  rcases this with z | z | z | z <;> rw [z] <;> decide
set_option maxRecDepth 4000 in
theorem rst_F {T : TT} {a pt it : Nat} {st : List Nat} {cl : RT} {c1 cd : List (Nat × Nat)} (h : sgn1 T (sp isB T a) = 91 ∨ sgn1 T (sp isB T a) = 315) : rst T (0, a, 2, pt, st, it, cl, c1, cd) = if dp st < 10 then (0, end1 T (sp isB T a), 2, pt, sgn1 T (sp isB T a) :: st, it, cl, c1, cd) else ft (1 + 8 * sp isB T a + 2) := by
  show sF T (sp isB T a) pt st it cl c1 cd = _
  unfold sF
  rw [if_pos h]
set_option maxRecDepth 4000 in
/-- a fact is wanted -/
theorem faM {T : TT} {r o pt a p it : Nat} {st : List Nat} {cl : RT} {c1 cd : List (Nat × Nat)} {tl : List Bool} {m : Nat → Nat → Int32} {q : Nat → Nat → Int64} (hr : r < 6) (ho : o = lenR cl + c1.length) (hok : okL st) (h : MB T r o m p cd it) (hsp : sp isB T p = sp isB T a) (hO : OS m st) (hd : dp st ≤ 10) (hty : tys cd [] = some tl) (hpu : pushes cd ≤ it) (hG : Gv T (0, a, 2, pt, st, it, cl, c1, cd)) : ∃ m1 b, F_X12_fact 996 (KS, m, q) = some (nI b, (KS, m1, q)) ∧ b ≤ 1 ∧ FrT r o m m1 ∧ ((∃ fl, R1 T (0, a, 2, pt, st, it, cl, c1, cd) (ft fl) ∧ DD T r m1 fl) ∨ (b = 0 ∧ ∃ e g, R1 T (0, a, 2, pt, st, it, cl, c1, cd) (0, e, 2, pt, g :: st, it, cl, c1, cd) ∧ MB T r o m1 e cd it ∧ OS m1 (g :: st) ∧ (g = 91 ∨ g = 315) ∧ dp (g :: st) ≤ 10 ∧ a < e) ∨ (b = 1 ∧ ∃ x', R1 T (0, a, 2, pt, st, it, cl, c1, cd) x' ∧ AB T r o m1 x' 4 2 st cl c1 (true :: tl) ∧ N5 T x' ∧ OS m1 st ∧ a ≤ x'.2.1)) := by
  obtain ⟨hT4, hb⟩ := h.bt
  have hpl := h.2.2.1
  have hbl := blkM (q := q) h.1 h.2.1 (by omega)
  rw [hsp] at hbl
  have hal := (hG.2 rfl).1
  have hll := (hG.2 rfl).2.1
  have hsl := sp_le (P := isB) (T := T) hB hal
  have hs2 := sp_ge (P := isB) (T := T) hB a
  have hbs := hb (sp isB T a)
  have hM := h.p (p1 := sp isB T a) hsl
  have hOs : OS ((mk_u2 m 996 28 (nI (sp isB T a)))) st := hO.fs (r := r) (o := 0) (FrS.rf.up (by omega))
  have f0 : FrT r o m ((mk_u2 m 996 28 (nI (sp isB T a)))) := FrT.rf.up (by omega)
  have hst : F_X12_stood 996 1000033 (KS, (mk_u2 m 996 28 (nI (sp isB T a))), q) = some (bI (decide (wix T (sp isB T a) = 15)), (KS, (mk_u2 m 996 28 (nI (sp isB T a))), q)) := stMw (k := 33) (j := 15) (by omega) (by omega) (by omega) rfl hM.1 hM.2.1 (by omega)
  by_cases c15 : wix T (sp isB T a) = 15
  · have hg : sgn1 T (sp isB T a) = 315 := (sg_w (k := 15) hbs (by omega)).mpr c15
    have he := end_w (T := T) (s := sp isB T a) (by omega)
    have e3 : (wd 15).length = 3 := rfl
    rw [c15, e3] at he
    have hel := (end1_le hsl).2.1
    rw [he] at hel
    have hx := rst_F (pt := pt) (it := it) (st := st) (cl := cl) (c1 := c1) (cd := cd) (.inr hg)
    rw [he, hg] at hx
    rw [decide_eq_true c15, bI_T] at hst
    obtain ⟨mo, k1, k2, k3, k4⟩ := op1M (q := q) (s := 315) (.inr rfl) hM hOs (by omega) hd
    have k1 : F_X12_opens 996 (nI 9) (KS, (mk_u2 m 996 28 (nI (sp isB T a))), q) = some ((), (KS, mo, q)) := k1
    have hF : F_X12_fact 996 (KS, m, q) = some (nI 0, (KS, (mk_u2 mo 996 28 (nI (sp isB T a + 3))), q)) := by
      unfold F_X12_fact
      simp (disch := omega) only [gdm, hbl, ob_some, hst, lit, eq_F, reduceIte, k1, gim_28, k3, nI_add, pim_28, rz0]
    refine ⟨(mk_u2 mo 996 28 (nI (sp isB T a + 3))), 0, hF, by omega, (f0.trans (k2 o) (Nat.le_refl _)).up (by omega), ?_⟩
    rcases k4 with ⟨c, k4, k5⟩ | ⟨c, k4⟩
    · rw [if_pos c] at hx
      exact .inr (.inl ⟨rfl, sp isB T a + 3, 315, R1.one hx, k4.p hel, k5.fs (r := r) (o := 0) (FrS.rf.up (by omega)), .inr rfl, by show dp st + 1 ≤ 10; omega, by omega⟩)
    · rw [if_neg (by omega)] at hx
      exact .inl ⟨_, R1.one hx, k4.p (by omega)⟩
  · rw [decide_eq_false c15, bI_F] at hst
    have hsg := sgM (q := q) hM.1 hM.2.1 (by omega)
    by_cases c91 : bt T (sp isB T a) = 91
    · have hg : sgn1 T (sp isB T a) = 91 := (sg_b hbs (by omega) rfl rfl (by omega) (by omega)).mpr c91
      have he : end1 T (sp isB T a) = sp isB T a + 1 := end_b (by rw [c91]; rfl) (by rw [c91]; rfl) (by omega) (by omega) (by omega)
      have hel := (end1_le hsl).2.1
      rw [he] at hel
      have hx := rst_F (pt := pt) (it := it) (st := st) (cl := cl) (c1 := c1) (cd := cd) (.inl hg)
      rw [he, hg] at hx
      rw [c91, sI_n (by omega)] at hsg
      obtain ⟨mo, k1, k2, k3, k4⟩ := op1M (q := q) (s := 91) (.inl rfl) hM hOs (by omega) hd
      have k1 : F_X12_opens 996 (nI 12) (KS, (mk_u2 m 996 28 (nI (sp isB T a))), q) = some ((), (KS, mo, q)) := k1
      have hF : F_X12_fact 996 (KS, m, q) = some (nI 0, (KS, (mk_u2 mo 996 28 (nI (sp isB T a + 1))), q)) := by
        unfold F_X12_fact
        simp (disch := omega) only [gdm, hbl, ob_some, hst, lit, eq_T, reduceIte, hsg, k1, gim_28, k3, nI_add, pim_28, rz0]
      refine ⟨(mk_u2 mo 996 28 (nI (sp isB T a + 1))), 0, hF, by omega, (f0.trans (k2 o) (Nat.le_refl _)).up (by omega), ?_⟩
      rcases k4 with ⟨c, k4, k5⟩ | ⟨c, k4⟩
      · rw [if_pos c] at hx
        exact .inr (.inl ⟨rfl, sp isB T a + 1, 91, R1.one hx, k4.p hel, k5.fs (r := r) (o := 0) (FrS.rf.up (by omega)), .inl rfl, by show dp st + 1 ≤ 10; omega, by omega⟩)
      · rw [if_neg (by omega)] at hx
        exact .inl ⟨_, R1.one hx, k4.p (by omega)⟩
    · have hg1 : sgn1 T (sp isB T a) ≠ 91 := fun e => c91 ((sg_b hbs (by omega) rfl rfl (by omega) (by omega)).mp e)
      have hg2 : sgn1 T (sp isB T a) ≠ 315 := fun e => c15 ((sg_w (k := 15) hbs (by omega)).mp e)
      obtain ⟨m1, z1, z2, z3⟩ := coM (q := q) hr ho hok.bd hM (sp_sp hB a) hty hpu hG hg1 hg2
      have hF : F_X12_fact 996 (KS, m, q) = some (nI 1, (KS, m1, q)) := by
        unfold F_X12_fact
        simp (disch := omega) only [gdm, hbl, ob_some, hst, lit, eq_T, reduceIte, hsg, sI_eqc, c91, z1, rz1]
      refine ⟨m1, 1, hF, by omega, f0.trans z2.t (Nat.le_refl _), ?_⟩
      rcases z3 with ⟨fl, y1, y2⟩ | ⟨x', y1, y2, y3, y4⟩
      · exact .inl ⟨fl, y1, y2⟩
      · exact .inr (.inr ⟨rfl, x', y1, y2, y3, hOs.fs z2, y4⟩)
