/-! RULES told: the reference; sums -/
set_option maxRecDepth 4000 in
theorem tys_app : ∀ (a b : List (Nat × Nat)) (tl : List Bool), tys (a ++ b) tl = (tys a tl).bind (tys b)
  | [], b, tl => rfl
  | e :: a, b, tl => by
    show (tstp e tl).bind (tys (a ++ b)) = ((tstp e tl).bind (tys a)).bind (tys b)
    cases tstp e tl with
    | none => rfl
    | some t => exact tys_app a b t
set_option maxRecDepth 4000 in
theorem tys_one {cs : List (Nat × Nat)} {e : Nat × Nat} {tl tl1 : List Bool} (h : tys cs [] = some tl) (h2 : tstp e tl = some tl1) : tys (cs ++ [e]) [] = some tl1 := by
  rw [tys_app, h]
  show (tstp e tl).bind (tys []) = _
  rw [h2]
  rfl
set_option maxRecDepth 4000 in
theorem pushes_app : ∀ (a b : List (Nat × Nat)), pushes (a ++ b) = pushes a + pushes b
  | [], b => by simp [pushes]
  | e :: a, b => by
    show (if e.1 ≤ 1 then 1 else 0) + pushes (a ++ b) = (if e.1 ≤ 1 then 1 else 0) + pushes a + pushes b
    rw [pushes_app a b]; omega
set_option maxRecDepth 4000 in
theorem pushes_en {s : Nat} (h : 1 ≤ bd s) (cs : List (Nat × Nat)) : pushes (cs ++ [en s]) = pushes cs := by
  obtain ⟨-, h2, h3, -⟩ := sgn_en h
  rw [pushes_app]
  show pushes cs + ((if (en s).1 ≤ 1 then 1 else 0) + 0) = _
  rw [if_neg (by omega)]
  rfl
set_option maxRecDepth 4000 in
theorem ty5 {g : Nat} (h : 5 ≤ bd g) (t : List Bool) : tstp (en g) (false :: false :: t) = some (false :: t) := by
  rcases bd_mem (s := g) (by omega) with e | e | e | e | e | e | e | e | e | e | e | e | e <;> subst e <;> first | rfl | exact absurd h (by decide)
set_option maxRecDepth 4000 in
theorem ty4 {g : Nat} (h : bd g = 4) (t : List Bool) : tstp (en g) (false :: false :: t) = some (true :: t) := by
  rcases bd_mem (s := g) (by omega) with e | e | e | e | e | e | e | e | e | e | e | e | e <;> subst e <;> first | rfl | exact absurd h (by decide)
set_option maxRecDepth 4000 in
theorem rl_app {lv : Nat} {st : List Nat} (hs : ∀ x r, st = x :: r → bd x < lv) : ∀ (U : List Nat) (cd : List (Nat × Nat)), (∀ u, u ∈ U → lv ≤ bd u) → rl lv (U ++ st) cd = (st, cd ++ U.map en)
  | [], cd, _ => by
    rw [List.nil_append, List.map_nil, List.append_nil]
    cases st with
    | nil => rfl
    | cons x r =>
      unfold rl
      rw [if_neg (by have := hs x r rfl; omega)]
  | u :: U, cd, h => by
    have h1 := h u (List.mem_cons_self ..)
    rw [List.cons_append]
    unfold rl
    rw [if_pos h1, rl_app hs U _ (fun x hx => h x (List.mem_cons_of_mem _ hx)), List.map_cons, List.append_assoc]
    rfl
set_option maxRecDepth 4000 in
theorem nb_app (st : List Nat) : ∀ U : List Nat, (∀ u, u ∈ U → 1 ≤ bd u) → nb (U ++ st) = U.length + nb st
  | [], _ => by simp
  | u :: U, h => by
    have h1 := (sgn_en (h u (List.mem_cons_self ..))).2.2.2.2
    rw [List.cons_append]
    simp only [nb, h1, if_false, List.length_cons]
    rw [nb_app st U (fun x hx => h x (List.mem_cons_of_mem _ hx))]; omega
def Rc (T : TT) (x y : RG) : Prop := ∃ n, itr T n x = y
set_option maxRecDepth 4000 in
theorem Rc.rf {T : TT} {x : RG} : Rc T x x := ⟨0, rfl⟩
set_option maxRecDepth 4000 in
theorem R1.c {T : TT} {x y z : RG} (h : R1 T x y) (h2 : Rc T y z) : R1 T x z := by
  obtain ⟨n, hn⟩ := h
  obtain ⟨k, hk⟩ := h2
  exact ⟨n + k, by rw [itr_add, hn]; exact hk⟩
set_option maxRecDepth 4000 in
theorem R1.rc {T : TT} {x y : RG} (h : R1 T x y) : Rc T x y := h.it
/-- the reference stands behind a sum, a product, a value: signs that wait are told already -/
def AB (T : TT) (r o : Nat) (m : Nat → Nat → Int32) (x : RG) (lv pt : Nat) (st : List Nat) (cl : RT) (c1 : List (Nat × Nat)) (tl : List Bool) : Prop := ∃ a it cd U, x = (0, a, 3, pt, U ++ st, it, cl, c1, cd) ∧ MB T r o m (sp isB T a) (cd ++ U.map en) it ∧ (∀ u, u ∈ U → lv ≤ bd u) ∧ tys (cd ++ U.map en) [] = some tl ∧ pushes (cd ++ U.map en) ≤ it ∧ Gv T x
def N6 (T : TT) (x : RG) : Prop := bt T (sp isB T x.2.1) ≠ 42 ∧ bt T (sp isB T x.2.1) ≠ 47 ∧ bt T (sp isB T x.2.1) ≠ 37
def N5 (T : TT) (x : RG) : Prop := N6 T x ∧ bt T (sp isB T x.2.1) ≠ 43 ∧ bt T (sp isB T x.2.1) ≠ 45
set_option maxRecDepth 4000 in
theorem MB.bt {T : TT} {r o : Nat} {m : Nat → Nat → Int32} {p : Nat} {es : List (Nat × Nat)} {it : Nat} (h : MB T r o m p es it) : T.1 ≤ 400 ∧ ∀ i, bt T i < 256 ∨ bt T i = 1000 := ⟨h.1.2.1, h.1.b⟩
set_option maxRecDepth 4000 in
theorem bt_far {T : TT} {s : Nat} (h : bt T s ≠ 1000) : s < T.1 := by
  apply Classical.byContradiction
  intro c
  exact h (bt_end (by omega))
set_option maxRecDepth 4000 in
/-- a sign that joins numbers -/
theorem ar_step {T : TT} {a g lv pt it : Nat} {U st : List Nat} {cl : RT} {c1 cd : List (Nat × Nat)} (hb : ∀ i, bt T i < 256 ∨ bt T i = 1000) (hg : bt T (sp isB T a) = g) (hlv : bd g = lv) (h5 : 5 ≤ lv) (hgv : g < 60) (hD : isD g = false) (hp : pt ≠ 3) (hs : ∀ x r, st = x :: r → bd x < lv) (hU : ∀ u, u ∈ U → lv ≤ bd u) : rst T (0, a, 3, pt, U ++ st, it, cl, c1, cd) = (0, sp isB T a + 1, 1, pt, g :: st, it, cl, c1, cd ++ U.map en) := by
  have e1 : sgn1 T (sp isB T a) = g := (sg_b (hb _) (by omega) hD (isL_F (by omega)) (by omega) (by omega)).mpr hg
  have e2 : end1 T (sp isB T a) = sp isB T a + 1 := end_b (by rw [hg]; exact hD) (by rw [hg]; exact isL_F (by omega)) (by omega) (by omega) (by omega)
  show sB T (sp isB T a) pt (U ++ st) it cl c1 cd = _
  unfold sB
  rw [e1, e2, if_pos ⟨by omega, hp⟩, hlv, rl_app hs U cd hU]
set_option maxRecDepth 4000 in
theorem Gv.bnd {T : TT} {a nx pt it : Nat} {U st : List Nat} {cl : RT} {c1 cd : List (Nat × Nat)} (h : Gv T (0, a, nx, pt, U ++ st, it, cl, c1, cd)) (hT : T.1 ≤ 400) (hU : ∀ u, u ∈ U → 1 ≤ bd u) : lenR cl + c1.length + (cd ++ U.map en).length ≤ 260 ∧ it ≤ 60 ∧ a ≤ T.1 := by
  obtain ⟨g1, g2, g3, g4, -⟩ := h.2 rfl
  rw [nb_app st U hU] at g3
  have : (if nx = 3 then 0 else 1) ≤ 1 := by split <;> omega
  rw [List.length_append, List.length_map]
  omega
set_option maxRecDepth 4000 in
theorem FrS.le {r o o1 : Nat} {m m1 : Nat → Nat → Int32} (h : FrS r o m m1) (ho : o1 ≤ o) : FrS r o1 m m1 := ⟨h.1, h.2.1, fun k hk => h.2.2 k (by omega)⟩
set_option maxRecDepth 4000 in
theorem DD.blank {T : TT} {r : Nat} {m : Nat → Nat → Int32} {q : Nat → Nat → Int64} {f : Nat} (h : DD T r m f) : ∃ m1, F_X12_blanks 996 (KS, m, q) = some ((), (KS, m1, q)) ∧ (∀ o, FrS r o m m1) ∧ DD T r m1 f := by
  obtain ⟨p, h5, h55⟩ := h.2.2.2.2.1
  have hl := h.1.2.1
  exact ⟨_, blkM h.1 h55 (by omega), fun o => FrS.rf.up (by omega), h.p (sp_cap hB h5 (by omega))⟩
set_option maxRecDepth 4000 in
theorem teX {q : Nat → Nat → Int64} {T : TT} {r f n : Nat} {m : Nat → Nat → Int32} (h : DD T r m f) : B_X12_term_8 (n + 1) 996 (KS, m, q) = some ((), (KS, m, q)) ∧ B_X12_sum_4 (n + 1) 996 (KS, m, q) = some ((), (KS, m, q)) := by
  obtain ⟨h1, h2, h3, h4, h5, h6, h7⟩ := h
  refine ⟨?_, ?_⟩
  · rw [B_X12_term_8]
    simp (disch := omega) only [gim_29, ob_some, h2, lit, eq_F, reduceIte]
  · rw [B_X12_sum_4]
    simp (disch := omega) only [gim_29, ob_some, h2, lit, eq_F, reduceIte]
set_option maxRecDepth 4000 in
theorem teL {T : TT} {r o pt : Nat} {st : List Nat} {cl : RT} {c1 : List (Nat × Nat)} {tl : List Bool} {q : Nat → Nat → Int64} (hr : r < 6) (ho : o = lenR cl + c1.length) (hp : pt ≠ 3) (hs : ∀ x r, st = x :: r → bd x < 6) : ∀ (n f : Nat) (m : Nat → Nat → Int32) (x : RG), T.1 - sp isB T x.2.1 ≤ n → n + 1 < f → AB T r o m x 6 pt st cl c1 (false :: tl) → ∃ m1, B_X12_term_8 f 996 (KS, m, q) = some ((), (KS, m1, q)) ∧ FrS r o m m1 ∧ ((∃ fl, Rc T x (ft fl) ∧ DD T r m1 fl) ∨ ∃ x', Rc T x x' ∧ AB T r o m1 x' 6 pt st cl c1 (false :: tl) ∧ N6 T x' ∧ x.2.1 ≤ x'.2.1) := by
  intro n
  induction n with
  | zero =>
    intro f m x hn hf h
    obtain ⟨f, rfl⟩ : ∃ g, f = g + 1 := ⟨f - 1, by omega⟩
    have h0 := h
    obtain ⟨a, it, cd, U, rfl, hM, hU, hty, hpu, hG⟩ := h
    have hn : T.1 - sp isB T a ≤ 0 := hn
    have e := bt_end (T := T) (i := sp isB T a) (by omega)
    have hsg := sgM (q := q) hM.1 hM.2.1 (by have := hM.2.2.1; have := hM.1.2.1; omega)
    rw [e] at hsg
    refine ⟨m, ?_, FrS.rf, .inr ⟨_, Rc.rf, h0, ⟨?_, ?_, ?_⟩, Nat.le_refl _⟩⟩
    · rw [B_X12_term_8]
      simp (disch := omega) only [gim_29, ob_some, hM.2.2.2.1, lit, eq_T, reduceIte, hsg, sI_eqc, Nat.reduceEqDiff]
    all_goals
      show bt T (sp isB T a) ≠ _
      omega
  | succ n ih =>
    intro f m x hn hf h
    obtain ⟨f, rfl⟩ : ∃ g, f = g + 1 := ⟨f - 1, by omega⟩
    have h0 := h
    obtain ⟨a, it, cd, U, rfl, hM, hU, hty, hpu, hG⟩ := h
    have hn : T.1 - sp isB T a ≤ n + 1 := hn
    obtain ⟨hT4, hb⟩ := hM.bt
    have hpl := hM.2.2.1
    have hsg := sgM (q := q) hM.1 hM.2.1 (by omega)
    have hbp := hb (sp isB T a)
    obtain ⟨q1, q2, q3⟩ := hG.bnd hT4 (fun u hu => by have := hU u hu; omega)
    have step : ∀ g, bt T (sp isB T a) = g → bd g = 6 → isD g = false → g < 60 → B_X12_term_8 (f + 1) 996 (KS, m, q) = B_X12_term_72 (B_X12_term_8 f) 996 (nI (ent g)) (KS, m, q) → ∃ m1, B_X12_term_8 (f + 1) 996 (KS, m, q) = some ((), (KS, m1, q)) ∧ FrS r o m m1 ∧ ((∃ fl, Rc T (0, a, 3, pt, U ++ st, it, cl, c1, cd) (ft fl) ∧ DD T r m1 fl) ∨ ∃ x', Rc T (0, a, 3, pt, U ++ st, it, cl, c1, cd) x' ∧ AB T r o m1 x' 6 pt st cl c1 (false :: tl) ∧ N6 T x' ∧ a ≤ x'.2.1) := fun g hg hg6 hgD hg60 hB8 => by
      have hx1 := ar_step (T := T) (a := a) (it := it) (cl := cl) (c1 := c1) (cd := cd) hb hg hg6 (by omega) hg60 hgD hp hs hU
      have hlt := bt_far (T := T) (s := sp isB T a) (by omega)
      have hG1 := hG.rst hT4 hb
      rw [hx1] at hG1
      have hM1 := hM.p (p1 := sp isB T a + 1) (by omega)
      obtain ⟨mv, v1, v2, v3⟩ := vaM (q := q) (pt := pt) (st := g :: st) (cl := cl) (c1 := c1) hr hM1 rfl q2 (by omega)
      have hx2 : rst T (0, sp isB T a + 1, 1, pt, g :: st, it, cl, c1, cd ++ U.map en) = sV T (sp isB T (sp isB T a + 1)) pt (g :: st) it cl c1 (cd ++ U.map en) := rfl
      have hR : ∀ y, sV T (sp isB T (sp isB T a + 1)) pt (g :: st) it cl c1 (cd ++ U.map en) = y → R1 T (0, a, 3, pt, U ++ st, it, cl, c1, cd) y := fun y hy => (R1.one hx1).trans (R1.one (hx2.trans hy))
      have hG2 := hG1.rst hT4 hb
      rw [hx2] at hG2
      have fm : FrS r o m mv := (FrS.rf.up (by omega)).trans v2 (by omega)
      have hs2 := sp_ge (P := isB) (T := T) hB a
      have hs3 := sp_ge (P := isB) (T := T) hB (sp isB T a + 1)
      rcases v3 with ⟨fl, w1, w2⟩ | ⟨w1, w2, w3, w4⟩
      · obtain ⟨mb, b1, b2, b3⟩ := w2.blank (q := q)
        obtain ⟨f, rfl⟩ : ∃ g, f = g + 1 := ⟨f - 1, by omega⟩
        refine ⟨mb, ?_, fm.trans (b2 o) (Nat.le_refl _), .inl ⟨fl, (hR _ w1).rc, b3⟩⟩
        rw [hB8]
        unfold B_X12_term_72
        simp (disch := omega) only [gim_28, ob_some, hM.2.1, lit, nI_add, pim_28, v1, w2.entry, b1, (teX b3).1]
      · obtain ⟨me, e1, e2, e3⟩ := w2.entry (q := q) (k := ent g) (v := 0) hr (by simp only [List.length_append, List.length_cons, List.length_nil, List.length_map] at q1 ⊢; omega)
        have hel := w2.2.2.1
        have hble := blkM (q := q) e3.1 e3.2.1 (by omega)
        have e4 := e3.p (p1 := sp isB T (end1 T (sp isB T (sp isB T a + 1)))) (sp_le hB hel)
        have hend := (end1_le (T := T) (s := sp isB T (sp isB T a + 1)) (sp_le hB (by omega))).1
        have hs4 := sp_ge (P := isB) (T := T) hB (end1 T (sp isB T (sp isB T a + 1)))
        generalize hE : end1 T (sp isB T (sp isB T a + 1)) = E at *
        generalize vE T (sp isB T (sp isB T a + 1)) = v at *
        have hty2 : tys (cd ++ U.map en ++ [v] ++ [en g]) [] = some (false :: tl) := tys_one (tys_one hty (w3 _)) (ty5 (by omega) _)
        have hpu2 : pushes (cd ++ U.map en ++ [v] ++ [en g]) ≤ it + 1 := by
          rw [pushes_en (by omega), pushes_app]
          show pushes (cd ++ U.map en) + ((if v.1 ≤ 1 then 1 else 0) + 0) ≤ it + 1
          rw [if_pos w4]; omega
        rw [w1] at hG2
        obtain ⟨m1, z1, z2, z3⟩ := ih f ((mk_u2 me 996 28 (nI (sp isB T E)))) (0, E, 3, pt, [g] ++ st, it + 1, cl, c1, cd ++ U.map en ++ [v]) (by show T.1 - sp isB T E ≤ n; omega) (by omega) ⟨E, it + 1, cd ++ U.map en ++ [v], [g], rfl, e4, fun u hu => by rw [List.mem_singleton] at hu; rw [hu]; omega, hty2, hpu2, hG2⟩
        refine ⟨m1, ?_, ((fm.trans e2 (by omega)).up (by omega)).trans z2 (Nat.le_refl _), ?_⟩
        · rw [hB8, ← z1]
          unfold B_X12_term_72
          simp (disch := omega) only [gim_28, ob_some, hM.2.1, lit, nI_add, pim_28, v1, e1, hble]
        · rcases z3 with ⟨fl, y1, y2⟩ | ⟨x', y1, y2, y3, y4⟩
          · exact .inl ⟨fl, ((hR _ w1).c y1).rc, y2⟩
          · exact .inr ⟨x', ((hR _ w1).c y1).rc, y2, y3, by have y4 : E ≤ x'.2.1 := y4; omega⟩
    by_cases c1' : bt T (sp isB T a) = 42
    · refine step 42 c1' rfl rfl (by omega) ?_
      rw [c1', sI_n (by omega)] at hsg
      rw [B_X12_term_8]
      unfold B_X12_term_42
      simp (disch := omega) only [gim_29, ob_some, hM.2.2.2.1, lit, eq_T, reduceIte, hsg]
      rfl
    by_cases c2' : bt T (sp isB T a) = 47
    · refine step 47 c2' rfl rfl (by omega) ?_
      rw [c2', sI_n (by omega)] at hsg
      rw [B_X12_term_8]
      unfold B_X12_term_42
      simp (disch := omega) only [gim_29, ob_some, hM.2.2.2.1, lit, eq_T, eq_F, reduceIte, hsg]
      rfl
    by_cases c3' : bt T (sp isB T a) = 37
    · refine step 37 c3' rfl rfl (by omega) ?_
      rw [c3', sI_n (by omega)] at hsg
      rw [B_X12_term_8]
      unfold B_X12_term_42
      simp (disch := omega) only [gim_29, ob_some, hM.2.2.2.1, lit, eq_T, eq_F, reduceIte, hsg]
      rfl
    refine ⟨m, ?_, FrS.rf, .inr ⟨_, Rc.rf, h0, ⟨c1', c2', c3'⟩, Nat.le_refl _⟩⟩
    rw [B_X12_term_8]
    simp (disch := omega) only [gim_29, ob_some, hM.2.2.2.1, lit, eq_T, reduceIte, hsg, sI_eqc, c1', c2', c3']
set_option maxRecDepth 4000 in
/-- a product, from the place where a value may come -/
theorem teM {T : TT} {r o pt a p it : Nat} {st : List Nat} {cl : RT} {c1 cd : List (Nat × Nat)} {tl : List Bool} {m : Nat → Nat → Int32} {q : Nat → Nat → Int64} (hr : r < 6) (ho : o = lenR cl + c1.length) (hp : pt ≠ 3) (hs : ∀ x r, st = x :: r → bd x < 6) (h : MB T r o m p cd it) (hsp : sp isB T p = sp isB T a) (hty : tys cd [] = some tl) (hpu : pushes cd ≤ it) (hG : Gv T (0, a, 1, pt, st, it, cl, c1, cd)) : ∃ m1, F_X12_term 996 (KS, m, q) = some ((), (KS, m1, q)) ∧ FrS r o m m1 ∧ ((∃ fl, R1 T (0, a, 1, pt, st, it, cl, c1, cd) (ft fl) ∧ DD T r m1 fl) ∨ ∃ x', R1 T (0, a, 1, pt, st, it, cl, c1, cd) x' ∧ AB T r o m1 x' 6 pt st cl c1 (false :: tl) ∧ N6 T x' ∧ a ≤ x'.2.1) := by
  obtain ⟨hT4, hb⟩ := h.bt
  have hb0 := Gv.bnd (U := []) hG hT4 (fun u hu => by simp at hu)
  simp only [List.map_nil, List.append_nil] at hb0
  obtain ⟨q1, q2, q3⟩ := hb0
  obtain ⟨mv, v1, v2, v3⟩ := vaM (q := q) (pt := pt) (st := st) (cl := cl) (c1 := c1) hr h hsp q2 (by omega)
  have hx2 : rst T (0, a, 1, pt, st, it, cl, c1, cd) = sV T (sp isB T a) pt st it cl c1 cd := rfl
  have hG2 := hG.rst hT4 hb
  rw [hx2] at hG2
  have hs2 := sp_ge (P := isB) (T := T) hB a
  rcases v3 with ⟨fl, w1, w2⟩ | ⟨w1, w2, w3, w4⟩
  · obtain ⟨mb, b1, b2, b3⟩ := w2.blank (q := q)
    obtain ⟨f, hf⟩ : ∃ g, mk_fu = g + 1 := ⟨99999, rfl⟩
    refine ⟨mb, ?_, (v2.le (by omega)).trans (b2 o) (Nat.le_refl _), .inl ⟨fl, R1.one (hx2.trans w1), b3⟩⟩
    unfold F_X12_term
    simp only [gdm, v1, ob_some, b1]
    rw [hf]
    exact (teX b3).1
  · have hel := w2.2.2.1
    have hble := blkM (q := q) w2.1 w2.2.1 (by omega)
    have hend := (end1_le (T := T) (s := sp isB T a) (sp_le hB q3)).1
    generalize end1 T (sp isB T a) = E at *
    generalize vE T (sp isB T a) = v at *
    have e4 := w2.p (p1 := sp isB T E) (sp_le hB hel)
    rw [w1] at hG2
    have hpu2 : pushes (cd ++ [v]) ≤ it + 1 := by
      rw [pushes_app]
      show pushes cd + ((if v.1 ≤ 1 then 1 else 0) + 0) ≤ it + 1
      rw [if_pos w4]; omega
    obtain ⟨m1, z1, z2, z3⟩ := teL (q := q) hr ho hp hs (T.1 - sp isB T E) mk_fu ((mk_u2 mv 996 28 (nI (sp isB T E)))) (0, E, 3, pt, [] ++ st, it + 1, cl, c1, cd ++ [v]) (Nat.le_refl _) (by rw [mk_fu_eq]; omega) ⟨E, it + 1, cd ++ [v], [], rfl, by rw [List.map_nil, List.append_nil]; exact e4, fun u hu => by simp at hu, by rw [List.map_nil, List.append_nil]; exact tys_one hty (w3 _), by rw [List.map_nil, List.append_nil]; exact hpu2, hG2⟩
    refine ⟨m1, ?_, ((v2.le (by omega)).up (by omega)).trans z2 (Nat.le_refl _), ?_⟩
    · unfold F_X12_term
      simp only [gdm, v1, ob_some, hble]
      exact z1
    · have hR : R1 T (0, a, 1, pt, st, it, cl, c1, cd) (0, E, 3, pt, [] ++ st, it + 1, cl, c1, cd ++ [v]) := R1.one (hx2.trans w1)
      rcases z3 with ⟨fl, y1, y2⟩ | ⟨x', y1, y2, y3, y4⟩
      · exact .inl ⟨fl, hR.c y1, y2⟩
      · exact .inr ⟨x', hR.c y1, y2, y3, by have y4 : E ≤ x'.2.1 := y4; omega⟩
