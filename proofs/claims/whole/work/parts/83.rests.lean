/-! rests of two -/
set_option maxRecDepth 4000 in
theorem aP_4 {P A : Nat → Nat → Nat} {G : Nat → Bool} {p : Nat} : A 4 p ≤ aP P A G 4 p := by
  show A 4 p ≤ if G p then A 4 p + 1 else A 4 p
  split <;> omega
set_option maxRecDepth 4000 in
theorem hoursA_4 {P A : Nat → Nat → Nat} {ρ : Option RT} {kept : Int32} {p : Nat} : ∀ n, A 4 p ≤ hoursA P ρ kept n A 4 p
  | 0 => Nat.le_refl _
  | n + 1 => Nat.le_trans (hoursA_4 n) (aP_4 (P := P))
def twoA (A : Nat → Nat → Nat) (a b t : Nat) : Nat → Nat → Nat := upA (upA A 2 a (t / 4)) 2 b (t % 4)
set_option maxRecDepth 4000 in
theorem twoA_4 {A : Nat → Nat → Nat} {a b t p : Nat} : twoA A a b t 4 p = A 4 p := by
  unfold twoA; rw [up_j (by omega), up_j (by omega)]
set_option maxRecDepth 4000 in
theorem twoA_h {A : Nat → Nat → Nat} {a b t : Nat} : twoA A a b t 0 1 = A 0 1 := by
  unfold twoA; rw [up_j (by omega), up_j (by omega)]
set_option maxRecDepth 4000 in
theorem playTwo_ok {m : Nat → Nat → Int32} {q : Nat → Nat → Int64} {P A : Nat → Nat → Nat} {fo n a b t : Nat} {ρ : Option RT} (h : QC m P A (fR fo) ρ) (h4 : m 14 4 = fI fo) (hf : fo ≤ 6) (ha : a < P 0 2) (hb : b < P 0 2) (hn : n ≤ 20) (ht : t < 16) : ∃ m1 q1, F_X2_playTwo 13 (nI a) (nI b) (nI t) (nI n) (KS, m, q) = some ((), (KS, m1, q1)) ∧ KC m m1 ∧ (∀ k, k ≠ t → m1 210 k = m 210 k ∧ m1 211 k = m 211 k) ∧ m1 210 t = nI (hoursA P ρ (-nI 1) n (twoA A a b t) 4 a - A 4 a) ∧ m1 211 t = nI (hoursA P ρ (-nI 1) n (twoA A a b t) 4 b - A 4 b) := by
  obtain ⟨B1, B2, B3⟩ := h.1.2
  have hAh := h.2.1.2
  obtain ⟨ma, t1, t2, t3⟩ := trial_ok (q := q) h
  have hB1 : SR P (blk (mk_u2 ma 202 a (nI (t / 4))) 200) (upA A 2 a (t / 4)) := t3.up (j0 := 2) (p := a) (v := t / 4) (fun j k => blk_u2 (m := ma) (b := 200) (j0 := 2)) (by omega)
  have hB : SR P (blk (mk_u2 (mk_u2 ma 202 a (nI (t / 4))) 202 b (nI (t % 4))) 200) (twoA A a b t) := hB1.up (j0 := 2) (p := b) (v := t % 4) (fun j k => blk_u2 (m := mk_u2 ma 202 a (nI (t / 4))) (b := 200) (j0 := 2)) (by omega)
  generalize hmb : mk_u2 (mk_u2 ma 202 a (nI (t / 4))) 202 b (nI (t % 4)) = mb at hB
  have oa : Out m mb 200 208 := fun j hj => by rw [← hmb, mk_u2_ne (by omega), mk_u2_ne (by omega)]; exact t2 j hj
  have ka := KC.out oa (by omega) (by omega)
  have h4b : mb 14 4 = fI fo := by rw [ka.1 _ (by omega) (by omega)]; exact h4
  obtain ⟨f1, ⟨m1, q1⟩, e, i1, i2⟩ := loop_up (fun f i (s : (Nat → Nat → Int32) × (Nat → Nat → Int64)) => B_X2_playTwo_47 f 13 (nI a) (nI b) (nI t) (nI n) (fR fo) (nI i) (KS, s.1, s.2)) n (fun i s => Out m s.1 200 208 ∧ SR P (blk s.1 200) (hoursA P ρ (-nI 1) i (twoA A a b t))) (by
    intro f i ⟨m', q'⟩ hi ⟨i1, i2⟩
    obtain ⟨m2, q2, w1, w2, w3⟩ := tpass (q := q') (kept := -nI 1) (h.keep (KC.out i1 (by omega) (by omega))) i2 (by rw [hoursA_h, twoA_h]; omega)
    refine ⟨(m2, q2), ?_, i1.trans w2, w3⟩
    simp only [B_X2_playTwo_47]
    simp (disch := omega) only [le_F, reduceIte, gac_13_3, gac_13_0, gac_14_0, gac_13_4, ob_some, w1, lit, nI_add]) n 0 mk_fu (mb, q) (by omega) (by rw [mk_fu_eq]; omega) ⟨oa, hB⟩
  have i1 : Out m m1 200 208 := i1
  have g1 := hoursA_4 (P := P) (A := twoA A a b t) (ρ := ρ) (kept := -nI 1) (p := a) n
  have g2 := hoursA_4 (P := P) (A := twoA A a b t) (ρ := ρ) (kept := -nI 1) (p := b) n
  rw [twoA_4] at g1 g2
  have i2 : SR P (blk m1 200) (hoursA P ρ (-nI 1) n (twoA A a b t)) := i2
  generalize hoursA P ρ (-nI 1) n (twoA A a b t) = B at i2 g1 g2 ⊢
  have v1 : m1 204 a = nI (B 4 a) := (i2.1 a ha).2.2.2.1.1
  have v2 : m1 204 b = nI (B 4 b) := (i2.1 b hb).2.2.2.1.1
  have u1 : m1 27 a = nI (A 4 a) := by rw [i1 _ (by omega)]; exact (h.2.1.1.1 a ha).2.2.2.1.1
  have u2 : m1 27 b = nI (A 4 b) := by rw [i1 _ (by omega)]; exact (h.2.1.1.1 b hb).2.2.2.1.1
  have s1 : nI (B 4 a) - nI (A 4 a) = nI (B 4 a - A 4 a) := pk_sub g1
  have s2 : nI (B 4 b) - nI (A 4 b) = nI (B 4 b - A 4 b) := pk_sub g2
  refine ⟨mk_u2 (mk_u2 m1 210 t (nI (B 4 a - A 4 a))) 211 t (nI (B 4 b - A 4 b)), q1, ?_, (KC.out i1 (by omega) (by omega)).trans ⟨fun i x y => by rw [mk_u2_ne (by omega), mk_u2_ne (by omega)], fun k hk => by rw [u2_a (by omega), u2_a (by omega)]⟩, fun k hk => ⟨?_, ?_⟩, ?_, ?_⟩
  · unfold F_X2_playTwo
    have hd : nI t / nI 4 = nI (t / 4) := pk_div (by omega) (by omega) (by omega)
    have hr : nI t - nI (t / 4) * nI 4 = nI (t % 4) := rem_S (by omega) (by omega) (by omega)
    simp (disch := omega) only [gdc_13, gac_13_4, gac_13_0, gac_14_1, gac_200_1, stc_202, ob_some, t1, lit, eq_F, reduceIte, hd, hr, hmb, inForce_C h4b hf]
    refine Eq.trans e ?_
    simp only [B_X2_playTwo_47]
    simp (disch := omega) only [le_T, reduceIte, gac_13_7, gac_13_8, gac_13_4, gac_13_0, gac_14_1, gac_200_3, gac_23_3, ldc_204, ldc_27, stc_210, stc_211, ob_some, u2_a, v1, v2, u1, u2, s1, s2]
  · rw [u2_a (by omega), u2_b hk, i1 _ (by omega)]
  · rw [u2_b hk, u2_a (by omega), i1 _ (by omega)]
  · rw [u2_a (by omega), u2_s]
  · rw [u2_s]
/-- whether neither could have more -/
def restP (f g : Nat → Nat) (t i : Nat) : Prop := ∀ w, i ≤ w → w < 4 → f (w * 4 + t % 4) ≤ f t ∧ g (t / 4 * 4 + w) ≤ g t
set_option maxRecDepth 4000 in
theorem restP_step {f g : Nat → Nat} {t i : Nat} (hi : i < 4) : restP f g t i ↔ (f (i * 4 + t % 4) ≤ f t ∧ g (t / 4 * 4 + i) ≤ g t) ∧ restP f g t (i + 1) := by
  constructor
  · intro h; exact ⟨h i (Nat.le_refl _) hi, fun w h1 h2 => h w (by omega) h2⟩
  · intro ⟨h1, h2⟩ w h3 h4
    by_cases e : w = i
    · subst e; exact h1
    · exact h2 w (by omega) h4
set_option maxRecDepth 4000 in
theorem isRestC {m : Nat → Nat → Int32} {q : Nat → Nat → Int64} {f g : Nat → Nat} {t : Nat} (hv : ∀ k, k < 16 → (m 210 k = nI (f k) ∧ f k < 100000) ∧ (m 211 k = nI (g k) ∧ g k < 100000)) (ht : t < 16) : ∀ (d i fu : Nat), i + d = 4 → d < fu → ((restP f g t i → B_X2_isRest_2 fu 13 (nI t) (nI i) (KS, m, q) = some (nI 1, (KS, m, q))) ∧ (¬ restP f g t i → B_X2_isRest_2 fu 13 (nI t) (nI i) (KS, m, q) = some (nI 0, (KS, m, q))))
  | 0, i, fu, hd, hf => by
    obtain ⟨fu, rfl⟩ : ∃ f', fu = f' + 1 := ⟨fu - 1, by omega⟩
    simp only [B_X2_isRest_2]
    simp (disch := omega) only [lit, le_T, reduceIte, rz1]
    exact ⟨fun _ => trivial, fun h => absurd (fun w h1 h2 => absurd h2 (by omega)) h⟩
  | d + 1, i, fu, hd, hf => by
    obtain ⟨fu, rfl⟩ : ∃ f', fu = f' + 1 := ⟨fu - 1, by omega⟩
    obtain ⟨ih1, ih2⟩ := isRestC (q := q) hv ht d (i + 1) fu (by omega) (by omega)
    have hs := restP_step (f := f) (g := g) (t := t) (i := i) (by omega)
    have a1 := (hv (i * 4 + t % 4) (by omega)).1
    have a2 := (hv t ht).1
    have a3 := (hv (t / 4 * 4 + i) (by omega)).2
    have a4 := (hv t ht).2
    have hd : nI t / nI 4 = nI (t / 4) := pk_div (by omega) (by omega) (by omega)
    simp only [B_X2_isRest_2]
    simp (disch := omega) only [lit, le_F, reduceIte, gac_13_7, gac_13_8, ob_some, eq_F, hd, pk_mul, rem_P, nI_add, ldc_210, ldc_211, a1.1, a2.1, a3.1, a4.1]
    by_cases c1 : f (i * 4 + t % 4) ≤ f t
    · by_cases c2 : g (t / 4 * 4 + i) ≤ g t
      · simp (disch := omega) only [le_T, reduceIte]
        exact ⟨fun h => ih1 (hs.mp h).2, fun h => ih2 (fun h2 => h (hs.mpr ⟨⟨c1, c2⟩, h2⟩))⟩
      · simp (disch := omega) only [le_T, le_F, reduceIte, rz0]
        exact ⟨fun h => absurd (hs.mp h).1.2 c2, fun _ => trivial⟩
    · simp (disch := omega) only [le_F, reduceIte, rz0]
      exact ⟨fun h => absurd (hs.mp h).1.1 c1, fun _ => trivial⟩
set_option maxRecDepth 4000 in
theorem isRestM {m : Nat → Nat → Int32} {q : Nat → Nat → Int64} {f g : Nat → Nat} {t : Nat} (hv : ∀ k, k < 16 → (m 1035 k = nI (f k) ∧ f k < 1000000) ∧ (m 1036 k = nI (g k) ∧ g k < 1000000)) (ht : t < 16) : ∀ (d i fu : Nat), i + d = 4 → d < fu → ((restP f g t i → B_X12_isRest_2 fu 996 (nI t) (nI i) (KS, m, q) = some (nI 1, (KS, m, q))) ∧ (¬ restP f g t i → B_X12_isRest_2 fu 996 (nI t) (nI i) (KS, m, q) = some (nI 0, (KS, m, q))))
  | 0, i, fu, hd, hf => by
    obtain ⟨fu, rfl⟩ : ∃ f', fu = f' + 1 := ⟨fu - 1, by omega⟩
    simp only [B_X12_isRest_2]
    simp (disch := omega) only [lit, le_T, reduceIte, rz1]
    exact ⟨fun _ => trivial, fun h => absurd (fun w h1 h2 => absurd h2 (by omega)) h⟩
  | d + 1, i, fu, hd, hf => by
    obtain ⟨fu, rfl⟩ : ∃ f', fu = f' + 1 := ⟨fu - 1, by omega⟩
    obtain ⟨ih1, ih2⟩ := isRestM (q := q) hv ht d (i + 1) fu (by omega) (by omega)
    have hs := restP_step (f := f) (g := g) (t := t) (i := i) (by omega)
    have a1 := (hv (4 * i + t % 4) (by omega)).1
    have a2 := (hv t ht).1
    have a3 := (hv (t - t % 4 + i) (by omega)).2
    have a4 := (hv t ht).2
    have hd : nI t / nI 4 = nI (t / 4) := pk_div (by omega) (by omega) (by omega)
    have hsb : nI t - nI (t % 4) = nI (t - t % 4) := pk_sub (by omega)
    have e1 : 4 * i + t % 4 = i * 4 + t % 4 := by omega
    have e2 : t - t % 4 + i = t / 4 * 4 + i := by omega
    simp only [B_X12_isRest_2]
    simp (disch := omega) only [lit, le_F, reduceIte, gam_56, gam_57, ob_some, eq_F, hd, pk_mul, rem_P, hsb, nI_add, ldm_1035, ldm_1036, a1.1, a2.1, a3.1, a4.1]
    rw [e1] at a1
    rw [e2] at a3
    rw [e1, e2]
    by_cases c1 : f (i * 4 + t % 4) ≤ f t
    · by_cases c2 : g (t / 4 * 4 + i) ≤ g t
      · simp (disch := omega) only [lt_F, le_T, reduceIte]
        exact ⟨fun h => ih1 (hs.mp h).2, fun h => ih2 (fun h2 => h (hs.mpr ⟨⟨c1, c2⟩, h2⟩))⟩
      · simp (disch := omega) only [lt_F, le_F, reduceIte, rz0]
        exact ⟨fun h => absurd (hs.mp h).1.2 c2, fun _ => trivial⟩
    · simp (disch := omega) only [lt_T, reduceIte, rz0]
      exact ⟨fun h => absurd (hs.mp h).1.1 c1, fun _ => trivial⟩
def rsF (b : Nat → Bool) : Nat → Nat × Nat
  | 0 => (0, 0)
  | i + 1 => if b i then ((rsF b i).1 + 1, if (rsF b i).1 = 0 then i else (rsF b i).2) else rsF b i
set_option maxRecDepth 4000 in
theorem rsF_le {b : Nat → Bool} : ∀ i, (rsF b i).1 ≤ i ∧ (rsF b i).2 ≤ i
  | 0 => ⟨Nat.le_refl _, Nat.le_refl _⟩
  | i + 1 => by
    obtain ⟨h1, h2⟩ := rsF_le (b := b) i
    rw [rsF]
    split
    · refine ⟨by show (rsF b i).1 + 1 ≤ i + 1; omega, ?_⟩
      show (if (rsF b i).1 = 0 then i else (rsF b i).2) ≤ i + 1
      split <;> omega
    · exact ⟨by omega, by omega⟩
def rsX (r : Nat × Nat) : Int32 := if r.1 = 0 then -nI 1 else nI r.2
def rsAns (r : Nat × Nat) (k : Nat) : Int32 := if k = 0 then nI r.1 else if r.1 = 0 then -nI 2 else if k = 1 then nI (r.2 / 4) else nI (r.2 % 4)
abbrev RsS : Type := Int32 × Int32
set_option maxRecDepth 4000 in
theorem restsC {m : Nat → Nat → Int32} {q : Nat → Nat → Int64} {b : Nat → Bool} {k : Nat} (hk : k ≤ 2) (hb : ∀ t, t < 16 → F_X2_isRest 13 (nI t) (KS, m, q) = some (if b t then nI 1 else nI 0, (KS, m, q))) : B_X2_restsOf_34 mk_fu 13 (nI k) (nI 0) (-nI 1) (nI 0) (KS, m, q) = some (rsAns (rsF b 16) k, (KS, m, q)) := by
  obtain ⟨f1, ⟨y1, y2⟩, e, i1, i2⟩ := loop_up (fun f i (s : RsS) => B_X2_restsOf_34 f 13 (nI k) s.1 s.2 (nI i) (KS, m, q)) 16 (fun i s => s.1 = nI (rsF b i).1 ∧ s.2 = rsX (rsF b i)) (by
    intro f i ⟨y1, y2⟩ hi ⟨i1, i2⟩
    have i1 : y1 = _ := i1
    have i2 : y2 = _ := i2
    subst i1 i2
    obtain ⟨l1, l2⟩ := rsF_le (b := b) i
    refine ⟨(nI (rsF b (i + 1)).1, rsX (rsF b (i + 1))), ?_, rfl, rfl⟩
    simp only [B_X2_restsOf_34, B_X2_restsOf_67, B_X2_restsOf_62]
    simp (disch := omega) only [lit, le_F, reduceIte, ob_some, hb i hi, nI_add]
    rw [rsF]
    cases hbi : b i with
    | false => simp only [Bool.false_eq_true, if_false, if_true]
    | true =>
      have f10 : (nI 1 = nI 0) = False := eq_F (by omega) (by omega) (by omega)
      simp only [if_true, f10, if_false]
      by_cases c : (rsF b i).1 = 0
      · simp only [c, if_true, rsX]
        rw [if_neg (by omega)]
      · have fc : (nI (rsF b i).1 = nI 0) = False := eq_F (by omega) (by omega) (by omega)
        simp only [fc, c, if_false, rsX]
        rw [if_neg (by omega)]) 16 0 mk_fu (nI 0, -nI 1) (by omega) (by rw [mk_fu_eq]; omega) ⟨rfl, rfl⟩
  have i1 : y1 = _ := i1
  have i2 : y2 = _ := i2
  subst i1 i2
  obtain ⟨l1, l2⟩ := rsF_le (b := b) 16
  refine Eq.trans e ?_
  simp only [B_X2_restsOf_34]
  generalize rsF b 16 = r at *
  obtain ⟨r1, r2⟩ := r
  have hd : nI r2 / nI 4 = nI (r2 / 4) := pk_div (by simp only at l2; omega) (by omega) (by omega)
  have hr : nI r2 - nI (r2 / 4) * nI 4 = nI (r2 % 4) := rem_S (by simp only at l2; omega) (by omega) (by omega)
  simp only at l1 l2
  unfold rsAns rsX
  simp only
  rcases (show k = 0 ∨ k = 1 ∨ k = 2 by omega) with ek | ek | ek <;> subst ek
  · simp (disch := omega) only [lit, le_T, reduceIte, eq_T]
  · by_cases c : r1 = 0
    · simp (disch := omega) only [lit, le_T, reduceIte, eq_T, eq_F, c]
      rfl
    · simp (disch := omega) only [lit, le_T, reduceIte, eq_T, eq_F, c, hd, hr]
      rfl
  · by_cases c : r1 = 0
    · simp (disch := omega) only [lit, le_T, reduceIte, eq_T, eq_F, c]
      rfl
    · simp (disch := omega) only [lit, le_T, reduceIte, eq_T, eq_F, c, hd, hr]
      rfl
set_option maxRecDepth 4000 in
theorem restsM {m : Nat → Nat → Int32} {q : Nat → Nat → Int64} {b : Nat → Bool} {k : Nat} (hk : k ≤ 2) (hb : ∀ t, t < 16 → F_X12_isRest 996 (nI t) (KS, m, q) = some (if b t then nI 1 else nI 0, (KS, m, q))) : B_X12_rests_64 mk_fu 996 (nI k) (nI 0) (-nI 1) (nI 0) (KS, m, q) = some (rsAns (rsF b 16) k, (KS, m, q)) := by
  obtain ⟨f1, ⟨y1, y2⟩, e, i1, i2⟩ := loop_up (fun f i (s : RsS) => B_X12_rests_64 f 996 (nI k) s.1 s.2 (nI i) (KS, m, q)) 16 (fun i s => s.1 = nI (rsF b i).1 ∧ s.2 = rsX (rsF b i)) (by
    intro f i ⟨y1, y2⟩ hi ⟨i1, i2⟩
    have i1 : y1 = _ := i1
    have i2 : y2 = _ := i2
    subst i1 i2
    obtain ⟨l1, l2⟩ := rsF_le (b := b) i
    refine ⟨(nI (rsF b (i + 1)).1, rsX (rsF b (i + 1))), ?_, rfl, rfl⟩
    simp only [B_X12_rests_64, B_X12_rests_97, B_X12_rests_92]
    simp (disch := omega) only [lit, le_F, reduceIte, ob_some, hb i hi, nI_add]
    rw [rsF]
    cases hbi : b i with
    | false => simp only [Bool.false_eq_true, if_false, if_true]
    | true =>
      have f10 : (nI 1 = nI 0) = False := eq_F (by omega) (by omega) (by omega)
      simp only [if_true, f10, if_false]
      by_cases c : (rsF b i).1 = 0
      · simp only [c, if_true, rsX]
        rw [if_neg (by omega)]
      · have fc : (nI (rsF b i).1 = nI 0) = False := eq_F (by omega) (by omega) (by omega)
        simp only [fc, c, if_false, rsX]
        rw [if_neg (by omega)]) 16 0 mk_fu (nI 0, -nI 1) (by omega) (by rw [mk_fu_eq]; omega) ⟨rfl, rfl⟩
  have i1 : y1 = _ := i1
  have i2 : y2 = _ := i2
  subst i1 i2
  obtain ⟨l1, l2⟩ := rsF_le (b := b) 16
  refine Eq.trans e ?_
  simp only [B_X12_rests_64]
  generalize rsF b 16 = r at *
  obtain ⟨r1, r2⟩ := r
  simp only at l1 l2
  have hd : nI r2 / nI 4 = nI (r2 / 4) := pk_div (by omega) (by omega) (by omega)
  have hr : nI r2 - nI (r2 / 4) * nI 4 = nI (r2 % 4) := rem_S (by omega) (by omega) (by omega)
  have hm1 : (nI r2 = -nI 1) = False := m1_F (by omega)
  unfold rsAns rsX
  simp only
  rcases (show k = 0 ∨ k = 1 ∨ k = 2 by omega) with ek | ek | ek <;> subst ek
  · simp (disch := omega) only [lit, le_T, reduceIte, eq_T]
  · by_cases c : r1 = 0
    · simp (disch := omega) only [lit, le_T, reduceIte, eq_T, eq_F, c]
      rfl
    · simp (disch := omega) only [lit, le_T, reduceIte, eq_T, eq_F, c, hd, hr, hm1]
      rfl
  · by_cases c : r1 = 0
    · simp (disch := omega) only [lit, le_T, reduceIte, eq_T, eq_F, c]
      rfl
    · simp (disch := omega) only [lit, le_T, reduceIte, eq_T, eq_F, c, hd, hr, hm1]
      rfl
set_option maxRecDepth 4000 in
theorem KP.arr {m0 m : Nat → Nat → Int32} {i k : Nat} {v : Int32} (h : KP m0 m) (h1 : 1035 ≤ i) (h2 : i ≤ 1038) : KP m0 (mk_u2 m i k v) := by
  obtain ⟨⟨k1, k2, k3⟩, k4⟩ := h
  exact ⟨⟨fun j a b => by rw [mk_u2_ne (by omega)]; exact k1 j a b, fun k a b c d e f => by rw [u2_a (by omega)]; exact k2 k a b c d e f, fun k hk => by rw [u2_a (by omega)]; exact k3 k hk⟩, fun j k hj hk => by rw [u2_a (by omega)]; exact k4 j k hj hk⟩
set_option maxRecDepth 4000 in
theorem laysFaces_ok {m : Nat → Nat → Int32} {q : Nat → Nat → Int64} {P A : Nat → Nat → Nat} {n a b : Nat} {ρ : Option RT} (hQ : QM m P ρ (-nI 1)) (hA : MS P (blk m 997) A) (hAh : A 0 1 ≤ 999) (ha : a < P 0 2) (hb : b < P 0 2) (hn : n ≤ 20) : ∃ m1 q1, F_X12_laysFaces 996 (nI a) (nI b) (nI n) (KS, m, q) = some ((), (KS, m1, q1)) ∧ KP m m1 ∧ KB m m1 ∧ m1 996 47 = -nI 1 ∧ ∀ k, k < 16 → (m1 1035 k = nI (hoursA P ρ (-nI 1) n (twoA A a b k) 4 a) ∧ hoursA P ρ (-nI 1) n (twoA A a b k) 4 a < 100000) ∧ (m1 1036 k = nI (hoursA P ρ (-nI 1) n (twoA A a b k) 4 b) ∧ hoursA P ρ (-nI 1) n (twoA A a b k) 4 b < 100000) := by
  obtain ⟨B1, B2, B3⟩ := hQ.1.2
  obtain ⟨mz, k1, k2, k3, k4, k5⟩ := keepsAll_ok (q := q) m
  obtain ⟨f1, ⟨m1, q1⟩, e, i1, i2, i3, i4⟩ := loop_up (fun f i (s : (Nat → Nat → Int32) × (Nat → Nat → Int64)) => B_X12_laysFaces_7 f 996 (nI a) (nI b) (nI n) (nI i) (KS, s.1, s.2)) 16 (fun i s => KP m s.1 ∧ KB m s.1 ∧ s.1 996 47 = -nI 1 ∧ ∀ k, k < i → (s.1 1035 k = nI (hoursA P ρ (-nI 1) n (twoA A a b k) 4 a) ∧ hoursA P ρ (-nI 1) n (twoA A a b k) 4 a < 100000) ∧ (s.1 1036 k = nI (hoursA P ρ (-nI 1) n (twoA A a b k) 4 b) ∧ hoursA P ρ (-nI 1) n (twoA A a b k) 4 b < 100000)) (by
    intro f t ⟨m', q'⟩ ht ⟨i1, i2, i3, i4⟩
    have hQ' := hQ.back i1.1 i2 i3
    have hA' := hA.back hQ.1 i2
    have hB1 : MS P (blk (mk_u2 m' 999 a (nI (t / 4))) 997) (upA A 2 a (t / 4)) := hA'.up (j0 := 2) (p := a) (v := t / 4) (fun j k => blk_u2 (m := m') (b := 997) (j0 := 2)) (by omega)
    have hB : MS P (blk (mk_u2 (mk_u2 m' 999 a (nI (t / 4))) 999 b (nI (t % 4))) 997) (twoA A a b t) := hB1.up (j0 := 2) (p := b) (v := t % 4) (fun j k => blk_u2 (m := mk_u2 m' 999 a (nI (t / 4))) (b := 997) (j0 := 2)) (by omega)
    have mo : MO m' (mk_u2 (mk_u2 m' 999 a (nI (t / 4))) 999 b (nI (t % 4))) := (MO.row (by omega) (by omega)).trans (MO.row (by omega) (by omega))
    generalize hmb : mk_u2 (mk_u2 m' 999 a (nI (t / 4))) 999 b (nI (t % 4)) = mb at hB mo
    obtain ⟨mc, qc, c1, c2, c3⟩ := goFor_ok (q := q') (n := n) (hQ'.mo mo) hB (by rw [twoA_h]; omega) (by omega)
    have v1 : mc 1001 a = nI (hoursA P ρ (-nI 1) n (twoA A a b t) 4 a) := (c3.1 a ha).2.2.2.1.1
    have v2 : mc 1001 b = nI (hoursA P ρ (-nI 1) n (twoA A a b t) 4 b) := (c3.1 b hb).2.2.2.1.1
    have w1 := (c3.1 a ha).2.2.2.1.2
    have w2 := (c3.1 b hb).2.2.2.1.2
    rw [hoursA_h, twoA_h] at w1 w2
    obtain ⟨me, e1, e2, e3, e4, e5⟩ := laysBack_ok (q := qc) _ ((((i1.mo mo).mo c2).arr (i := 1035) (k := t) (v := nI (hoursA P ρ (-nI 1) n (twoA A a b t) 4 a)) (by omega) (by omega)).arr (i := 1036) (k := t) (v := nI (hoursA P ρ (-nI 1) n (twoA A a b t) 4 b)) (by omega) (by omega))
    refine ⟨(me, qc), ?_, e2, e3, ?_, fun k hk => ?_⟩
    · have hd : nI t / nI 4 = nI (t / 4) := pk_div (by omega) (by omega) (by omega)
      have hr : nI t - nI (t / 4) * nI 4 = nI (t % 4) := rem_S (by omega) (by omega) (by omega)
      simp only [B_X12_laysFaces_7]
      simp (disch := omega) only [lit, le_F, reduceIte, gam_3, gam_5, gam_56, gam_57, stm_999, stm_1035, stm_1036, ldm_1001, ob_some, eq_F, hd, hr, hmb, c1, v1, v2, u2_a, e1, nI_add]
    · show me 996 47 = -nI 1
      rw [e4 47 (by omega) (by omega), u2_a (by omega), u2_a (by omega), c2.1 996 (by omega), mo.1 996 (by omega)]; exact i3
    · show (me 1035 k = _ ∧ _) ∧ (me 1036 k = _ ∧ _)
      rw [e5 1035 (by omega) (by omega), e5 1036 (by omega) (by omega)]
      by_cases ek : k = t
      · subst ek
        rw [u2_a (by omega), u2_s, u2_s]
        exact ⟨⟨rfl, by omega⟩, ⟨rfl, by omega⟩⟩
      · rw [u2_a (by omega), u2_b ek, u2_b ek, u2_a (by omega), c2.1 1035 (by omega), c2.1 1036 (by omega), mo.1 1035 (by omega), mo.1 1036 (by omega)]
        exact i4 k (by omega)) 16 0 mk_fu (mz, q) (by omega) (by rw [mk_fu_eq]; omega) ⟨k2, k3, (k4 47 (by omega) (by omega)).trans hQ.2.2, fun k hk => absurd hk (by omega)⟩
  refine ⟨m1, q1, ?_, i1, i2, i3, i4⟩
  unfold F_X12_laysFaces
  simp only [gdm, k1, ob_some, lit]
  refine Eq.trans e ?_
  simp only [B_X12_laysFaces_7]
  simp (disch := omega) only [lit, le_T, reduceIte]
set_option maxRecDepth 4000 in
theorem restP_sub {f g f1 g1 : Nat → Nat} {c d t : Nat} (ht : t < 16) (h : ∀ k, k < 16 → f1 k = f k - c ∧ c ≤ f k ∧ g1 k = g k - d ∧ d ≤ g k) : restP f1 g1 t 0 ↔ restP f g t 0 := by
  have h0 := h t ht
  constructor
  · intro h2 w h3 h4
    have a := h2 w h3 h4
    have h1 := h (w * 4 + t % 4) (by omega)
    have h2 := h (t / 4 * 4 + w) (by omega)
    omega
  · intro h2 w h3 h4
    have a := h2 w h3 h4
    have h1 := h (w * 4 + t % 4) (by omega)
    have h2 := h (t / 4 * 4 + w) (by omega)
    omega
set_option maxRecDepth 4000 in
theorem op_rests (x1 x2 x3 x4 : Int32) : OP (F_X11_rests 0 x1 x2 x3 x4) (F_X12_rests 996 x1 x2 x3 x4) := by
  intro m q hI
  obtain ⟨⟨⟨⟨len, by_⟩, ⟨nr, RS⟩, ⟨P, A, H, n, N, nn, fo, x⟩, IM, md⟩, hC, hM⟩, hE⟩ := id hI
  obtain ⟨⟨ct1, ct2, ct3⟩, ⟨cr1, cr2, cr3⟩, ⟨⟨cP, ⟨cA, cAh⟩, cH, ⟨cn1, cn2⟩, ⟨cf1, cf2⟩, ⟨cx1, cx2⟩⟩, cwf⟩, cm1, cm2⟩ := id hC
  obtain ⟨⟨mt1, mt2⟩, ⟨mr1, mr2⟩, ⟨mP, ⟨mA, mAh⟩, ⟨mh1, mh2, mh3⟩, ⟨mn1, mn2⟩, ⟨mf1, mf2⟩, ⟨mx1, mx2⟩⟩, mm1, mm2, mw, ms⟩ := id hM
  have cP5 : m 15 0 = nI (P 0 0) ∧ m 15 1 = nI (P 0 1) ∧ m 15 2 = nI (P 0 2) ∧ m 15 3 = nI (P 0 3) ∧ m 15 4 = nI (P 0 4) := cP.five
  have mP5 : m 997 0 = nI (P 0 0) ∧ m 997 1 = nI (P 0 1) ∧ m 997 2 = nI (P 0 2) ∧ m 997 3 = nI (P 0 3) ∧ m 997 4 = nI (P 0 4) := mP.five
  obtain ⟨B0, B1, B2, B3, B4, B5⟩ := cP.bd
  rcases within_C x1 0 (P 0 2) (by omega) (by omega) with ⟨a, -, ha, rfl⟩ | hno
  rotate_left
  · refine ⟨-nI 1, m, q, m, q, ?_, ?_, hI, fun _ _ => rfl⟩
    · unfold F_X11_rests; simp (disch := omega) only [ob_some, reduceIte, lit, le_T, le_F, lt_T, lt_F, eq_T, eq_F, nI_add, gac_0_0, gac_0_1, gac_0_2, gac_0_3, gac_0_4, gac_0_5, gac_0_6, gac_1_0, gic_1_1, gic_1_2, gic_1_3, gic_1_4, gic_1_5, gic_1_6, gac_3_0, gic_3_1, gic_3_2, gic_3_3, gic_3_4, gic_3_5, gic_3_6, gic_3_7, gic_5_0, gic_5_1, gic_5_2, gic_5_3, gic_5_4, gac_5_5, gac_5_6, gac_5_7, gac_5_8, gac_5_9, gac_5_10, gac_5_11, gac_13_0, gac_13_1, gic_13_2, gac_13_3, gac_13_4, gac_13_5, gac_13_6, gac_13_7, gac_13_8, gac_13_9, gic_13_10, gic_13_11, gic_13_12, gic_13_13, gac_14_0, gac_14_1, gac_14_2, gac_14_3, gic_14_4, gic_14_5, gic_15_0, gic_15_1, gic_15_2, gic_15_3, gic_15_4, gac_15_5, gac_15_6, gac_15_7, gac_15_8, gac_15_9, gac_15_10, gac_15_11, gac_23_0, gac_23_1, gac_23_2, gac_23_3, gac_23_4, gac_23_5, gac_23_6, gic_23_7, gic_23_8, gac_31_0, gic_31_1, gic_31_2, gac_193_0, gac_193_1, gac_193_2, gic_193_3, gac_198_0, gac_200_0, gac_200_1, gac_200_2, gac_200_3, gac_200_4, gac_200_5, gac_200_6, gic_200_7, gic_200_8, pic_1_1, pic_1_2, pic_1_3, pic_1_4, pic_1_5, pic_1_6, pic_3_1, pic_3_2, pic_3_3, pic_3_4, pic_3_5, pic_3_6, pic_3_7, pic_5_0, pic_5_1, pic_5_2, pic_5_3, pic_5_4, pic_13_2, pic_13_10, pic_13_11, pic_13_12, pic_13_13, pic_14_4, pic_14_5, pic_15_0, pic_15_1, pic_15_2, pic_15_3, pic_15_4, pic_23_7, pic_23_8, pic_31_1, pic_31_2, pic_193_3, pic_200_7, pic_200_8, gdc_0, gdc_1, gdc_3, gdc_5, gdc_13, gdc_14, gdc_15, gdc_23, gdc_31, gdc_193, gdc_198, gdc_200, ldc_2, stc_2, ldc_4, stc_4, ldc_6, stc_6, ldc_7, stc_7, ldc_8, stc_8, ldc_9, stc_9, ldc_10, stc_10, ldc_11, stc_11, ldc_12, stc_12, ldc_16, stc_16, ldc_17, stc_17, ldc_18, stc_18, ldc_19, stc_19, ldc_20, stc_20, ldc_21, stc_21, ldc_22, stc_22, ldc_24, stc_24, ldc_25, stc_25, ldc_26, stc_26, ldc_27, stc_27, ldc_28, stc_28, ldc_29, stc_29, ldc_30, stc_30, ldc_194, stc_194, ldc_195, stc_195, ldc_196, stc_196, ldc_199, stc_199, ldc_201, stc_201, ldc_202, stc_202, ldc_203, stc_203, ldc_204, stc_204, ldc_205, stc_205, ldc_206, stc_206, ldc_207, stc_207, ldc_208, stc_208, ldc_209, stc_209, ldc_210, stc_210, ldc_211, stc_211, ldc_213, stc_213, ldc_214, stc_214, ldc_215, stc_215, ldc_216, stc_216, ldc_217, stc_217, ldc_218, stc_218, ldc_219, stc_219, ldc_263, stc_263, lda_197, lda_262, lda_212, lda_32, u2_s, u2_a, u2_b, isPer_C cP5.2.2.1, hno]
    · unfold F_X12_rests; simp (disch := omega) only [gdm, gam_1, gam_2, gam_3, gam_4, gam_5, gam_6, gam_7, gam_8, gam_9, gam_10, gam_11, gam_12, gam_13, gam_14, gam_15, gam_16, gam_17, gam_18, gam_19, gam_20, gam_21, gam_22, gam_23, gam_24, gam_25, gam_26, gam_37, gam_38, gam_39, gam_40, gam_41, gam_42, gam_43, gam_44, gam_45, gam_46, gam_48, gam_49, gam_56, gam_57, gam_58, gam_59, gam_60, gam_61, gim_27, gim_28, gim_29, gim_30, gim_31, gim_32, gim_33, gim_34, gim_35, gim_36, gim_47, gim_50, gim_51, gim_52, gim_53, gim_54, gim_55, gim_62, gim_63, ob_some, reduceIte, lit, le_T, le_F, lt_T, lt_F, eq_T, eq_F, nI_add, ldm_997, stm_997, ldm_998, stm_998, ldm_999, stm_999, ldm_1000, stm_1000, ldm_1001, stm_1001, ldm_1002, stm_1002, ldm_1003, stm_1003, ldm_1004, stm_1004, ldm_1005, stm_1005, ldm_1006, stm_1006, ldm_1007, stm_1007, ldm_1008, stm_1008, ldm_1009, stm_1009, ldm_1010, stm_1010, ldm_1011, stm_1011, ldm_1012, stm_1012, ldm_1013, stm_1013, ldm_1014, stm_1014, ldm_1015, stm_1015, ldm_1016, stm_1016, ldm_1017, stm_1017, ldm_1018, stm_1018, ldm_1019, stm_1019, ldm_1020, stm_1020, ldm_1021, stm_1021, ldm_1022, stm_1022, u2_s, u2_a, u2_b, not_true, not_false_iff, isPer_M mP5.2.2.1, hno]
  rcases within_C x2 0 (P 0 2) (by omega) (by omega) with ⟨b, -, hb, rfl⟩ | hno
  rotate_left
  · refine ⟨-nI 1, m, q, m, q, ?_, ?_, hI, fun _ _ => rfl⟩
    · unfold F_X11_rests; simp (disch := omega) only [ob_some, reduceIte, lit, le_T, le_F, lt_T, lt_F, eq_T, eq_F, nI_add, gac_0_0, gac_0_1, gac_0_2, gac_0_3, gac_0_4, gac_0_5, gac_0_6, gac_1_0, gic_1_1, gic_1_2, gic_1_3, gic_1_4, gic_1_5, gic_1_6, gac_3_0, gic_3_1, gic_3_2, gic_3_3, gic_3_4, gic_3_5, gic_3_6, gic_3_7, gic_5_0, gic_5_1, gic_5_2, gic_5_3, gic_5_4, gac_5_5, gac_5_6, gac_5_7, gac_5_8, gac_5_9, gac_5_10, gac_5_11, gac_13_0, gac_13_1, gic_13_2, gac_13_3, gac_13_4, gac_13_5, gac_13_6, gac_13_7, gac_13_8, gac_13_9, gic_13_10, gic_13_11, gic_13_12, gic_13_13, gac_14_0, gac_14_1, gac_14_2, gac_14_3, gic_14_4, gic_14_5, gic_15_0, gic_15_1, gic_15_2, gic_15_3, gic_15_4, gac_15_5, gac_15_6, gac_15_7, gac_15_8, gac_15_9, gac_15_10, gac_15_11, gac_23_0, gac_23_1, gac_23_2, gac_23_3, gac_23_4, gac_23_5, gac_23_6, gic_23_7, gic_23_8, gac_31_0, gic_31_1, gic_31_2, gac_193_0, gac_193_1, gac_193_2, gic_193_3, gac_198_0, gac_200_0, gac_200_1, gac_200_2, gac_200_3, gac_200_4, gac_200_5, gac_200_6, gic_200_7, gic_200_8, pic_1_1, pic_1_2, pic_1_3, pic_1_4, pic_1_5, pic_1_6, pic_3_1, pic_3_2, pic_3_3, pic_3_4, pic_3_5, pic_3_6, pic_3_7, pic_5_0, pic_5_1, pic_5_2, pic_5_3, pic_5_4, pic_13_2, pic_13_10, pic_13_11, pic_13_12, pic_13_13, pic_14_4, pic_14_5, pic_15_0, pic_15_1, pic_15_2, pic_15_3, pic_15_4, pic_23_7, pic_23_8, pic_31_1, pic_31_2, pic_193_3, pic_200_7, pic_200_8, gdc_0, gdc_1, gdc_3, gdc_5, gdc_13, gdc_14, gdc_15, gdc_23, gdc_31, gdc_193, gdc_198, gdc_200, ldc_2, stc_2, ldc_4, stc_4, ldc_6, stc_6, ldc_7, stc_7, ldc_8, stc_8, ldc_9, stc_9, ldc_10, stc_10, ldc_11, stc_11, ldc_12, stc_12, ldc_16, stc_16, ldc_17, stc_17, ldc_18, stc_18, ldc_19, stc_19, ldc_20, stc_20, ldc_21, stc_21, ldc_22, stc_22, ldc_24, stc_24, ldc_25, stc_25, ldc_26, stc_26, ldc_27, stc_27, ldc_28, stc_28, ldc_29, stc_29, ldc_30, stc_30, ldc_194, stc_194, ldc_195, stc_195, ldc_196, stc_196, ldc_199, stc_199, ldc_201, stc_201, ldc_202, stc_202, ldc_203, stc_203, ldc_204, stc_204, ldc_205, stc_205, ldc_206, stc_206, ldc_207, stc_207, ldc_208, stc_208, ldc_209, stc_209, ldc_210, stc_210, ldc_211, stc_211, ldc_213, stc_213, ldc_214, stc_214, ldc_215, stc_215, ldc_216, stc_216, ldc_217, stc_217, ldc_218, stc_218, ldc_219, stc_219, ldc_263, stc_263, lda_197, lda_262, lda_212, lda_32, u2_s, u2_a, u2_b, isPer_C cP5.2.2.1, within_T, hno]
    · unfold F_X12_rests; simp (disch := omega) only [gdm, gam_1, gam_2, gam_3, gam_4, gam_5, gam_6, gam_7, gam_8, gam_9, gam_10, gam_11, gam_12, gam_13, gam_14, gam_15, gam_16, gam_17, gam_18, gam_19, gam_20, gam_21, gam_22, gam_23, gam_24, gam_25, gam_26, gam_37, gam_38, gam_39, gam_40, gam_41, gam_42, gam_43, gam_44, gam_45, gam_46, gam_48, gam_49, gam_56, gam_57, gam_58, gam_59, gam_60, gam_61, gim_27, gim_28, gim_29, gim_30, gim_31, gim_32, gim_33, gim_34, gim_35, gim_36, gim_47, gim_50, gim_51, gim_52, gim_53, gim_54, gim_55, gim_62, gim_63, ob_some, reduceIte, lit, le_T, le_F, lt_T, lt_F, eq_T, eq_F, nI_add, ldm_997, stm_997, ldm_998, stm_998, ldm_999, stm_999, ldm_1000, stm_1000, ldm_1001, stm_1001, ldm_1002, stm_1002, ldm_1003, stm_1003, ldm_1004, stm_1004, ldm_1005, stm_1005, ldm_1006, stm_1006, ldm_1007, stm_1007, ldm_1008, stm_1008, ldm_1009, stm_1009, ldm_1010, stm_1010, ldm_1011, stm_1011, ldm_1012, stm_1012, ldm_1013, stm_1013, ldm_1014, stm_1014, ldm_1015, stm_1015, ldm_1016, stm_1016, ldm_1017, stm_1017, ldm_1018, stm_1018, ldm_1019, stm_1019, ldm_1020, stm_1020, ldm_1021, stm_1021, ldm_1022, stm_1022, u2_s, u2_a, u2_b, not_true, not_false_iff, isPer_M mP5.2.2.1, within_T, hno]
  by_cases hab : a = b
  · refine ⟨-nI 1, m, q, m, q, ?_, ?_, hI, fun _ _ => rfl⟩
    · unfold F_X11_rests; simp (disch := omega) only [ob_some, reduceIte, lit, le_T, le_F, lt_T, lt_F, eq_T, eq_F, nI_add, gac_0_0, gac_0_1, gac_0_2, gac_0_3, gac_0_4, gac_0_5, gac_0_6, gac_1_0, gic_1_1, gic_1_2, gic_1_3, gic_1_4, gic_1_5, gic_1_6, gac_3_0, gic_3_1, gic_3_2, gic_3_3, gic_3_4, gic_3_5, gic_3_6, gic_3_7, gic_5_0, gic_5_1, gic_5_2, gic_5_3, gic_5_4, gac_5_5, gac_5_6, gac_5_7, gac_5_8, gac_5_9, gac_5_10, gac_5_11, gac_13_0, gac_13_1, gic_13_2, gac_13_3, gac_13_4, gac_13_5, gac_13_6, gac_13_7, gac_13_8, gac_13_9, gic_13_10, gic_13_11, gic_13_12, gic_13_13, gac_14_0, gac_14_1, gac_14_2, gac_14_3, gic_14_4, gic_14_5, gic_15_0, gic_15_1, gic_15_2, gic_15_3, gic_15_4, gac_15_5, gac_15_6, gac_15_7, gac_15_8, gac_15_9, gac_15_10, gac_15_11, gac_23_0, gac_23_1, gac_23_2, gac_23_3, gac_23_4, gac_23_5, gac_23_6, gic_23_7, gic_23_8, gac_31_0, gic_31_1, gic_31_2, gac_193_0, gac_193_1, gac_193_2, gic_193_3, gac_198_0, gac_200_0, gac_200_1, gac_200_2, gac_200_3, gac_200_4, gac_200_5, gac_200_6, gic_200_7, gic_200_8, pic_1_1, pic_1_2, pic_1_3, pic_1_4, pic_1_5, pic_1_6, pic_3_1, pic_3_2, pic_3_3, pic_3_4, pic_3_5, pic_3_6, pic_3_7, pic_5_0, pic_5_1, pic_5_2, pic_5_3, pic_5_4, pic_13_2, pic_13_10, pic_13_11, pic_13_12, pic_13_13, pic_14_4, pic_14_5, pic_15_0, pic_15_1, pic_15_2, pic_15_3, pic_15_4, pic_23_7, pic_23_8, pic_31_1, pic_31_2, pic_193_3, pic_200_7, pic_200_8, gdc_0, gdc_1, gdc_3, gdc_5, gdc_13, gdc_14, gdc_15, gdc_23, gdc_31, gdc_193, gdc_198, gdc_200, ldc_2, stc_2, ldc_4, stc_4, ldc_6, stc_6, ldc_7, stc_7, ldc_8, stc_8, ldc_9, stc_9, ldc_10, stc_10, ldc_11, stc_11, ldc_12, stc_12, ldc_16, stc_16, ldc_17, stc_17, ldc_18, stc_18, ldc_19, stc_19, ldc_20, stc_20, ldc_21, stc_21, ldc_22, stc_22, ldc_24, stc_24, ldc_25, stc_25, ldc_26, stc_26, ldc_27, stc_27, ldc_28, stc_28, ldc_29, stc_29, ldc_30, stc_30, ldc_194, stc_194, ldc_195, stc_195, ldc_196, stc_196, ldc_199, stc_199, ldc_201, stc_201, ldc_202, stc_202, ldc_203, stc_203, ldc_204, stc_204, ldc_205, stc_205, ldc_206, stc_206, ldc_207, stc_207, ldc_208, stc_208, ldc_209, stc_209, ldc_210, stc_210, ldc_211, stc_211, ldc_213, stc_213, ldc_214, stc_214, ldc_215, stc_215, ldc_216, stc_216, ldc_217, stc_217, ldc_218, stc_218, ldc_219, stc_219, ldc_263, stc_263, lda_197, lda_262, lda_212, lda_32, u2_s, u2_a, u2_b, isPer_C cP5.2.2.1, within_T]
    · unfold F_X12_rests; simp (disch := omega) only [gdm, gam_1, gam_2, gam_3, gam_4, gam_5, gam_6, gam_7, gam_8, gam_9, gam_10, gam_11, gam_12, gam_13, gam_14, gam_15, gam_16, gam_17, gam_18, gam_19, gam_20, gam_21, gam_22, gam_23, gam_24, gam_25, gam_26, gam_37, gam_38, gam_39, gam_40, gam_41, gam_42, gam_43, gam_44, gam_45, gam_46, gam_48, gam_49, gam_56, gam_57, gam_58, gam_59, gam_60, gam_61, gim_27, gim_28, gim_29, gim_30, gim_31, gim_32, gim_33, gim_34, gim_35, gim_36, gim_47, gim_50, gim_51, gim_52, gim_53, gim_54, gim_55, gim_62, gim_63, ob_some, reduceIte, lit, le_T, le_F, lt_T, lt_F, eq_T, eq_F, nI_add, ldm_997, stm_997, ldm_998, stm_998, ldm_999, stm_999, ldm_1000, stm_1000, ldm_1001, stm_1001, ldm_1002, stm_1002, ldm_1003, stm_1003, ldm_1004, stm_1004, ldm_1005, stm_1005, ldm_1006, stm_1006, ldm_1007, stm_1007, ldm_1008, stm_1008, ldm_1009, stm_1009, ldm_1010, stm_1010, ldm_1011, stm_1011, ldm_1012, stm_1012, ldm_1013, stm_1013, ldm_1014, stm_1014, ldm_1015, stm_1015, ldm_1016, stm_1016, ldm_1017, stm_1017, ldm_1018, stm_1018, ldm_1019, stm_1019, ldm_1020, stm_1020, ldm_1021, stm_1021, ldm_1022, stm_1022, u2_s, u2_a, u2_b, not_true, not_false_iff, isPer_M mP5.2.2.1, within_T]
  rcases within_CL x3 1 20 (by omega) (by omega) with ⟨n1, hn0, hn1, rfl⟩ | hno
  rotate_left
  · refine ⟨-nI 1, m, q, m, q, ?_, ?_, hI, fun _ _ => rfl⟩
    · unfold F_X11_rests; simp (disch := omega) only [ob_some, reduceIte, lit, le_T, le_F, lt_T, lt_F, eq_T, eq_F, nI_add, gac_0_0, gac_0_1, gac_0_2, gac_0_3, gac_0_4, gac_0_5, gac_0_6, gac_1_0, gic_1_1, gic_1_2, gic_1_3, gic_1_4, gic_1_5, gic_1_6, gac_3_0, gic_3_1, gic_3_2, gic_3_3, gic_3_4, gic_3_5, gic_3_6, gic_3_7, gic_5_0, gic_5_1, gic_5_2, gic_5_3, gic_5_4, gac_5_5, gac_5_6, gac_5_7, gac_5_8, gac_5_9, gac_5_10, gac_5_11, gac_13_0, gac_13_1, gic_13_2, gac_13_3, gac_13_4, gac_13_5, gac_13_6, gac_13_7, gac_13_8, gac_13_9, gic_13_10, gic_13_11, gic_13_12, gic_13_13, gac_14_0, gac_14_1, gac_14_2, gac_14_3, gic_14_4, gic_14_5, gic_15_0, gic_15_1, gic_15_2, gic_15_3, gic_15_4, gac_15_5, gac_15_6, gac_15_7, gac_15_8, gac_15_9, gac_15_10, gac_15_11, gac_23_0, gac_23_1, gac_23_2, gac_23_3, gac_23_4, gac_23_5, gac_23_6, gic_23_7, gic_23_8, gac_31_0, gic_31_1, gic_31_2, gac_193_0, gac_193_1, gac_193_2, gic_193_3, gac_198_0, gac_200_0, gac_200_1, gac_200_2, gac_200_3, gac_200_4, gac_200_5, gac_200_6, gic_200_7, gic_200_8, pic_1_1, pic_1_2, pic_1_3, pic_1_4, pic_1_5, pic_1_6, pic_3_1, pic_3_2, pic_3_3, pic_3_4, pic_3_5, pic_3_6, pic_3_7, pic_5_0, pic_5_1, pic_5_2, pic_5_3, pic_5_4, pic_13_2, pic_13_10, pic_13_11, pic_13_12, pic_13_13, pic_14_4, pic_14_5, pic_15_0, pic_15_1, pic_15_2, pic_15_3, pic_15_4, pic_23_7, pic_23_8, pic_31_1, pic_31_2, pic_193_3, pic_200_7, pic_200_8, gdc_0, gdc_1, gdc_3, gdc_5, gdc_13, gdc_14, gdc_15, gdc_23, gdc_31, gdc_193, gdc_198, gdc_200, ldc_2, stc_2, ldc_4, stc_4, ldc_6, stc_6, ldc_7, stc_7, ldc_8, stc_8, ldc_9, stc_9, ldc_10, stc_10, ldc_11, stc_11, ldc_12, stc_12, ldc_16, stc_16, ldc_17, stc_17, ldc_18, stc_18, ldc_19, stc_19, ldc_20, stc_20, ldc_21, stc_21, ldc_22, stc_22, ldc_24, stc_24, ldc_25, stc_25, ldc_26, stc_26, ldc_27, stc_27, ldc_28, stc_28, ldc_29, stc_29, ldc_30, stc_30, ldc_194, stc_194, ldc_195, stc_195, ldc_196, stc_196, ldc_199, stc_199, ldc_201, stc_201, ldc_202, stc_202, ldc_203, stc_203, ldc_204, stc_204, ldc_205, stc_205, ldc_206, stc_206, ldc_207, stc_207, ldc_208, stc_208, ldc_209, stc_209, ldc_210, stc_210, ldc_211, stc_211, ldc_213, stc_213, ldc_214, stc_214, ldc_215, stc_215, ldc_216, stc_216, ldc_217, stc_217, ldc_218, stc_218, ldc_219, stc_219, ldc_263, stc_263, lda_197, lda_262, lda_212, lda_32, u2_s, u2_a, u2_b, isPer_C cP5.2.2.1, within_T, hno]
    · unfold F_X12_rests; simp (disch := omega) only [gdm, gam_1, gam_2, gam_3, gam_4, gam_5, gam_6, gam_7, gam_8, gam_9, gam_10, gam_11, gam_12, gam_13, gam_14, gam_15, gam_16, gam_17, gam_18, gam_19, gam_20, gam_21, gam_22, gam_23, gam_24, gam_25, gam_26, gam_37, gam_38, gam_39, gam_40, gam_41, gam_42, gam_43, gam_44, gam_45, gam_46, gam_48, gam_49, gam_56, gam_57, gam_58, gam_59, gam_60, gam_61, gim_27, gim_28, gim_29, gim_30, gim_31, gim_32, gim_33, gim_34, gim_35, gim_36, gim_47, gim_50, gim_51, gim_52, gim_53, gim_54, gim_55, gim_62, gim_63, ob_some, reduceIte, lit, le_T, le_F, lt_T, lt_F, eq_T, eq_F, nI_add, ldm_997, stm_997, ldm_998, stm_998, ldm_999, stm_999, ldm_1000, stm_1000, ldm_1001, stm_1001, ldm_1002, stm_1002, ldm_1003, stm_1003, ldm_1004, stm_1004, ldm_1005, stm_1005, ldm_1006, stm_1006, ldm_1007, stm_1007, ldm_1008, stm_1008, ldm_1009, stm_1009, ldm_1010, stm_1010, ldm_1011, stm_1011, ldm_1012, stm_1012, ldm_1013, stm_1013, ldm_1014, stm_1014, ldm_1015, stm_1015, ldm_1016, stm_1016, ldm_1017, stm_1017, ldm_1018, stm_1018, ldm_1019, stm_1019, ldm_1020, stm_1020, ldm_1021, stm_1021, ldm_1022, stm_1022, u2_s, u2_a, u2_b, not_true, not_false_iff, isPer_M mP5.2.2.1, within_T, in_1_20, hno]
  rcases within_CL x4 0 2 (by omega) (by omega) with ⟨k, -, hk, rfl⟩ | hno
  rotate_left
  · refine ⟨-nI 1, m, q, m, q, ?_, ?_, hI, fun _ _ => rfl⟩
    · unfold F_X11_rests; simp (disch := omega) only [ob_some, reduceIte, lit, le_T, le_F, lt_T, lt_F, eq_T, eq_F, nI_add, gac_0_0, gac_0_1, gac_0_2, gac_0_3, gac_0_4, gac_0_5, gac_0_6, gac_1_0, gic_1_1, gic_1_2, gic_1_3, gic_1_4, gic_1_5, gic_1_6, gac_3_0, gic_3_1, gic_3_2, gic_3_3, gic_3_4, gic_3_5, gic_3_6, gic_3_7, gic_5_0, gic_5_1, gic_5_2, gic_5_3, gic_5_4, gac_5_5, gac_5_6, gac_5_7, gac_5_8, gac_5_9, gac_5_10, gac_5_11, gac_13_0, gac_13_1, gic_13_2, gac_13_3, gac_13_4, gac_13_5, gac_13_6, gac_13_7, gac_13_8, gac_13_9, gic_13_10, gic_13_11, gic_13_12, gic_13_13, gac_14_0, gac_14_1, gac_14_2, gac_14_3, gic_14_4, gic_14_5, gic_15_0, gic_15_1, gic_15_2, gic_15_3, gic_15_4, gac_15_5, gac_15_6, gac_15_7, gac_15_8, gac_15_9, gac_15_10, gac_15_11, gac_23_0, gac_23_1, gac_23_2, gac_23_3, gac_23_4, gac_23_5, gac_23_6, gic_23_7, gic_23_8, gac_31_0, gic_31_1, gic_31_2, gac_193_0, gac_193_1, gac_193_2, gic_193_3, gac_198_0, gac_200_0, gac_200_1, gac_200_2, gac_200_3, gac_200_4, gac_200_5, gac_200_6, gic_200_7, gic_200_8, pic_1_1, pic_1_2, pic_1_3, pic_1_4, pic_1_5, pic_1_6, pic_3_1, pic_3_2, pic_3_3, pic_3_4, pic_3_5, pic_3_6, pic_3_7, pic_5_0, pic_5_1, pic_5_2, pic_5_3, pic_5_4, pic_13_2, pic_13_10, pic_13_11, pic_13_12, pic_13_13, pic_14_4, pic_14_5, pic_15_0, pic_15_1, pic_15_2, pic_15_3, pic_15_4, pic_23_7, pic_23_8, pic_31_1, pic_31_2, pic_193_3, pic_200_7, pic_200_8, gdc_0, gdc_1, gdc_3, gdc_5, gdc_13, gdc_14, gdc_15, gdc_23, gdc_31, gdc_193, gdc_198, gdc_200, ldc_2, stc_2, ldc_4, stc_4, ldc_6, stc_6, ldc_7, stc_7, ldc_8, stc_8, ldc_9, stc_9, ldc_10, stc_10, ldc_11, stc_11, ldc_12, stc_12, ldc_16, stc_16, ldc_17, stc_17, ldc_18, stc_18, ldc_19, stc_19, ldc_20, stc_20, ldc_21, stc_21, ldc_22, stc_22, ldc_24, stc_24, ldc_25, stc_25, ldc_26, stc_26, ldc_27, stc_27, ldc_28, stc_28, ldc_29, stc_29, ldc_30, stc_30, ldc_194, stc_194, ldc_195, stc_195, ldc_196, stc_196, ldc_199, stc_199, ldc_201, stc_201, ldc_202, stc_202, ldc_203, stc_203, ldc_204, stc_204, ldc_205, stc_205, ldc_206, stc_206, ldc_207, stc_207, ldc_208, stc_208, ldc_209, stc_209, ldc_210, stc_210, ldc_211, stc_211, ldc_213, stc_213, ldc_214, stc_214, ldc_215, stc_215, ldc_216, stc_216, ldc_217, stc_217, ldc_218, stc_218, ldc_219, stc_219, ldc_263, stc_263, lda_197, lda_262, lda_212, lda_32, u2_s, u2_a, u2_b, isPer_C cP5.2.2.1, within_T, within_TL, hno]
    · unfold F_X12_rests; simp (disch := omega) only [gdm, gam_1, gam_2, gam_3, gam_4, gam_5, gam_6, gam_7, gam_8, gam_9, gam_10, gam_11, gam_12, gam_13, gam_14, gam_15, gam_16, gam_17, gam_18, gam_19, gam_20, gam_21, gam_22, gam_23, gam_24, gam_25, gam_26, gam_37, gam_38, gam_39, gam_40, gam_41, gam_42, gam_43, gam_44, gam_45, gam_46, gam_48, gam_49, gam_56, gam_57, gam_58, gam_59, gam_60, gam_61, gim_27, gim_28, gim_29, gim_30, gim_31, gim_32, gim_33, gim_34, gim_35, gim_36, gim_47, gim_50, gim_51, gim_52, gim_53, gim_54, gim_55, gim_62, gim_63, ob_some, reduceIte, lit, le_T, le_F, lt_T, lt_F, eq_T, eq_F, nI_add, ldm_997, stm_997, ldm_998, stm_998, ldm_999, stm_999, ldm_1000, stm_1000, ldm_1001, stm_1001, ldm_1002, stm_1002, ldm_1003, stm_1003, ldm_1004, stm_1004, ldm_1005, stm_1005, ldm_1006, stm_1006, ldm_1007, stm_1007, ldm_1008, stm_1008, ldm_1009, stm_1009, ldm_1010, stm_1010, ldm_1011, stm_1011, ldm_1012, stm_1012, ldm_1013, stm_1013, ldm_1014, stm_1014, ldm_1015, stm_1015, ldm_1016, stm_1016, ldm_1017, stm_1017, ldm_1018, stm_1018, ldm_1019, stm_1019, ldm_1020, stm_1020, ldm_1021, stm_1021, ldm_1022, stm_1022, u2_s, u2_a, u2_b, not_true, not_false_iff, isPer_M mP5.2.2.1, within_T, within_TL, in_1_20, in_0_2, hno]
  have h0 : 0 < P 0 0 := by have := (cP.p ha).2; omega
  obtain ⟨hQ, h4, hf6⟩ := qc_of hC hE h0
  have hAh := hQ.2.1.2
  obtain ⟨f1, ⟨mb, qb⟩, e, kb, i2⟩ := loop_up (fun f i (s : (Nat → Nat → Int32) × (Nat → Nat → Int64)) => B_X2_restsOf_3 f 13 (nI a) (nI b) (nI n1) (nI k) (nI i) (KS, s.1, s.2)) 16 (fun i s => KC m s.1 ∧ ∀ t, t < i → s.1 210 t = nI (hoursA P (frho RS fo) (-nI 1) n1 (twoA A a b t) 4 a - A 4 a) ∧ s.1 211 t = nI (hoursA P (frho RS fo) (-nI 1) n1 (twoA A a b t) 4 b - A 4 b)) (by
    intro f i ⟨m', q'⟩ hi ⟨i1, i2⟩
    obtain ⟨m2, q2, w1, w2, w3, w4, w5⟩ := playTwo_ok (q := q') (n := n1) (t := i) (hQ.keep i1) (by rw [i1.1 _ (by omega) (by omega)]; exact h4) hf6 ha hb hn1 hi
    refine ⟨(m2, q2), ?_, i1.trans w2, fun t ht => ?_⟩
    · simp only [B_X2_restsOf_3]
      simp (disch := omega) only [lit, le_F, reduceIte, ob_some, w1, nI_add]
    · by_cases et : t = i
      · subst et; exact ⟨w4, w5⟩
      · show m2 210 t = _ ∧ m2 211 t = _
        rw [(w3 t et).1, (w3 t et).2]; exact i2 t (by omega)) 16 0 mk_fu (m, q) (by omega) (by rw [mk_fu_eq]; omega) ⟨KC.rf, fun t ht => absurd ht (by omega)⟩
  have kb : KC m mb := kb
  have i2 : ∀ t, t < 16 → mb 210 t = nI (hoursA P (frho RS fo) (-nI 1) n1 (twoA A a b t) 4 a - A 4 a) ∧ mb 211 t = nI (hoursA P (frho RS fo) (-nI 1) n1 (twoA A a b t) 4 b - A 4 b) := i2
  obtain ⟨hQM, hMS⟩ := qm_of hC hM h0 kb
  obtain ⟨me, qe, e1, e2, e3, e4, e5⟩ := laysFaces_ok (q := qb) hQM hMS cAh ha hb hn1
  have g1 : ∀ t, A 4 a ≤ hoursA P (frho RS fo) (-nI 1) n1 (twoA A a b t) 4 a := fun t => by
    have := hoursA_4 (P := P) (A := twoA A a b t) (ρ := frho RS fo) (kept := -nI 1) (p := a) n1
    rw [twoA_4] at this; exact this
  have g2 : ∀ t, A 4 b ≤ hoursA P (frho RS fo) (-nI 1) n1 (twoA A a b t) 4 b := fun t => by
    have := hoursA_4 (P := P) (A := twoA A a b t) (ρ := frho RS fo) (kept := -nI 1) (p := b) n1
    rw [twoA_4] at this; exact this
  obtain ⟨F, hF⟩ : ∃ F : Nat → Nat, F = fun t => hoursA P (frho RS fo) (-nI 1) n1 (twoA A a b t) 4 a := ⟨_, rfl⟩
  obtain ⟨G, hG⟩ : ∃ G : Nat → Nat, G = fun t => hoursA P (frho RS fo) (-nI 1) n1 (twoA A a b t) 4 b := ⟨_, rfl⟩
  have hvM : ∀ k, k < 16 → (me 1035 k = nI (F k) ∧ F k < 1000000) ∧ (me 1036 k = nI (G k) ∧ G k < 1000000) := fun k hk => by
    rw [hF, hG]
    have := e5 k hk
    exact ⟨⟨this.1.1, Nat.lt_of_lt_of_le this.1.2 (by omega)⟩, ⟨this.2.1, Nat.lt_of_lt_of_le this.2.2 (by omega)⟩⟩
  have hvC : ∀ k, k < 16 → (mb 210 k = nI (F k - A 4 a) ∧ F k - A 4 a < 100000) ∧ (mb 211 k = nI (G k - A 4 b) ∧ G k - A 4 b < 100000) := fun k hk => by
    rw [hF, hG]
    have := e5 k hk
    have h2 := i2 k hk
    exact ⟨⟨h2.1, Nat.lt_of_le_of_lt (Nat.sub_le _ _) this.1.2⟩, ⟨h2.2, Nat.lt_of_le_of_lt (Nat.sub_le _ _) this.2.2⟩⟩
  have hsub : ∀ t, t < 16 → (restP (fun k => F k - A 4 a) (fun k => G k - A 4 b) t 0 ↔ restP F G t 0) := fun t ht => restP_sub ht (fun k hk => ⟨rfl, by rw [hF]; exact g1 k, rfl, by rw [hG]; exact g2 k⟩)
  obtain ⟨bb, hbb⟩ : ∃ bb : Nat → Bool, ∀ t, (bb t = true ↔ restP F G t 0) := by
    classical
    exact ⟨fun t => decide (restP F G t 0), fun t => decide_eq_true_iff⟩
  have rC : ∀ t, t < 16 → F_X2_isRest 13 (nI t) (KS, mb, qb) = some (if bb t then nI 1 else nI 0, (KS, mb, qb)) := fun t ht => by
    unfold F_X2_isRest
    rw [gdc_13]
    obtain ⟨r1, r2⟩ := isRestC (q := qb) hvC ht 4 0 mk_fu (by omega) (by rw [mk_fu_eq]; omega)
    by_cases hr : restP F G t 0
    · rw [if_pos ((hbb t).mpr hr)]; exact r1 ((hsub t ht).mpr hr)
    · rw [if_neg (fun h => hr ((hbb t).mp h))]; exact r2 (fun h => hr ((hsub t ht).mp h))
  have rM : ∀ t, t < 16 → F_X12_isRest 996 (nI t) (KS, me, qe) = some (if bb t then nI 1 else nI 0, (KS, me, qe)) := fun t ht => by
    unfold F_X12_isRest
    rw [gdm]
    obtain ⟨r1, r2⟩ := isRestM (q := qe) hvM ht 4 0 mk_fu (by omega) (by rw [mk_fu_eq]; omega)
    by_cases hr : restP F G t 0
    · rw [if_pos ((hbb t).mpr hr)]; exact r1 hr
    · rw [if_neg (fun h => hr ((hbb t).mp h))]; exact r2 hr
  obtain ⟨f1, f2⟩ := ask_fin hC hM hE kb e2.1 e3 (e4.trans hQM.2.2.symm)
  have hP2 : mb 997 2 = nI (P 0 2) := by rw [kb.1 _ (by omega) (by omega)]; exact mP5.2.2.1
  refine ⟨rsAns (rsF bb 16) k, mb, qb, me, qe, ?_, ?_, f1, f2⟩
  · unfold F_X11_rests F_X2_restsOf
    simp (disch := omega) only [ob_some, reduceIte, lit, le_T, le_F, lt_T, lt_F, eq_T, eq_F, nI_add, gac_0_0, gac_0_1, gac_0_2, gac_0_3, gac_0_4, gac_0_5, gac_0_6, gac_1_0, gic_1_1, gic_1_2, gic_1_3, gic_1_4, gic_1_5, gic_1_6, gac_3_0, gic_3_1, gic_3_2, gic_3_3, gic_3_4, gic_3_5, gic_3_6, gic_3_7, gic_5_0, gic_5_1, gic_5_2, gic_5_3, gic_5_4, gac_5_5, gac_5_6, gac_5_7, gac_5_8, gac_5_9, gac_5_10, gac_5_11, gac_13_0, gac_13_1, gic_13_2, gac_13_3, gac_13_4, gac_13_5, gac_13_6, gac_13_7, gac_13_8, gac_13_9, gic_13_10, gic_13_11, gic_13_12, gic_13_13, gac_14_0, gac_14_1, gac_14_2, gac_14_3, gic_14_4, gic_14_5, gic_15_0, gic_15_1, gic_15_2, gic_15_3, gic_15_4, gac_15_5, gac_15_6, gac_15_7, gac_15_8, gac_15_9, gac_15_10, gac_15_11, gac_23_0, gac_23_1, gac_23_2, gac_23_3, gac_23_4, gac_23_5, gac_23_6, gic_23_7, gic_23_8, gac_31_0, gic_31_1, gic_31_2, gac_193_0, gac_193_1, gac_193_2, gic_193_3, gac_198_0, gac_200_0, gac_200_1, gac_200_2, gac_200_3, gac_200_4, gac_200_5, gac_200_6, gic_200_7, gic_200_8, pic_1_1, pic_1_2, pic_1_3, pic_1_4, pic_1_5, pic_1_6, pic_3_1, pic_3_2, pic_3_3, pic_3_4, pic_3_5, pic_3_6, pic_3_7, pic_5_0, pic_5_1, pic_5_2, pic_5_3, pic_5_4, pic_13_2, pic_13_10, pic_13_11, pic_13_12, pic_13_13, pic_14_4, pic_14_5, pic_15_0, pic_15_1, pic_15_2, pic_15_3, pic_15_4, pic_23_7, pic_23_8, pic_31_1, pic_31_2, pic_193_3, pic_200_7, pic_200_8, gdc_0, gdc_1, gdc_3, gdc_5, gdc_13, gdc_14, gdc_15, gdc_23, gdc_31, gdc_193, gdc_198, gdc_200, ldc_2, stc_2, ldc_4, stc_4, ldc_6, stc_6, ldc_7, stc_7, ldc_8, stc_8, ldc_9, stc_9, ldc_10, stc_10, ldc_11, stc_11, ldc_12, stc_12, ldc_16, stc_16, ldc_17, stc_17, ldc_18, stc_18, ldc_19, stc_19, ldc_20, stc_20, ldc_21, stc_21, ldc_22, stc_22, ldc_24, stc_24, ldc_25, stc_25, ldc_26, stc_26, ldc_27, stc_27, ldc_28, stc_28, ldc_29, stc_29, ldc_30, stc_30, ldc_194, stc_194, ldc_195, stc_195, ldc_196, stc_196, ldc_199, stc_199, ldc_201, stc_201, ldc_202, stc_202, ldc_203, stc_203, ldc_204, stc_204, ldc_205, stc_205, ldc_206, stc_206, ldc_207, stc_207, ldc_208, stc_208, ldc_209, stc_209, ldc_210, stc_210, ldc_211, stc_211, ldc_213, stc_213, ldc_214, stc_214, ldc_215, stc_215, ldc_216, stc_216, ldc_217, stc_217, ldc_218, stc_218, ldc_219, stc_219, ldc_263, stc_263, lda_197, lda_262, lda_212, lda_32, u2_s, u2_a, u2_b, isPer_C cP5.2.2.1, within_T, within_TL]
    rw [e]
    simp only [B_X2_restsOf_3]
    simp (disch := omega) only [lit, le_T, reduceIte, restsC hk rC, ob_some]
  · unfold F_X12_rests
    simp (disch := omega) only [gdm, gam_1, gam_2, gam_3, gam_4, gam_5, gam_6, gam_7, gam_8, gam_9, gam_10, gam_11, gam_12, gam_13, gam_14, gam_15, gam_16, gam_17, gam_18, gam_19, gam_20, gam_21, gam_22, gam_23, gam_24, gam_25, gam_26, gam_37, gam_38, gam_39, gam_40, gam_41, gam_42, gam_43, gam_44, gam_45, gam_46, gam_48, gam_49, gam_56, gam_57, gam_58, gam_59, gam_60, gam_61, gim_27, gim_28, gim_29, gim_30, gim_31, gim_32, gim_33, gim_34, gim_35, gim_36, gim_47, gim_50, gim_51, gim_52, gim_53, gim_54, gim_55, gim_62, gim_63, ob_some, reduceIte, lit, le_T, le_F, lt_T, lt_F, eq_T, eq_F, nI_add, ldm_997, stm_997, ldm_998, stm_998, ldm_999, stm_999, ldm_1000, stm_1000, ldm_1001, stm_1001, ldm_1002, stm_1002, ldm_1003, stm_1003, ldm_1004, stm_1004, ldm_1005, stm_1005, ldm_1006, stm_1006, ldm_1007, stm_1007, ldm_1008, stm_1008, ldm_1009, stm_1009, ldm_1010, stm_1010, ldm_1011, stm_1011, ldm_1012, stm_1012, ldm_1013, stm_1013, ldm_1014, stm_1014, ldm_1015, stm_1015, ldm_1016, stm_1016, ldm_1017, stm_1017, ldm_1018, stm_1018, ldm_1019, stm_1019, ldm_1020, stm_1020, ldm_1021, stm_1021, ldm_1022, stm_1022, u2_s, u2_a, u2_b, not_true, not_false_iff, isPer_M hP2, within_T, within_TL, in_1_20, in_0_2, e1]
    exact restsM hk rM
