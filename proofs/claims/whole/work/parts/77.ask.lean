/-! what is asked: hours that pass on a trial -/
def hoursA (P : Nat → Nat → Nat) (ρ : Option RT) (kept : Int32) : Nat → (Nat → Nat → Nat) → Nat → Nat → Nat
  | 0, A => A
  | n + 1, A => hourA P ρ kept (hoursA P ρ kept n A)
set_option maxRecDepth 4000 in
theorem hoursA_h {P : Nat → Nat → Nat} {ρ : Option RT} {kept : Int32} {A : Nat → Nat → Nat} : ∀ n, hoursA P ρ kept n A 0 1 = A 0 1 + n
  | 0 => rfl
  | n + 1 => by
    show hoursA P ρ kept n A 0 1 + 1 = _
    rw [hoursA_h n]; rfl
/-- what a question needs of the program under test -/
def QC (m : Nat → Nat → Int32) (P A : Nat → Nat → Nat) (R : Option Nat) (ρ : Option RT) : Prop := PR (blk m 15) P ∧ (SR P (blk m 23) A ∧ A 0 1 ≤ 999) ∧ ForC m R ρ ∧ EX m
/-- what a question may change there -/
def KC (m m1 : Nat → Nat → Int32) : Prop := (∀ i, i ≠ 13 → i < 200 ∨ 220 ≤ i → m1 i = m i) ∧ (∀ k, k < 10 → m1 13 k = m 13 k)
set_option maxRecDepth 4000 in
theorem KC.rf {m : Nat → Nat → Int32} : KC m m := ⟨fun _ _ _ => rfl, fun _ _ => rfl⟩
set_option maxRecDepth 4000 in
theorem KC.trans {a b c : Nat → Nat → Int32} (h : KC a b) (g : KC b c) : KC a c := ⟨fun i h1 h2 => (g.1 i h1 h2).trans (h.1 i h1 h2), fun k hk => (g.2 k hk).trans (h.2 k hk)⟩
set_option maxRecDepth 4000 in
theorem KC.out {m m1 : Nat → Nat → Int32} {a b : Nat} (h : Out m m1 a b) (ha : 200 ≤ a) (hb : b ≤ 220) : KC m m1 := ⟨fun i h1 h2 => h i (by omega), fun k hk => by rw [h 13 (by omega)]⟩
set_option maxRecDepth 4000 in
theorem QC.keep {m m1 : Nat → Nat → Int32} {P A : Nat → Nat → Nat} {R : Option Nat} {ρ : Option RT} (h : QC m P A R ρ) (k : KC m m1) : QC m1 P A R ρ := by
  obtain ⟨h1, ⟨h2, h3⟩, h4, h5⟩ := h
  obtain ⟨B1, B2, B3⟩ := h1.2
  have hsq := h1.sq
  refine ⟨PR.keep (a := 15) h1 (fun j hj => k.1 _ (by omega) (by omega)), ⟨h2.set (SEq.of (fun j hj => k.1 _ (by omega) (by omega))) (by omega) (by omega) hsq.2, h3⟩, h4.congr (fun i a b => k.1 i (by omega) (by omega)), h5.keep (fun j hj => k.1 j (by omega) (by omega))⟩
set_option maxRecDepth 4000 in
theorem QC.ci {s : GS} {m m1 : Nat → Nat → Int32} (h : CI s m) (k : KC m m1) : CI s m1 := h.keep (by rw [k.1 1 (by omega) (by omega)]) (k.1 2 (by omega) (by omega)) (k.2 2 (by omega)) (fun i a b => k.1 i (by omega) (by omega)) (fun i a b => k.1 i (by omega) (by omega)) (fun i a b => k.1 i (by omega) (by omega))
set_option maxRecDepth 4000 in
theorem Out.trans {a b c : Nat → Nat → Int32} {x y : Nat} (h : Out a b x y) (g : Out b c x y) : Out a c x y := fun i hi => (g i hi).trans (h i hi)
set_option maxRecDepth 4000 in
theorem Out.rf {a : Nat → Nat → Int32} {x y : Nat} : Out a a x y := fun _ _ => rfl
set_option maxRecDepth 4000 in
/-- the trial begins -/
theorem trial_ok {m : Nat → Nat → Int32} {q : Nat → Nat → Int64} {P A : Nat → Nat → Nat} {R : Option Nat} {ρ : Option RT} (h : QC m P A R ρ) : ∃ m1, F_X7_copyFrom 200 23 (KS, m, q) = some ((), (KS, m1, q)) ∧ Out m m1 200 208 ∧ SR P (blk m1 200) A := by
  obtain ⟨m1, z1, z2, z3⟩ := s_copyFrom (m := m) (q := q) sb200 sb23 (by omega)
  obtain ⟨B1, B2, B3⟩ := h.1.2
  exact ⟨m1, z1, z2, h.2.1.1.set z3 (by omega) (by omega) h.1.sq.2⟩
set_option maxRecDepth 4000 in
/-- an hour on the trial -/
theorem tpass {m : Nat → Nat → Int32} {q : Nat → Nat → Int64} {P A B : Nat → Nat → Nat} {R : Option Nat} {ρ : Option RT} {kept : Int32} (h : QC m P A R ρ) (hB : SR P (blk m 200) B) (hb : B 0 1 < 100000) : ∃ m1 q1, F_X9_pass 198 15 R 200 kept (KS, m, q) = some (nI (gb (givesG P B ρ kept) (P 0 2)), (KS, m1, q1)) ∧ Out m m1 200 208 ∧ SR P (blk m1 200) (hourA P ρ kept B) := pass_full pb15 sb200 h.1 hB hb h.2.2.2 h.2.2.1
set_option maxRecDepth 4000 in
theorem goOn_ok {m : Nat → Nat → Int32} {q : Nat → Nat → Int64} {P A B : Nat → Nat → Nat} {fo n : Nat} {ρ : Option RT} {kept : Int32} (h : QC m P A (fR fo) ρ) (h4 : m 14 4 = fI fo) (hf : fo ≤ 6) (hB : SR P (blk m 200) B) (hb : B 0 1 + n ≤ 100000) (hn : n ≤ 1000) : ∃ m1 q1, F_X2_goOn 13 (nI n) kept (KS, m, q) = some ((), (KS, m1, q1)) ∧ Out m m1 200 208 ∧ SR P (blk m1 200) (hoursA P ρ kept n B) := by
  obtain ⟨f1, ⟨m1, q1⟩, e, i1, i2⟩ := loop_up (fun f i (s : (Nat → Nat → Int32) × (Nat → Nat → Int64)) => B_X2_goOn_8 f 13 (nI n) kept (fR fo) (nI i) (KS, s.1, s.2)) n (fun i s => Out m s.1 200 208 ∧ SR P (blk s.1 200) (hoursA P ρ kept i B)) (by
    intro f i ⟨m', q'⟩ hi ⟨i1, i2⟩
    obtain ⟨m2, q2, w1, w2, w3⟩ := tpass (q := q') (kept := kept) (h.keep (KC.out i1 (by omega) (by omega))) i2 (by rw [hoursA_h]; omega)
    refine ⟨(m2, q2), ?_, i1.trans w2, w3⟩
    simp only [B_X2_goOn_8]
    simp (disch := omega) only [le_F, reduceIte, gac_13_3, gac_13_0, gac_14_0, gac_13_4, ob_some, w1, lit, nI_add]) n 0 mk_fu (m, q) (by omega) (by rw [mk_fu_eq]; omega) ⟨Out.rf, hB⟩
  refine ⟨m1, q1, ?_, i1, i2⟩
  unfold F_X2_goOn
  simp only [gdc_13, inForce_C h4 hf, ob_some, lit]
  refine Eq.trans e ?_
  simp only [B_X2_goOn_8]
  simp (disch := omega) only [le_T, reduceIte]
/-- what a question needs of the reference -/
def QM (m : Nat → Nat → Int32) (P : Nat → Nat → Nat) (ρ : Option RT) (kept : Int32) : Prop := MP m P ∧ ForM m ρ ∧ m 996 47 = kept
/-- what hours change there -/
def MO (m m1 : Nat → Nat → Int32) : Prop := (∀ i, i < 997 ∨ 1004 < i → m1 i = m i) ∧ (∀ k, k ≠ 5 → k ≠ 6 → m1 997 k = m 997 k)
set_option maxRecDepth 4000 in
theorem MO.rf {m : Nat → Nat → Int32} : MO m m := ⟨fun _ _ => rfl, fun _ _ _ => rfl⟩
set_option maxRecDepth 4000 in
theorem MO.trans {a b c : Nat → Nat → Int32} (h : MO a b) (g : MO b c) : MO a c := ⟨fun i hi => (g.1 i hi).trans (h.1 i hi), fun k a b => (g.2 k a b).trans (h.2 k a b)⟩
set_option maxRecDepth 4000 in
theorem QM.mo {m m1 : Nat → Nat → Int32} {P : Nat → Nat → Nat} {ρ : Option RT} {kept : Int32} (h : QM m P ρ kept) (g : MO m m1) : QM m1 P ρ kept := ⟨h.1.keep (fun k hk => g.2 k (by omega) (by omega)) (fun j a b => g.1 j (by omega)), h.2.1.congr (g.2 9 (by omega) (by omega)) (fun i a b => g.1 i (by omega)), by rw [g.1 996 (by omega)]; exact h.2.2⟩
set_option maxRecDepth 4000 in
theorem KP.mo {m0 m m1 : Nat → Nat → Int32} (h : KP m0 m) (g : MO m m1) : KP m0 m1 := by
  obtain ⟨⟨k1, k2, k3⟩, k4⟩ := h
  exact ⟨⟨fun i a b => (g.1 i (by omega)).trans (k1 i a b), fun k a b c d e f => by rw [g.1 996 (by omega)]; exact k2 k a b c d e f, fun k hk => by rw [g.1 1039 (by omega)]; exact k3 k hk⟩, fun j k hj hk => by rw [g.1 1039 (by omega)]; exact k4 j k hj hk⟩
set_option maxRecDepth 4000 in
theorem QM.back {m0 m : Nat → Nat → Int32} {P : Nat → Nat → Nat} {ρ : Option RT} {kept kept1 : Int32} (h : QM m0 P ρ kept) (g : KM m0 m) (b : KB m0 m) (h47 : m 996 47 = kept1) : QM m P ρ kept1 := ⟨h.1.keep (fun k hk => b 0 k (by omega) (show k < 10 by omega)) (fun j x y => g.1 j (by omega) (by omega)), h.2.1.congr (b 0 9 (by omega) (by decide)) (fun i x y => g.1 i (by omega) (by omega)), h47⟩
set_option maxRecDepth 4000 in
theorem MS.back {m0 m : Nat → Nat → Int32} {P A : Nat → Nat → Nat} (h : MS P (blk m0 997) A) (hP : MP m0 P) (b : KB m0 m) : MS P (blk m 997) A := by
  obtain ⟨B1, B2, B3⟩ := hP.2
  refine h.congr (by omega) (by omega) (PR.sq hP).2 (b 0 5 (by omega) (by decide)) (b 0 6 (by omega) (by decide)) (fun j k h1 h2 hk => b j k (by omega) ?_) (fun k hk => b 6 k (by omega) hk) (fun k hk => b 7 k (by omega) hk)
  rcases (show j = 1 ∨ j = 2 ∨ j = 3 ∨ j = 4 ∨ j = 5 by omega) with e | e | e | e | e <;> subst e <;> exact hk
set_option maxRecDepth 4000 in
/-- an hour there -/
theorem mgo {m : Nat → Nat → Int32} {q : Nat → Nat → Int64} {P B : Nat → Nat → Nat} {ρ : Option RT} {kept : Int32} (h : QM m P ρ kept) (hB : MS P (blk m 997) B) (hb : B 0 1 < 100000) : ∃ m1 q1, F_X12_goes 996 (KS, m, q) = some (nI (gb (givesG P B ρ kept) (P 0 2)), (KS, m1, q1)) ∧ MO m m1 ∧ MS P (blk m1 997) (hourA P ρ kept B) := by
  obtain ⟨m1, q1, g1, g2, g3, g4⟩ := goes_full (q := q) h.1 hB hb h.2.2 h.2.1
  exact ⟨m1, q1, g1, ⟨fun i hi => g2 i (by omega) (by omega) (by omega) (by omega) (by omega) (by omega), g3⟩, g4⟩
set_option maxRecDepth 4000 in
theorem goFor_ok {m : Nat → Nat → Int32} {q : Nat → Nat → Int64} {P B : Nat → Nat → Nat} {n : Nat} {ρ : Option RT} {kept : Int32} (h : QM m P ρ kept) (hB : MS P (blk m 997) B) (hb : B 0 1 + n ≤ 100000) (hn : n ≤ 1000) : ∃ m1 q1, F_X12_goFor 996 (nI n) (KS, m, q) = some ((), (KS, m1, q1)) ∧ MO m m1 ∧ MS P (blk m1 997) (hoursA P ρ kept n B) := by
  obtain ⟨f1, ⟨m1, q1⟩, e, i1, i2⟩ := loop_up (fun f i (s : (Nat → Nat → Int32) × (Nat → Nat → Int64)) => B_X12_goFor_2 f 996 (nI n) (nI i) (KS, s.1, s.2)) n (fun i s => MO m s.1 ∧ MS P (blk s.1 997) (hoursA P ρ kept i B)) (by
    intro f i ⟨m', q'⟩ hi ⟨i1, i2⟩
    obtain ⟨m2, q2, w1, w2, w3⟩ := mgo (q := q') (h.mo i1) i2 (by rw [hoursA_h]; omega)
    refine ⟨(m2, q2), ?_, i1.trans w2, w3⟩
    simp only [B_X12_goFor_2]
    simp (disch := omega) only [le_F, reduceIte, ob_some, w1, lit, nI_add]) n 0 mk_fu (m, q) (by omega) (by rw [mk_fu_eq]; omega) ⟨MO.rf, hB⟩
  refine ⟨m1, q1, ?_, i1, i2⟩
  unfold F_X12_goFor
  simp only [gdm, lit]
  refine Eq.trans e ?_
  simp only [B_X12_goFor_2]
  simp (disch := omega) only [le_T, reduceIte]
set_option maxRecDepth 4000 in
/-- a question is through -/
theorem ask_fin {s : GS} {m m1 m2 : Nat → Nat → Int32} (hC : CI s m) (hM : MI s m) (hE : EX m) (k : KC m m1) (p : KM m1 m2) (b : KB m1 m2) (h47 : m2 996 47 = m1 996 47) : Inv m2 ∧ ∀ i, 1041 ≤ i → m2 i = m i := by
  have e : ∀ i, 1041 ≤ i → m2 i = m i := fun i hi => (p.1 i (by omega) (by omega)).trans (k.1 i (by omega) (by omega))
  have hM1 : MI s m1 := hM.same (fun i h1 h2 => k.1 i (by omega) (by omega))
  refine ⟨⟨⟨s, (QC.ci hC k).same (fun i hi => p.1 i (by omega) (by omega)), ?_⟩, hE.up e⟩, e⟩
  have e96 : ∀ k, k ≠ 47 → k ≠ 53 → k ≠ 54 → k ≠ 55 → k ≠ 62 → k ≠ 63 → m2 996 k = m1 996 k := p.2.1
  exact hM1.keep (e96 _ (by omega) (by omega) (by omega) (by omega) (by omega) (by omega)) (e96 _ (by omega) (by omega) (by omega) (by omega) (by omega) (by omega)) (e96 _ (by omega) (by omega) (by omega) (by omega) (by omega) (by omega)) h47 (e96 _ (by omega) (by omega) (by omega) (by omega) (by omega) (by omega)) b (fun i x y => p.1 i (by omega) (by omega)) (fun i x y => p.1 i (by omega) (by omega)) (p.1 _ (by omega) (by omega)) p.2.2 (p.1 _ (by omega) (by omega))
set_option maxRecDepth 4000 in
theorem KM.rf {m : Nat → Nat → Int32} : KM m m := ⟨fun _ _ _ => rfl, fun _ _ _ _ _ _ _ => rfl, fun _ _ => rfl⟩
set_option maxRecDepth 4000 in
theorem KB.rf {m : Nat → Nat → Int32} : KB m m := fun _ _ _ _ => rfl
set_option maxRecDepth 4000 in
/-- what a plateau gives to ask of -/
theorem qc_of {len nr n nn fo x : Nat} {by_ : Nat → Nat} {RS : Nat → RT} {P A N : Nat → Nat → Nat} {H : Nat → Nat → Nat → Nat} {IM : Nat → WT} {md : Nat → Bool} {m : Nat → Nat → Int32} (hC : CI ((len, by_), (nr, RS), (P, A, H, n, N, nn, fo, x), IM, md) m) (hE : EX m) (h0 : 0 < P 0 0) : QC m P A (fR fo) (frho RS fo) ∧ m 14 4 = fI fo ∧ fo ≤ 6 := by
  obtain ⟨-, ⟨cr1, cr2, cr3⟩, ⟨⟨cP, ⟨cA, cAh⟩, cH, ⟨cn1, cn2⟩, ⟨cf1, cf2⟩, ⟨cx1, cx2⟩⟩, cwf⟩, -, -⟩ := hC
  exact ⟨⟨cP.there h0, ⟨cA, cAh⟩, forC_of cr3 cr2 cwf, hE⟩, cf1, cf2⟩
set_option maxRecDepth 4000 in
theorem qm_of {len nr n nn fo x : Nat} {by_ : Nat → Nat} {RS : Nat → RT} {P A N : Nat → Nat → Nat} {H : Nat → Nat → Nat → Nat} {IM : Nat → WT} {md : Nat → Bool} {m m1 : Nat → Nat → Int32} (hC : CI ((len, by_), (nr, RS), (P, A, H, n, N, nn, fo, x), IM, md) m) (hM : MI ((len, by_), (nr, RS), (P, A, H, n, N, nn, fo, x), IM, md) m) (h0 : 0 < P 0 0) (k : KC m m1) : QM m1 P (frho RS fo) (-nI 1) ∧ MS P (blk m1 997) A := by
  have hM1 : MI ((len, by_), (nr, RS), (P, A, H, n, N, nn, fo, x), IM, md) m1 := hM.same (fun i h1 h2 => k.1 i (by omega) (by omega))
  obtain ⟨-, ⟨cr1, cr2, cr3⟩, ⟨-, cwf⟩, -, -⟩ := hC
  obtain ⟨-, ⟨mr1, mr2⟩, ⟨mP, ⟨mA, mAh⟩, -, -, ⟨mf1, mf2⟩, -⟩, -, -, -, ms⟩ := hM1
  exact ⟨⟨mp_of mP h0, forM_of mr2 cr2 cwf mf1, ms⟩, nv_blk mA⟩
set_option maxRecDepth 4000 in
theorem isPla_T {m : Nat → Nat → Int32} {q : Nat → Nat → Int64} {n : Nat} (h : m 15 0 = nI n) (hn : n < 100) (h0 : 0 < n) : F_X3_isThere 15 (KS, m, q) = some (nI 1, (KS, m, q)) := by
  rw [isPla_C h hn, if_neg (by omega)]
set_option maxRecDepth 4000 in
theorem isPla_TM {m : Nat → Nat → Int32} {q : Nat → Nat → Int64} {n : Nat} (h : m 997 0 = nI n) (hn : n < 100) (h0 : 0 < n) : F_X12_isPlateau 996 (KS, m, q) = some (nI 1, (KS, m, q)) := by
  rw [isPla_M h hn, if_neg (by omega)]
