/-! ruled -/
set_option maxRecDepth 4000 in
theorem KP.arr' {m0 m m1 : Nat → Nat → Int32} (h : KP m0 m) (e : ∀ i, i < 1035 ∨ 1038 < i → m1 i = m i) : KP m0 m1 := by
  obtain ⟨⟨k1, k2, k3⟩, k4⟩ := h
  exact ⟨⟨fun j a b => by rw [e j (by omega)]; exact k1 j a b, fun k a b c d e' f => by rw [e 996 (by omega)]; exact k2 k a b c d e' f, fun k hk => by rw [e 1039 (by omega)]; exact k3 k hk⟩, fun j k hj hk => by rw [e 1039 (by omega)]; exact k4 j k hj hk⟩
set_option maxRecDepth 4000 in
theorem QM.arr {m m1 : Nat → Nat → Int32} {P : Nat → Nat → Nat} {ρ : Option RT} {kept : Int32} (h : QM m P ρ kept) (e : ∀ i, i < 1035 ∨ 1038 < i → m1 i = m i) : QM m1 P ρ kept := ⟨h.1.keep (fun k hk => by rw [e 997 (by omega)]) (fun j a b => e j (by omega)), h.2.1.congr (by rw [e 997 (by omega)]) (fun i a b => e i (by omega)), by rw [e 996 (by omega)]; exact h.2.2⟩
set_option maxRecDepth 4000 in
/-- winds of all hours are laid -/
theorem layRow {k14 : Nat → Int32 → mk_S → Option (Int32 × mk_S)} {q : Nat → Nat → Int64} {n : Nat} (m0 : Nat → Nat → Int32) (hn : n ≤ 60) : ∃ m1, B_X12_couldRule_27 k14 mk_fu 996 (nI n) (nI 0) (KS, m0, q) = k14 996 (nI (n + 1)) (KS, m1, q) ∧ (∀ i, i ≠ 1037 → m1 i = m0 i) ∧ (∀ c, c < 36 → m1 1037 (36 * n + c) = m0 1004 c) ∧ (∀ c, c < 36 * n → m1 1037 c = m0 1037 c) := by
  obtain ⟨f1, m1, e, i1, i2, i3⟩ := loop_up (fun f i (m : Nat → Nat → Int32) => B_X12_couldRule_27 k14 f 996 (nI n) (nI i) (KS, m, q)) 36 (fun i m => (∀ j, j ≠ 1037 → m j = m0 j) ∧ (∀ c, c < i → m 1037 (36 * n + c) = m0 1004 c) ∧ (∀ c, c < 36 * n → m 1037 c = m0 1037 c)) (by
    intro f i m hi ⟨i1, i2, i3⟩
    have e4 : m 1004 i = m0 1004 i := by rw [i1 _ (by omega)]
    refine ⟨mk_u2 m 1037 (36 * n + i) (m0 1004 i), ?_, fun j hj => ?_, fun c hc => ?_, fun c hc => ?_⟩
    · simp only [B_X12_couldRule_27]
      simp (disch := omega) only [lit, le_F, reduceIte, gam_58, gam_8, ldm_1004, ob_some, e4, pk_mul, nI_add, stm_1037]
    · rw [mk_u2_ne hj]; exact i1 j hj
    · by_cases h : c = i
      · subst h; exact u2_s
      · rw [u2_b (by omega)]; exact i2 c (by omega)
    · rw [u2_b (by omega)]; exact i3 c hc) 36 0 mk_fu m0 (by omega) (by rw [mk_fu_eq]; omega) ⟨fun _ _ => rfl, fun _ h => absurd h (by omega), fun _ _ => rfl⟩
  refine ⟨m1, ?_, i1, i2, i3⟩
  refine Eq.trans e ?_
  simp only [B_X12_couldRule_27]
  simp (disch := omega) only [lit, le_T, reduceIte, nI_add]
def Laid (P : Nat → Nat → Nat) (ρ : Option RT) (m : Nat → Nat → Int32) (n : Nat) : Prop := ∀ h, h < n → ∀ c, c < P 0 0 * P 0 0 → m 1037 (36 * h + c) = nI (hoursA P ρ (-nI 1) (h + 1) (beginA P) 7 c) ∧ hoursA P ρ (-nI 1) (h + 1) (beginA P) 7 c ≤ 600
set_option maxRecDepth 4000 in
theorem checkM {m : Nat → Nat → Int32} {q : Nat → Nat → Int64} {P N : Nat → Nat → Nat} {ρ : Option RT} {nn : Nat} (h7 : m 997 7 = nI nn) (hN : NotesOK P N (m 1010) (m 1011) (m 1012) nn) (hS : P 0 0 * P 0 0 ≤ 36) (hL : Laid P ρ m 61) : ∀ (d i f : Nat), i + d = nn → d < f → ∃ b, B_X12_couldRule_68 f 996 (nI i) (KS, m, q) = some (if b then nI 1 else nI 0, (KS, m, q)) ∧ (b = true ↔ ∀ j, i ≤ j → j < nn → hoursA P ρ (-nI 1) (N 0 j + 1) (beginA P) 7 (N 1 j) = N 2 j)
  | 0, i, f, hd, hf => by
    obtain ⟨f, rfl⟩ : ∃ f', f = f' + 1 := ⟨f - 1, by omega⟩
    have hnn := hN.1
    refine ⟨true, ?_, fun _ j h1 h2 => absurd h2 (by omega), fun _ => rfl⟩
    simp only [B_X12_couldRule_68]
    simp (disch := omega) only [lit, gam_1, ldm_997, ob_some, h7, le_T, reduceIte, rz1]
  | d + 1, i, f, hd, hf => by
    obtain ⟨f, rfl⟩ : ∃ f', f = f' + 1 := ⟨f - 1, by omega⟩
    have hnn := hN.1
    obtain ⟨⟨v1, v2⟩, ⟨v3, v4⟩, ⟨v5, v6⟩⟩ := hN.2 i (by omega)
    obtain ⟨l1, l2⟩ := hL (N 0 i) (by omega) (N 1 i) v4
    obtain ⟨b, x1, x2⟩ := checkM (q := q) h7 hN hS hL d (i + 1) f (by omega) (by omega)
    simp only [B_X12_couldRule_68]
    simp (disch := omega) only [lit, gam_1, ldm_997, ob_some, h7, le_F, reduceIte, gam_58, gam_14, gam_15, gam_16, ldm_1010, ldm_1011, ldm_1012, v1, v3, v5, pk_mul, nI_add, ldm_1037, l1]
    by_cases c : hoursA P ρ (-nI 1) (N 0 i + 1) (beginA P) 7 (N 1 i) = N 2 i
    · refine ⟨b, ?_, fun hb j h1 h2 => ?_, fun h => x2.mpr (fun j h1 h2 => h j (by omega) h2)⟩
      · simp (disch := omega) only [eq_T, reduceIte]
        exact x1
      · by_cases e : j = i
        · subst e; exact c
        · exact x2.mp hb j (by omega) h2
    · refine ⟨false, ?_, fun hb => absurd hb (by decide), fun h => absurd (h i (Nat.le_refl _) (by omega)) c⟩
      simp (disch := omega) only [eq_F, reduceIte, rz0]
      rfl
set_option maxRecDepth 4000 in
theorem couldRule_ok {m0 m : Nat → Nat → Int32} {q : Nat → Nat → Int64} {P A N : Nat → Nat → Nat} {RS : Nat → RT} {ρ0 : Option RT} {nn nr i : Nat} (hQ : QM m0 P ρ0 (-nI 1)) (hA : MS P (blk m0 997) A) (hr : ∀ r, r < nr → RuleM m0 r (RS r)) (hnr : nr ≤ 6) (hi : i ≤ nr) (h7 : m0 997 7 = nI nn) (hN : NotesOK P N (m0 1010) (m0 1011) (m0 1012) nn) (hK : KP m0 m) (hB : KB m0 m) (h47 : m 996 47 = -nI 1) : ∃ m1 q1 b, F_X12_couldRule 996 (fI i) (KS, m, q) = some (if b then nI 1 else nI 0, (KS, m1, q1)) ∧ KP m0 m1 ∧ KB m0 m1 ∧ m1 996 47 = -nI 1 ∧ (b = true ↔ fitP P N nn (frho RS i)) ∧ Laid P (frho RS i) m1 61 ∧ m1 1038 = m 1038 := by
  have hsq := PR.sq hQ.1
  have hQm := hQ.back hK.1 hB h47
  generalize hma : mk_u2 m 997 9 (fI i) = ma
  have ea : ∀ j, j ≠ 997 → ma j = m j := fun j hj => by rw [← hma, mk_u2_ne hj]
  have ea7 : ∀ k, k ≠ 9 → ma 997 k = m 997 k := fun k hk => by rw [← hma, u2_b hk]
  have hPa : MP ma P := hQm.1.keep (fun k hk => ea7 k (by omega)) (fun j a b => ea j (by omega))
  have hFa : ForM ma (frho RS i) := forM_of (fun r h => (hr r h).congr (fun j a b => (ea j (by omega)).trans (hK.1.1 j (by omega) (by omega)))) hnr hi (by rw [← hma, u2_s])
  have hQa : QM ma P (frho RS i) (-nI 1) := ⟨hPa, hFa, by rw [ea _ (by omega)]; exact h47⟩
  have hKa : KP m0 ma := by
    obtain ⟨⟨k1, k2, k3⟩, k4⟩ := hK
    exact ⟨⟨fun j a b => by rw [ea j (by omega)]; exact k1 j a b, fun k a b c d e f => by rw [ea 996 (by omega)]; exact k2 k a b c d e f, fun k hk => by rw [ea 1039 (by omega)]; exact k3 k hk⟩, fun j k hj hk => by rw [ea 1039 (by omega)]; exact k4 j k hj hk⟩
  obtain ⟨mb, b1, b2, b3⟩ := begins_ok (q := q) hPa
  obtain ⟨f1, ⟨mc, qc⟩, e, i1, i2, i3, i4, i5⟩ := loop_up (fun f n (s : (Nat → Nat → Int32) × (Nat → Nat → Int64)) => B_X12_couldRule_14 f 996 (nI n) (KS, s.1, s.2)) 61 (fun n s => QM s.1 P (frho RS i) (-nI 1) ∧ KP m0 s.1 ∧ MS P (blk s.1 997) (hoursA P (frho RS i) (-nI 1) n (beginA P)) ∧ Laid P (frho RS i) s.1 n ∧ s.1 1038 = m 1038) (by
    intro f n ⟨m', q'⟩ hn ⟨i1, i2, i3, i4, i5⟩
    obtain ⟨m2, q2, w1, w2, w3⟩ := mgo (q := q') i1 i3 (by rw [hoursA_h]; show 0 + n < 100000; omega)
    obtain ⟨m3, z1, z2, z3, z4⟩ := layRow (k14 := B_X12_couldRule_14 f) (q := q2) m2 (show n ≤ 60 by omega)
    have ez : ∀ j, j < 1035 ∨ 1038 < j → m3 j = m2 j := fun j hj => z2 j (by omega)
    refine ⟨(m3, q2), ?_, (i1.mo w2).arr ez, (i2.mo w2).arr' ez, ?_, fun h hh c hc => ?_, ?_⟩
    · simp only [B_X12_couldRule_14]
      simp (disch := omega) only [lit, lt_F, reduceIte, ob_some, w1]
      exact z1
    · obtain ⟨Q1, Q2, Q3⟩ := i1.1.2
      exact w3.congr (by omega) (by omega) hsq.2 (by show m3 997 5 = m2 997 5; rw [z2 _ (by omega)]) (by show m3 997 6 = m2 997 6; rw [z2 _ (by omega)]) (fun j k h1 h2 hk => by show m3 (997 + j) k = m2 (997 + j) k; rw [z2 _ (by omega)]) (fun k hk => by show m3 1003 k = m2 1003 k; rw [z2 _ (by omega)]) (fun k hk => by show m3 1004 k = m2 1004 k; rw [z2 _ (by omega)])
    · by_cases hhn : h = n
      · subst hhn
        show m3 1037 (36 * h + c) = _ ∧ _
        rw [z3 c (by omega)]
        exact w3.2.2.1 c hc
      · show m3 1037 (36 * h + c) = _ ∧ _
        rw [z4 _ (by omega), w2.1 _ (by omega)]
        exact i4 h (by omega) c hc
    · show m3 1038 = m 1038
      rw [z2 _ (by omega), w2.1 _ (by omega)]; exact i5) 61 0 mk_fu (mb, q) (by omega) (by rw [mk_fu_eq]; omega) ⟨hQa.mo b2, hKa.mo b2, b3, fun h hh => absurd hh (by omega), by show mb 1038 = m 1038; rw [b2.1 _ (by omega), ea _ (by omega)]⟩
  have i1 : QM mc P (frho RS i) (-nI 1) := i1
  have i4 : Laid P (frho RS i) mc 61 := i4
  have i5 : mc 1038 = m 1038 := i5
  obtain ⟨md, d1, d2, d3, d4, d5⟩ := laysBack_ok (q := qc) mc i2
  have h7d : md 997 7 = nI nn := (d3 0 7 (by omega) (by decide)).trans h7
  have hNd : NotesOK P N (md 1010) (md 1011) (md 1012) nn := by
    rw [d2.1.1 _ (by omega) (by omega), d2.1.1 _ (by omega) (by omega), d2.1.1 _ (by omega) (by omega)]; exact hN
  have hLd : Laid P (frho RS i) md 61 := fun h hh c hc => by rw [d5 _ (by omega) (by omega)]; exact i4 h hh c hc
  obtain ⟨b, x1, x2⟩ := checkM (q := qc) h7d hNd hsq.2 hLd nn 0 mk_fu (by omega) (by have := hN.1; rw [mk_fu_eq]; omega)
  refine ⟨md, qc, b, ?_, d2, d3, by rw [d4 47 (by omega) (by omega)]; exact i1.2.2, x2.trans ⟨fun h j hj => h j (by omega) hj, fun h j _ hj => h j hj⟩, hLd, by rw [d5 _ (by omega) (by omega)]; exact i5⟩
  unfold F_X12_couldRule
  simp (disch := omega) only [gdm, lit, gam_1, stm_997, ob_some, hma, b1]
  refine Eq.trans e ?_
  simp only [B_X12_couldRule_14]
  simp (disch := omega) only [lit, lt_T, reduceIte, d1, ob_some]
  exact x1
set_option maxRecDepth 4000 in
theorem bit_or7 : ∀ i, i < 7 → ∀ g, g < 2 ^ i → nI g ||| (nI 1 <<< (nI i &&& nI 31)) = nI (g + 2 ^ i) := by decide +kernel
set_option maxRecDepth 4000 in
theorem gb_or7 {G : Nat → Bool} {i : Nat} (hi : i < 7) (h : G i = true) : nI (gb G i) ||| (nI 1 <<< (nI i &&& nI 31)) = nI (gb G (i + 1)) := by
  rw [bit_or7 i hi _ (gb_lt G i), gb, if_pos h]
set_option maxRecDepth 4000 in
theorem fI_s1 (i : Nat) : fI i + nI 1 = nI i := by
  cases i with
  | zero => rfl
  | succ i => exact nI_add i 1
set_option maxRecDepth 4000 in
theorem fI_s2 (i : Nat) : fI i + nI 1 = fI (i + 1) := fI_s1 i
set_option maxRecDepth 4000 in
theorem fitting_ok {m : Nat → Nat → Int32} {q : Nat → Nat → Int64} {P A N : Nat → Nat → Nat} {RS : Nat → RT} {R : Option Nat} {ρ : Option RT} {nn nr : Nat} {F : Nat → Bool} (hQ : QC m P A R ρ) (hr : ∀ r, r < nr → RuleC m (220 + 7 * r) (RS r)) (hnr : nr ≤ 6) (h2 : m 13 2 = nI nr) (h3 : m 193 3 = nI nn) (hN : NotesOK P N (m 194) (m 195) (m 196) nn) (hF : ∀ i, i ≤ nr → (F i = true ↔ fitP P N nn (frho RS i))) : ∃ m1 q1, F_X2_fitting 13 (KS, m, q) = some (nI (gb F (nr + 1)), (KS, m1, q1)) ∧ Out m m1 200 208 := by
  obtain ⟨f1, ⟨y, m1, q1⟩, e, i1, i2⟩ := loop_up (fun f i (s : Int32 × (Nat → Nat → Int32) × (Nat → Nat → Int64)) => B_X2_fitting_4 f 13 s.1 (fI i) (KS, s.2.1, s.2.2)) (nr + 1) (fun i s => s.1 = nI (gb F i) ∧ Out m s.2.1 200 208) (by
    intro f i ⟨y, m', q'⟩ hi ⟨i1, i2⟩
    have i1 : y = _ := i1
    subst i1
    have i2 : Out m m' 200 208 := i2
    have k := KC.out i2 (by omega) (by omega)
    have hQ' : QC m' P A (fR i) (frho RS i) := by
      obtain ⟨a, b, c, d⟩ := hQ.keep k
      exact ⟨a, b, forC_of (fun r h => (hr r h).congr (fun j a b => k.1 j (by omega) (by omega))) hnr (by omega), d⟩
    obtain ⟨m2, q2, b, x1, x2, x3⟩ := isFitting_ok (q := q') (N := N) (nn := nn) hQ' (by rw [i2 _ (by omega)]; exact h3) (by rw [i2 _ (by omega), i2 _ (by omega), i2 _ (by omega)]; exact hN)
    have hb : b = F i := by
      have := x3.trans (hF i (by omega)).symm
      cases b <;> cases hFi : F i <;> simp_all
    subst hb
    have h2' : m' 13 2 = nI nr := by rw [i2 _ (by omega)]; exact h2
    refine ⟨(nI (gb F (i + 1)), m2, q2), ?_, rfl, i2.trans x2⟩
    simp only [B_X2_fitting_4, B_X2_fitting_32]
    simp (disch := omega) only [gic_13_2, ob_some, h2', fI_le, reduceIte, numb_C, x1, lit, fI_s2]
    cases hFi : F i with
    | false =>
      rw [gb_no hFi]
      simp only [Bool.false_eq_true, if_false, if_true]
    | true =>
      have f10 : (nI 1 = nI 0) = False := eq_F (by omega) (by omega) (by omega)
      simp only [if_true, f10, if_false]
      rw [show fI (i + 1) = nI i from rfl, gb_or7 (by omega) hFi]
      ) (nr + 1) 0 mk_fu (nI 0, m, q) (by omega) (by rw [mk_fu_eq]; omega) ⟨rfl, Out.rf⟩
  have i1 : y = _ := i1
  subst i1
  have i2 : Out m m1 200 208 := i2
  refine ⟨m1, q1, ?_, i2⟩
  unfold F_X2_fitting
  simp only [gdc_13, lit]
  refine Eq.trans e ?_
  have h2' : m1 13 2 = nI nr := by rw [i2 _ (by omega)]; exact h2
  simp only [B_X2_fitting_4]
  simp only [gic_13_2, ob_some, h2', fI_ge, if_true]
def cnt (F : Nat → Bool) : Nat → Nat
  | 0 => 0
  | i + 1 => cnt F i + if F i then 1 else 0
set_option maxRecDepth 4000 in
theorem pcn_gb {F : Nat → Bool} {n : Nat} : ∀ j, pcn (gb F n) j = cnt F (min j n)
  | 0 => by rw [Nat.zero_min]; rfl
  | j + 1 => by
    rw [pcn, pcn_gb j]
    by_cases h : j < n
    · rw [gb_bit F n j h, show min j n = j by omega, show min (j + 1) n = j + 1 by omega]; rfl
    · rw [Nat.div_eq_of_lt (Nat.lt_of_lt_of_le (gb_lt F n) (Nat.pow_le_pow_right (by omega) (by omega))), show min j n = n by omega, show min (j + 1) n = n by omega]; rfl
set_option maxRecDepth 4000 in
theorem pc_gb {F : Nat → Bool} {n : Nat} (h : n ≤ 16) : pc (gb F n) = cnt F n := by
  unfold pc; rw [pcn_gb, show min 16 n = n by omega]
set_option maxRecDepth 4000 in
theorem fst_succ {c : Nat → Bool} : ∀ d i, fst c i (d + 1) = match fst c i d with
    | none => if c (i + d) then some (i + d) else none
    | some j => some j
  | 0, i => by
    show (if c i then some i else none) = if c (i + 0) then some (i + 0) else none
    rw [Nat.add_zero]
  | d + 1, i => by
    rw [fst, fst_succ d (i + 1)]
    conv => rhs; rw [fst]
    by_cases h : c i = true
    · rw [if_pos h, if_pos h]
    · rw [if_neg h, if_neg h, show i + 1 + d = i + (d + 1) by omega]
set_option maxRecDepth 4000 in
theorem fst_cnt {F : Nat → Bool} : ∀ n, (cnt F n = 0 ↔ fst F 0 n = none)
  | 0 => ⟨fun _ => rfl, fun _ => rfl⟩
  | n + 1 => by
    have ih := fst_cnt (F := F) n
    rw [fst_succ, cnt, Nat.zero_add]
    cases hf : fst F 0 n with
    | none =>
      rw [hf] at ih
      have : cnt F n = 0 := ih.mpr rfl
      rw [this]
      cases F n <;> simp
    | some j =>
      rw [hf] at ih
      have : cnt F n ≠ 0 := fun h => by have := ih.mp h; exact absurd this (by simp)
      constructor
      · intro h; exact absurd (show cnt F n = 0 by omega) this
      · intro h; exact absurd h (by simp)
set_option maxRecDepth 4000 in
theorem fst_lt {F : Nat → Bool} {j : Nat} : ∀ d i, fst F i d = some j → i ≤ j ∧ j < i + d ∧ F j = true
  | 0, i, h => by cases h
  | d + 1, i, h => by
    rw [fst] at h
    by_cases c : F i = true
    · rw [if_pos c] at h; cases h; exact ⟨Nat.le_refl _, by omega, c⟩
    · rw [if_neg c] at h
      have := fst_lt d (i + 1) h
      exact ⟨by omega, by omega, this.2.2⟩
set_option maxRecDepth 4000 in
theorem cnt_le {F : Nat → Bool} : ∀ n, cnt F n ≤ n
  | 0 => Nat.le_refl _
  | n + 1 => by
    have := cnt_le (F := F) n
    show cnt F n + (if F n then 1 else 0) ≤ n + 1
    split <;> omega
def ansR (o : Option Nat) : Int32 := match o with
  | none => -nI 2
  | some j => fI j
set_option maxRecDepth 4000 in
/-- the first bit -/
theorem firstBit {F : Nat → Bool} {n : Nat} (hn : n ≤ 7) (t : mk_S) : ∀ (d i f : Nat), i + d = 7 → d < f → B_X11_ruled_44 f (nI (gb F n)) (fI i) t = some (ansR (if i ≤ n then fst F i (n - i) else none), t)
  | 0, i, f, hd, hf => by
    obtain ⟨f, rfl⟩ : ∃ f', f = f' + 1 := ⟨f - 1, by omega⟩
    have hi : i = 7 := by omega
    subst hi
    simp only [B_X11_ruled_44]
    rw [lit, if_pos (show nI 6 ≤ fI 7 from Int32.le_refl _), lit]
    by_cases h7 : n = 7
    · subst h7; rfl
    · rw [if_neg (by omega)]; rfl
  | d + 1, i, f, hd, hf => by
    obtain ⟨f, rfl⟩ : ∃ f', f = f' + 1 := ⟨f - 1, by omega⟩
    have h128 : gb F n < 128 := Nat.lt_of_lt_of_le (gb_lt F n) (by
      have : 2 ^ n ≤ 2 ^ 7 := Nat.pow_le_pow_right (by omega) hn
      exact this)
    have hb := bit_sh0 (gb F n) h128 i (by omega)
    have ih := firstBit (F := F) hn t d (i + 1) f (by omega) (by omega)
    simp only [B_X11_ruled_44]
    have h6 : (nI 6 ≤ fI i) = False := fI_le (by omega) (by omega)
    simp only [lit, h6, if_false, fI_s1, hb]
    by_cases hin : i < n
    · rw [gb_bit F n i hin, if_pos (show i ≤ n by omega)]
      rw [show n - i = (n - (i + 1)) + 1 by omega, fst]
      by_cases c : F i = true
      · rw [if_pos c, if_pos c]
        simp (disch := omega) only [eq_F, reduceIte]
        rfl
      · rw [if_neg c, if_neg c]
        simp (disch := omega) only [eq_T, reduceIte]
        rw [if_pos (show i + 1 ≤ n by omega)] at ih
        exact ih
    · have h0 : gb F n / 2 ^ i % 2 = 0 := by
        rw [Nat.div_eq_of_lt (Nat.lt_of_lt_of_le (gb_lt F n) (Nat.pow_le_pow_right (by omega) (by omega)))]
      rw [h0]
      simp (disch := omega) only [eq_T, reduceIte]
      rw [if_neg (show ¬ i + 1 ≤ n by omega)] at ih
      refine ih.trans ?_
      by_cases e : i = n
      · subst e; rw [if_pos (Nat.le_refl _), Nat.sub_self]; rfl
      · rw [if_neg (by omega)]
set_option maxRecDepth 4000 in
theorem op_ruled (x1 : Int32) : OP (F_X11_ruled 0 x1) (F_X12_ruled 996 x1) := by
  intro m q hI
  obtain ⟨⟨⟨⟨len, by_⟩, ⟨nr, RS⟩, ⟨P, A, H, n, N, nn, fo, x⟩, IM, md⟩, hC, hM⟩, hE⟩ := id hI
  obtain ⟨⟨ct1, ct2, ct3⟩, ⟨cr1, cr2, cr3⟩, ⟨⟨cP, ⟨cA, cAh⟩, cH, ⟨cn1, cn2⟩, ⟨cf1, cf2⟩, ⟨cx1, cx2⟩⟩, cwf⟩, cm1, cm2⟩ := id hC
  obtain ⟨⟨mt1, mt2⟩, ⟨mr1, mr2⟩, ⟨mP, ⟨mA, mAh⟩, ⟨mh1, mh2, mh3⟩, ⟨mn1, mn2⟩, ⟨mf1, mf2⟩, ⟨mx1, mx2⟩⟩, mm1, mm2, mw, ms⟩ := id hM
  have cP5 : m 15 0 = nI (P 0 0) ∧ m 15 1 = nI (P 0 1) ∧ m 15 2 = nI (P 0 2) ∧ m 15 3 = nI (P 0 3) ∧ m 15 4 = nI (P 0 4) := cP.five
  have mP5 : m 997 0 = nI (P 0 0) ∧ m 997 1 = nI (P 0 1) ∧ m 997 2 = nI (P 0 2) ∧ m 997 3 = nI (P 0 3) ∧ m 997 4 = nI (P 0 4) := mP.five
  obtain ⟨B0, B1, B2, B3, B4, B5⟩ := cP.bd
  by_cases h0 : P 0 0 = 0
  · refine ⟨-nI 3, m, q, m, q, ?_, ?_, hI, fun _ _ => rfl⟩
    · unfold F_X11_ruled; simp (disch := omega) only [ob_some, reduceIte, lit, le_T, le_F, lt_T, lt_F, eq_T, eq_F, nI_add, gac_0_0, gac_0_1, gac_0_2, gac_0_3, gac_0_4, gac_0_5, gac_0_6, gac_1_0, gic_1_1, gic_1_2, gic_1_3, gic_1_4, gic_1_5, gic_1_6, gac_3_0, gic_3_1, gic_3_2, gic_3_3, gic_3_4, gic_3_5, gic_3_6, gic_3_7, gic_5_0, gic_5_1, gic_5_2, gic_5_3, gic_5_4, gac_5_5, gac_5_6, gac_5_7, gac_5_8, gac_5_9, gac_5_10, gac_5_11, gac_13_0, gac_13_1, gic_13_2, gac_13_3, gac_13_4, gac_13_5, gac_13_6, gac_13_7, gac_13_8, gac_13_9, gic_13_10, gic_13_11, gic_13_12, gic_13_13, gac_14_0, gac_14_1, gac_14_2, gac_14_3, gic_14_4, gic_14_5, gic_15_0, gic_15_1, gic_15_2, gic_15_3, gic_15_4, gac_15_5, gac_15_6, gac_15_7, gac_15_8, gac_15_9, gac_15_10, gac_15_11, gac_23_0, gac_23_1, gac_23_2, gac_23_3, gac_23_4, gac_23_5, gac_23_6, gic_23_7, gic_23_8, gac_31_0, gic_31_1, gic_31_2, gac_193_0, gac_193_1, gac_193_2, gic_193_3, gac_198_0, gac_200_0, gac_200_1, gac_200_2, gac_200_3, gac_200_4, gac_200_5, gac_200_6, gic_200_7, gic_200_8, pic_1_1, pic_1_2, pic_1_3, pic_1_4, pic_1_5, pic_1_6, pic_3_1, pic_3_2, pic_3_3, pic_3_4, pic_3_5, pic_3_6, pic_3_7, pic_5_0, pic_5_1, pic_5_2, pic_5_3, pic_5_4, pic_13_2, pic_13_10, pic_13_11, pic_13_12, pic_13_13, pic_14_4, pic_14_5, pic_15_0, pic_15_1, pic_15_2, pic_15_3, pic_15_4, pic_23_7, pic_23_8, pic_31_1, pic_31_2, pic_193_3, pic_200_7, pic_200_8, gdc_0, gdc_1, gdc_3, gdc_5, gdc_13, gdc_14, gdc_15, gdc_23, gdc_31, gdc_193, gdc_198, gdc_200, ldc_2, stc_2, ldc_4, stc_4, ldc_6, stc_6, ldc_7, stc_7, ldc_8, stc_8, ldc_9, stc_9, ldc_10, stc_10, ldc_11, stc_11, ldc_12, stc_12, ldc_16, stc_16, ldc_17, stc_17, ldc_18, stc_18, ldc_19, stc_19, ldc_20, stc_20, ldc_21, stc_21, ldc_22, stc_22, ldc_24, stc_24, ldc_25, stc_25, ldc_26, stc_26, ldc_27, stc_27, ldc_28, stc_28, ldc_29, stc_29, ldc_30, stc_30, ldc_194, stc_194, ldc_195, stc_195, ldc_196, stc_196, ldc_199, stc_199, ldc_201, stc_201, ldc_202, stc_202, ldc_203, stc_203, ldc_204, stc_204, ldc_205, stc_205, ldc_206, stc_206, ldc_207, stc_207, ldc_208, stc_208, ldc_209, stc_209, ldc_210, stc_210, ldc_211, stc_211, ldc_213, stc_213, ldc_214, stc_214, ldc_215, stc_215, ldc_216, stc_216, ldc_217, stc_217, ldc_218, stc_218, ldc_219, stc_219, ldc_263, stc_263, lda_197, lda_262, lda_212, lda_32, u2_s, u2_a, u2_b, isPla_C cP5.1, h0]
    · unfold F_X12_ruled; simp (disch := omega) only [gdm, gam_1, gam_2, gam_3, gam_4, gam_5, gam_6, gam_7, gam_8, gam_9, gam_10, gam_11, gam_12, gam_13, gam_14, gam_15, gam_16, gam_17, gam_18, gam_19, gam_20, gam_21, gam_22, gam_23, gam_24, gam_25, gam_26, gam_37, gam_38, gam_39, gam_40, gam_41, gam_42, gam_43, gam_44, gam_45, gam_46, gam_48, gam_49, gam_56, gam_57, gam_58, gam_59, gam_60, gam_61, gim_27, gim_28, gim_29, gim_30, gim_31, gim_32, gim_33, gim_34, gim_35, gim_36, gim_47, gim_50, gim_51, gim_52, gim_53, gim_54, gim_55, gim_62, gim_63, ob_some, reduceIte, lit, le_T, le_F, lt_T, lt_F, eq_T, eq_F, nI_add, ldm_997, stm_997, ldm_998, stm_998, ldm_999, stm_999, ldm_1000, stm_1000, ldm_1001, stm_1001, ldm_1002, stm_1002, ldm_1003, stm_1003, ldm_1004, stm_1004, ldm_1005, stm_1005, ldm_1006, stm_1006, ldm_1007, stm_1007, ldm_1008, stm_1008, ldm_1009, stm_1009, ldm_1010, stm_1010, ldm_1011, stm_1011, ldm_1012, stm_1012, ldm_1013, stm_1013, ldm_1014, stm_1014, ldm_1015, stm_1015, ldm_1016, stm_1016, ldm_1017, stm_1017, ldm_1018, stm_1018, ldm_1019, stm_1019, ldm_1020, stm_1020, ldm_1021, stm_1021, ldm_1022, stm_1022, u2_s, u2_a, u2_b, not_true, not_false_iff, isPla_M mP5.1, h0]
  have h0 : 0 < P 0 0 := by omega
  rcases within_CL x1 0 1 (by omega) (by omega) with ⟨k, -, hk, rfl⟩ | hno
  rotate_left
  · refine ⟨-nI 3, m, q, m, q, ?_, ?_, hI, fun _ _ => rfl⟩
    · unfold F_X11_ruled; simp (disch := omega) only [ob_some, reduceIte, lit, le_T, le_F, lt_T, lt_F, eq_T, eq_F, nI_add, gac_0_0, gac_0_1, gac_0_2, gac_0_3, gac_0_4, gac_0_5, gac_0_6, gac_1_0, gic_1_1, gic_1_2, gic_1_3, gic_1_4, gic_1_5, gic_1_6, gac_3_0, gic_3_1, gic_3_2, gic_3_3, gic_3_4, gic_3_5, gic_3_6, gic_3_7, gic_5_0, gic_5_1, gic_5_2, gic_5_3, gic_5_4, gac_5_5, gac_5_6, gac_5_7, gac_5_8, gac_5_9, gac_5_10, gac_5_11, gac_13_0, gac_13_1, gic_13_2, gac_13_3, gac_13_4, gac_13_5, gac_13_6, gac_13_7, gac_13_8, gac_13_9, gic_13_10, gic_13_11, gic_13_12, gic_13_13, gac_14_0, gac_14_1, gac_14_2, gac_14_3, gic_14_4, gic_14_5, gic_15_0, gic_15_1, gic_15_2, gic_15_3, gic_15_4, gac_15_5, gac_15_6, gac_15_7, gac_15_8, gac_15_9, gac_15_10, gac_15_11, gac_23_0, gac_23_1, gac_23_2, gac_23_3, gac_23_4, gac_23_5, gac_23_6, gic_23_7, gic_23_8, gac_31_0, gic_31_1, gic_31_2, gac_193_0, gac_193_1, gac_193_2, gic_193_3, gac_198_0, gac_200_0, gac_200_1, gac_200_2, gac_200_3, gac_200_4, gac_200_5, gac_200_6, gic_200_7, gic_200_8, pic_1_1, pic_1_2, pic_1_3, pic_1_4, pic_1_5, pic_1_6, pic_3_1, pic_3_2, pic_3_3, pic_3_4, pic_3_5, pic_3_6, pic_3_7, pic_5_0, pic_5_1, pic_5_2, pic_5_3, pic_5_4, pic_13_2, pic_13_10, pic_13_11, pic_13_12, pic_13_13, pic_14_4, pic_14_5, pic_15_0, pic_15_1, pic_15_2, pic_15_3, pic_15_4, pic_23_7, pic_23_8, pic_31_1, pic_31_2, pic_193_3, pic_200_7, pic_200_8, gdc_0, gdc_1, gdc_3, gdc_5, gdc_13, gdc_14, gdc_15, gdc_23, gdc_31, gdc_193, gdc_198, gdc_200, ldc_2, stc_2, ldc_4, stc_4, ldc_6, stc_6, ldc_7, stc_7, ldc_8, stc_8, ldc_9, stc_9, ldc_10, stc_10, ldc_11, stc_11, ldc_12, stc_12, ldc_16, stc_16, ldc_17, stc_17, ldc_18, stc_18, ldc_19, stc_19, ldc_20, stc_20, ldc_21, stc_21, ldc_22, stc_22, ldc_24, stc_24, ldc_25, stc_25, ldc_26, stc_26, ldc_27, stc_27, ldc_28, stc_28, ldc_29, stc_29, ldc_30, stc_30, ldc_194, stc_194, ldc_195, stc_195, ldc_196, stc_196, ldc_199, stc_199, ldc_201, stc_201, ldc_202, stc_202, ldc_203, stc_203, ldc_204, stc_204, ldc_205, stc_205, ldc_206, stc_206, ldc_207, stc_207, ldc_208, stc_208, ldc_209, stc_209, ldc_210, stc_210, ldc_211, stc_211, ldc_213, stc_213, ldc_214, stc_214, ldc_215, stc_215, ldc_216, stc_216, ldc_217, stc_217, ldc_218, stc_218, ldc_219, stc_219, ldc_263, stc_263, lda_197, lda_262, lda_212, lda_32, u2_s, u2_a, u2_b, isPla_T cP5.1, hno]
    · unfold F_X12_ruled; simp (disch := omega) only [gdm, gam_1, gam_2, gam_3, gam_4, gam_5, gam_6, gam_7, gam_8, gam_9, gam_10, gam_11, gam_12, gam_13, gam_14, gam_15, gam_16, gam_17, gam_18, gam_19, gam_20, gam_21, gam_22, gam_23, gam_24, gam_25, gam_26, gam_37, gam_38, gam_39, gam_40, gam_41, gam_42, gam_43, gam_44, gam_45, gam_46, gam_48, gam_49, gam_56, gam_57, gam_58, gam_59, gam_60, gam_61, gim_27, gim_28, gim_29, gim_30, gim_31, gim_32, gim_33, gim_34, gim_35, gim_36, gim_47, gim_50, gim_51, gim_52, gim_53, gim_54, gim_55, gim_62, gim_63, ob_some, reduceIte, lit, le_T, le_F, lt_T, lt_F, eq_T, eq_F, nI_add, ldm_997, stm_997, ldm_998, stm_998, ldm_999, stm_999, ldm_1000, stm_1000, ldm_1001, stm_1001, ldm_1002, stm_1002, ldm_1003, stm_1003, ldm_1004, stm_1004, ldm_1005, stm_1005, ldm_1006, stm_1006, ldm_1007, stm_1007, ldm_1008, stm_1008, ldm_1009, stm_1009, ldm_1010, stm_1010, ldm_1011, stm_1011, ldm_1012, stm_1012, ldm_1013, stm_1013, ldm_1014, stm_1014, ldm_1015, stm_1015, ldm_1016, stm_1016, ldm_1017, stm_1017, ldm_1018, stm_1018, ldm_1019, stm_1019, ldm_1020, stm_1020, ldm_1021, stm_1021, ldm_1022, stm_1022, u2_s, u2_a, u2_b, not_true, not_false_iff, isPla_TM mP5.1, in_0_1, hno]
  obtain ⟨hQ, h4, hf6⟩ := qc_of hC hE h0
  obtain ⟨F, hF⟩ : ∃ F : Nat → Bool, ∀ i, (F i = true ↔ fitP P N nn (frho RS i)) := by
    classical
    exact ⟨fun i => decide (fitP P N nn (frho RS i)), fun i => decide_eq_true_iff⟩
  obtain ⟨mb, qb, b1, b2⟩ := fitting_ok (q := q) (N := N) (nn := nn) (F := F) hQ cr3 cr2 cr1 cn1 cn2 (fun i _ => hF i)
  have kb := KC.out b2 (by omega) (by omega)
  obtain ⟨hQM, hMS⟩ := qm_of hC hM h0 kb
  have hM1 : MI _ mb := hM.same (fun i h1 h2 => kb.1 i (by omega) (by omega))
  obtain ⟨mc, k1, k2, k3, k4, k5⟩ := keepsAll_ok (q := qb) mb
  obtain ⟨f1, ⟨y1, y2, me, qe⟩, e, i1, i2, i3, i4, i5⟩ := loop_up (fun f i (s : Int32 × Int32 × (Nat → Nat → Int32) × (Nat → Nat → Int64)) => B_X12_ruled_32 f 996 (nI k) s.1 s.2.1 (fI i) (KS, s.2.2.1, s.2.2.2)) (nr + 1) (fun i s => s.1 = nI (cnt F i) ∧ s.2.1 = ansR (fst F 0 i) ∧ KP mb s.2.2.1 ∧ KB mb s.2.2.1 ∧ s.2.2.1 996 47 = -nI 1) (by
    intro f i ⟨y1, y2, m', q'⟩ hi ⟨i1, i2, i3, i4, i5⟩
    have i1 : y1 = _ := i1
    have i2 : y2 = _ := i2
    subst i1 i2
    have i3 : KP mb m' := i3
    obtain ⟨m2, q2, b, x1, x2, x3, x4, x5, -, -⟩ := couldRule_ok (q := q') (RS := RS) (i := i) hQM hMS hM1.2.1.2 cr2 (by omega) hM1.2.2.1.2.2.2.1.1 hM1.2.2.1.2.2.2.1.2 i3 i4 i5
    have hb : b = F i := by
      have := x5.trans (hF i).symm
      cases b <;> cases hFi : F i <;> simp_all
    subst hb
    have h31 : m' 996 31 = nI nr := (i3.1.2.1 31 (by omega) (by omega) (by omega) (by omega) (by omega) (by omega)).trans hM1.2.1.1
    have hcl := cnt_le (F := F) i
    refine ⟨(nI (cnt F (i + 1)), ansR (fst F 0 (i + 1)), m2, q2), ?_, rfl, rfl, x2, x3, x4⟩
    simp only [B_X12_ruled_32, B_X12_ruled_64, B_X12_ruled_60]
    simp (disch := omega) only [gim_31, ob_some, h31, fI_le, reduceIte, x1, lit, fI_s2]
    rw [fst_succ, cnt, Nat.zero_add]
    have hfc := fst_cnt (F := F) i
    cases hFi : F i with
    | false =>
      cases fst F 0 i <;> simp only [Bool.false_eq_true, if_false, if_true, Nat.add_zero]
    | true =>
      have f10 : (nI 1 = nI 0) = False := eq_F (by omega) (by omega) (by omega)
      simp only [if_true, f10, if_false, nI_add]
      cases hff : fst F 0 i with
      | none =>
        have hc0 : cnt F i = 0 := hfc.mpr hff
        simp only [hc0, if_true]
        rfl
      | some j =>
        have hc0 : cnt F i ≠ 0 := fun h => by rw [hfc.mp h] at hff; cases hff
        have fc : (nI (cnt F i) = nI 0) = False := eq_F (by omega) (by omega) (by omega)
        simp only [fc, if_false]) (nr + 1) 0 mk_fu (nI 0, -nI 2, mc, qb) (by omega) (by rw [mk_fu_eq]; omega) ⟨rfl, rfl, k2, k3, (k4 47 (by omega) (by omega)).trans hQM.2.2⟩
  have i1 : y1 = _ := i1
  have i2 : y2 = _ := i2
  subst i1 i2
  have i3 : KP mb me := i3
  have i5 : me 996 47 = -nI 1 := i5
  obtain ⟨f1, f2⟩ := ask_fin hC hM hE kb i3.1 i4 (i5.trans hQM.2.2.symm)
  have hP0 : mb 997 0 = nI (P 0 0) := hQM.1.1.1
  have h31 : me 996 31 = nI nr := (i3.1.2.1 31 (by omega) (by omega) (by omega) (by omega) (by omega) (by omega)).trans hM1.2.1.1
  have h128 : gb F (nr + 1) < 128 := Nat.lt_of_lt_of_le (gb_lt F _) (by
    have : 2 ^ (nr + 1) ≤ 2 ^ 7 := Nat.pow_le_pow_right (by omega) (by omega)
    exact this)
  refine ⟨if k = 0 then nI (cnt F (nr + 1)) else ansR (fst F 0 (nr + 1)), mb, qb, me, qe, ?_, ?_, f1, f2⟩
  · unfold F_X11_ruled
    have hb0 := firstBit (F := F) (n := nr + 1) (by omega) (KS, mb, qb) 7 0 mk_fu (by omega) (by rw [mk_fu_eq]; omega)
    rw [if_pos (by omega), Nat.sub_zero] at hb0
    have hb0 : B_X11_ruled_44 mk_fu (nI (gb F (nr + 1))) (-nI 1) (KS, mb, qb) = _ := hb0
    rcases (show k = 0 ∨ k = 1 by omega) with ek | ek <;> subst ek
    · simp (disch := omega) only [ob_some, reduceIte, lit, le_T, le_F, lt_T, lt_F, eq_T, eq_F, nI_add, gac_0_0, gac_0_1, gac_0_2, gac_0_3, gac_0_4, gac_0_5, gac_0_6, gac_1_0, gic_1_1, gic_1_2, gic_1_3, gic_1_4, gic_1_5, gic_1_6, gac_3_0, gic_3_1, gic_3_2, gic_3_3, gic_3_4, gic_3_5, gic_3_6, gic_3_7, gic_5_0, gic_5_1, gic_5_2, gic_5_3, gic_5_4, gac_5_5, gac_5_6, gac_5_7, gac_5_8, gac_5_9, gac_5_10, gac_5_11, gac_13_0, gac_13_1, gic_13_2, gac_13_3, gac_13_4, gac_13_5, gac_13_6, gac_13_7, gac_13_8, gac_13_9, gic_13_10, gic_13_11, gic_13_12, gic_13_13, gac_14_0, gac_14_1, gac_14_2, gac_14_3, gic_14_4, gic_14_5, gic_15_0, gic_15_1, gic_15_2, gic_15_3, gic_15_4, gac_15_5, gac_15_6, gac_15_7, gac_15_8, gac_15_9, gac_15_10, gac_15_11, gac_23_0, gac_23_1, gac_23_2, gac_23_3, gac_23_4, gac_23_5, gac_23_6, gic_23_7, gic_23_8, gac_31_0, gic_31_1, gic_31_2, gac_193_0, gac_193_1, gac_193_2, gic_193_3, gac_198_0, gac_200_0, gac_200_1, gac_200_2, gac_200_3, gac_200_4, gac_200_5, gac_200_6, gic_200_7, gic_200_8, pic_1_1, pic_1_2, pic_1_3, pic_1_4, pic_1_5, pic_1_6, pic_3_1, pic_3_2, pic_3_3, pic_3_4, pic_3_5, pic_3_6, pic_3_7, pic_5_0, pic_5_1, pic_5_2, pic_5_3, pic_5_4, pic_13_2, pic_13_10, pic_13_11, pic_13_12, pic_13_13, pic_14_4, pic_14_5, pic_15_0, pic_15_1, pic_15_2, pic_15_3, pic_15_4, pic_23_7, pic_23_8, pic_31_1, pic_31_2, pic_193_3, pic_200_7, pic_200_8, gdc_0, gdc_1, gdc_3, gdc_5, gdc_13, gdc_14, gdc_15, gdc_23, gdc_31, gdc_193, gdc_198, gdc_200, ldc_2, stc_2, ldc_4, stc_4, ldc_6, stc_6, ldc_7, stc_7, ldc_8, stc_8, ldc_9, stc_9, ldc_10, stc_10, ldc_11, stc_11, ldc_12, stc_12, ldc_16, stc_16, ldc_17, stc_17, ldc_18, stc_18, ldc_19, stc_19, ldc_20, stc_20, ldc_21, stc_21, ldc_22, stc_22, ldc_24, stc_24, ldc_25, stc_25, ldc_26, stc_26, ldc_27, stc_27, ldc_28, stc_28, ldc_29, stc_29, ldc_30, stc_30, ldc_194, stc_194, ldc_195, stc_195, ldc_196, stc_196, ldc_199, stc_199, ldc_201, stc_201, ldc_202, stc_202, ldc_203, stc_203, ldc_204, stc_204, ldc_205, stc_205, ldc_206, stc_206, ldc_207, stc_207, ldc_208, stc_208, ldc_209, stc_209, ldc_210, stc_210, ldc_211, stc_211, ldc_213, stc_213, ldc_214, stc_214, ldc_215, stc_215, ldc_216, stc_216, ldc_217, stc_217, ldc_218, stc_218, ldc_219, stc_219, ldc_263, stc_263, lda_197, lda_262, lda_212, lda_32, u2_s, u2_a, u2_b, isPla_T cP5.1, within_TL, b1, bitc h128, pc_gb (show nr + 1 ≤ 16 by omega)]
    · simp (disch := omega) only [ob_some, reduceIte, lit, le_T, le_F, lt_T, lt_F, eq_T, eq_F, nI_add, gac_0_0, gac_0_1, gac_0_2, gac_0_3, gac_0_4, gac_0_5, gac_0_6, gac_1_0, gic_1_1, gic_1_2, gic_1_3, gic_1_4, gic_1_5, gic_1_6, gac_3_0, gic_3_1, gic_3_2, gic_3_3, gic_3_4, gic_3_5, gic_3_6, gic_3_7, gic_5_0, gic_5_1, gic_5_2, gic_5_3, gic_5_4, gac_5_5, gac_5_6, gac_5_7, gac_5_8, gac_5_9, gac_5_10, gac_5_11, gac_13_0, gac_13_1, gic_13_2, gac_13_3, gac_13_4, gac_13_5, gac_13_6, gac_13_7, gac_13_8, gac_13_9, gic_13_10, gic_13_11, gic_13_12, gic_13_13, gac_14_0, gac_14_1, gac_14_2, gac_14_3, gic_14_4, gic_14_5, gic_15_0, gic_15_1, gic_15_2, gic_15_3, gic_15_4, gac_15_5, gac_15_6, gac_15_7, gac_15_8, gac_15_9, gac_15_10, gac_15_11, gac_23_0, gac_23_1, gac_23_2, gac_23_3, gac_23_4, gac_23_5, gac_23_6, gic_23_7, gic_23_8, gac_31_0, gic_31_1, gic_31_2, gac_193_0, gac_193_1, gac_193_2, gic_193_3, gac_198_0, gac_200_0, gac_200_1, gac_200_2, gac_200_3, gac_200_4, gac_200_5, gac_200_6, gic_200_7, gic_200_8, pic_1_1, pic_1_2, pic_1_3, pic_1_4, pic_1_5, pic_1_6, pic_3_1, pic_3_2, pic_3_3, pic_3_4, pic_3_5, pic_3_6, pic_3_7, pic_5_0, pic_5_1, pic_5_2, pic_5_3, pic_5_4, pic_13_2, pic_13_10, pic_13_11, pic_13_12, pic_13_13, pic_14_4, pic_14_5, pic_15_0, pic_15_1, pic_15_2, pic_15_3, pic_15_4, pic_23_7, pic_23_8, pic_31_1, pic_31_2, pic_193_3, pic_200_7, pic_200_8, gdc_0, gdc_1, gdc_3, gdc_5, gdc_13, gdc_14, gdc_15, gdc_23, gdc_31, gdc_193, gdc_198, gdc_200, ldc_2, stc_2, ldc_4, stc_4, ldc_6, stc_6, ldc_7, stc_7, ldc_8, stc_8, ldc_9, stc_9, ldc_10, stc_10, ldc_11, stc_11, ldc_12, stc_12, ldc_16, stc_16, ldc_17, stc_17, ldc_18, stc_18, ldc_19, stc_19, ldc_20, stc_20, ldc_21, stc_21, ldc_22, stc_22, ldc_24, stc_24, ldc_25, stc_25, ldc_26, stc_26, ldc_27, stc_27, ldc_28, stc_28, ldc_29, stc_29, ldc_30, stc_30, ldc_194, stc_194, ldc_195, stc_195, ldc_196, stc_196, ldc_199, stc_199, ldc_201, stc_201, ldc_202, stc_202, ldc_203, stc_203, ldc_204, stc_204, ldc_205, stc_205, ldc_206, stc_206, ldc_207, stc_207, ldc_208, stc_208, ldc_209, stc_209, ldc_210, stc_210, ldc_211, stc_211, ldc_213, stc_213, ldc_214, stc_214, ldc_215, stc_215, ldc_216, stc_216, ldc_217, stc_217, ldc_218, stc_218, ldc_219, stc_219, ldc_263, stc_263, lda_197, lda_262, lda_212, lda_32, u2_s, u2_a, u2_b, isPla_T cP5.1, within_TL, b1, hb0]
      rfl
  · unfold F_X12_ruled
    simp (disch := omega) only [gdm, gam_1, gam_2, gam_3, gam_4, gam_5, gam_6, gam_7, gam_8, gam_9, gam_10, gam_11, gam_12, gam_13, gam_14, gam_15, gam_16, gam_17, gam_18, gam_19, gam_20, gam_21, gam_22, gam_23, gam_24, gam_25, gam_26, gam_37, gam_38, gam_39, gam_40, gam_41, gam_42, gam_43, gam_44, gam_45, gam_46, gam_48, gam_49, gam_56, gam_57, gam_58, gam_59, gam_60, gam_61, gim_27, gim_28, gim_29, gim_30, gim_31, gim_32, gim_33, gim_34, gim_35, gim_36, gim_47, gim_50, gim_51, gim_52, gim_53, gim_54, gim_55, gim_62, gim_63, ob_some, reduceIte, lit, le_T, le_F, lt_T, lt_F, eq_T, eq_F, nI_add, ldm_997, stm_997, ldm_998, stm_998, ldm_999, stm_999, ldm_1000, stm_1000, ldm_1001, stm_1001, ldm_1002, stm_1002, ldm_1003, stm_1003, ldm_1004, stm_1004, ldm_1005, stm_1005, ldm_1006, stm_1006, ldm_1007, stm_1007, ldm_1008, stm_1008, ldm_1009, stm_1009, ldm_1010, stm_1010, ldm_1011, stm_1011, ldm_1012, stm_1012, ldm_1013, stm_1013, ldm_1014, stm_1014, ldm_1015, stm_1015, ldm_1016, stm_1016, ldm_1017, stm_1017, ldm_1018, stm_1018, ldm_1019, stm_1019, ldm_1020, stm_1020, ldm_1021, stm_1021, ldm_1022, stm_1022, u2_s, u2_a, u2_b, not_true, not_false_iff, isPla_TM hP0, within_TL, in_0_1, k1]
    refine Eq.trans e ?_
    simp only [B_X12_ruled_32]
    simp only [gim_31, ob_some, h31, fI_ge, if_true]
    rcases (show k = 0 ∨ k = 1 by omega) with ek | ek <;> subst ek <;> simp (disch := omega) only [lit, eq_T, eq_F, reduceIte] <;> rfl
