/-! where to look -/
set_option maxRecDepth 4000 in
theorem fI_pred (i : Nat) : nI i - nI 1 = fI i := by
  cases i with
  | zero => decide
  | succ i => exact sub1 (by omega)
set_option maxRecDepth 4000 in
theorem bit_two : ∀ o, o < 128 → ∀ i, i < 7 → ∀ j, j < 7 → ((nI o >>> (nI i &&& nI 31)) &&& (nI o >>> (nI j &&& nI 31))) &&& nI 1 = nI (o / 2 ^ i % 2 * (o / 2 ^ j % 2)) := by decide +kernel
set_option maxRecDepth 4000 in
theorem nI_max {x y : Nat} (hx : x < 2 ^ 31) (hy : y < 2 ^ 31) : (if nI x < nI y then nI y else nI x) = nI (max x y) := by
  by_cases h : x < y
  · rw [if_pos (nI_lt h hy), show max x y = y by omega]
  · rw [if_neg (nI_nlt (by omega) hx), show max x y = x by omega]
/-- how many are like v; the most that are alike -/
def cE (F : Nat → Bool) (w : Nat → Nat) (v : Nat) : Nat → Nat
  | 0 => 0
  | j + 1 => cE F w v j + if F j = true ∧ w j = v then 1 else 0
def mE (F : Nat → Bool) (g : Nat → Nat) : Nat → Nat
  | 0 => 0
  | i + 1 => max (mE F g i) (if F i then g i else 0)
set_option maxRecDepth 4000 in
theorem cE_le {F : Nat → Bool} {w : Nat → Nat} {v : Nat} : ∀ n, cE F w v n ≤ n
  | 0 => Nat.le_refl _
  | n + 1 => by
    have := cE_le (F := F) (w := w) (v := v) n
    show cE F w v n + (if F n = true ∧ w n = v then 1 else 0) ≤ n + 1
    split <;> omega
set_option maxRecDepth 4000 in
theorem mE_le {F : Nat → Bool} {g : Nat → Nat} {K : Nat} (h : ∀ i, g i ≤ K) : ∀ n, mE F g n ≤ K
  | 0 => Nat.zero_le _
  | n + 1 => by
    have := mE_le (F := F) h n
    have := h n
    show max (mE F g n) (if F n then g n else 0) ≤ K
    split <;> omega
set_option maxRecDepth 4000 in
theorem cE_ext {F : Nat → Bool} {w : Nat → Nat} {v n : Nat} (h : ∀ i, n ≤ i → F i = false) : ∀ d, cE F w v (n + d) = cE F w v n
  | 0 => rfl
  | d + 1 => by
    show cE F w v (n + d) + (if F (n + d) = true ∧ w (n + d) = v then 1 else 0) = _
    rw [if_neg (by rw [h (n + d) (by omega)]; exact fun x => absurd x.1 (by decide)), cE_ext h d]; rfl
set_option maxRecDepth 4000 in
theorem mE_ext {F : Nat → Bool} {g : Nat → Nat} {n : Nat} (h : ∀ i, n ≤ i → F i = false) : ∀ d, mE F g (n + d) = mE F g n
  | 0 => rfl
  | d + 1 => by
    show max (mE F g (n + d)) (if F (n + d) then g (n + d) else 0) = _
    rw [h (n + d) (by omega), mE_ext h d, if_neg (by decide)]; omega
/-- which is the k-th -/
def sq (F : Nat → Bool) : Nat → Nat → Nat
  | 0 => fun _ => 0
  | i + 1 => fun k => if F i = true ∧ k = cnt F i then i else sq F i k
def cS (p : Nat → Nat) (w v : Nat) (f : Nat → Nat) : Nat → Nat
  | 0 => 0
  | k + 1 => cS p w v f k + if p (f k) = v then 1 else 0
def mS (g : Nat → Nat) (f : Nat → Nat) : Nat → Nat
  | 0 => 0
  | k + 1 => max (mS g f k) (g (f k))
set_option maxRecDepth 4000 in
theorem cS_congr {p : Nat → Nat} {w v : Nat} {f f1 : Nat → Nat} : ∀ n, (∀ k, k < n → f1 k = f k) → cS p w v f1 n = cS p w v f n
  | 0, _ => rfl
  | n + 1, h => by
    rw [cS, cS, cS_congr n (fun k hk => h k (by omega)), h n (by omega)]
set_option maxRecDepth 4000 in
theorem mS_congr {g : Nat → Nat} {f f1 : Nat → Nat} : ∀ n, (∀ k, k < n → f1 k = f k) → mS g f1 n = mS g f n
  | 0, _ => rfl
  | n + 1, h => by
    rw [mS, mS, mS_congr n (fun k hk => h k (by omega)), h n (by omega)]
set_option maxRecDepth 4000 in
theorem cS_cE {F : Nat → Bool} {p : Nat → Nat} {w v : Nat} : ∀ n, cS p w v (sq F n) (cnt F n) = cE F p v n
  | 0 => rfl
  | n + 1 => by
    have ih := cS_cE (F := F) (p := p) (w := w) (v := v) n
    have e1 : ∀ k, k < cnt F n → sq F (n + 1) k = sq F n k := fun k hk => by
      show (if F n = true ∧ k = cnt F n then n else sq F n k) = _
      exact if_neg (by omega)
    rw [cnt, cE]
    cases hF : F n with
    | true =>
      rw [if_pos rfl, cS, cS_congr _ e1, ih]
      have e2 : sq F (n + 1) (cnt F n) = n := if_pos ⟨hF, rfl⟩
      rw [e2]
      congr 1
      by_cases h : p n = v
      · rw [if_pos h, if_pos ⟨rfl, h⟩]
      · rw [if_neg h, if_neg (fun x => h x.2)]
    | false =>
      rw [if_neg (by decide), if_neg (fun x => absurd x.1 (by decide))]
      show cS p w v (sq F (n + 1)) (cnt F n) = cE F p v n
      rw [cS_congr _ e1, ih]
set_option maxRecDepth 4000 in
theorem mS_mE {F : Nat → Bool} {g : Nat → Nat} : ∀ n, mS g (sq F n) (cnt F n) = mE F g n
  | 0 => rfl
  | n + 1 => by
    have ih := mS_mE (F := F) (g := g) n
    have e1 : ∀ k, k < cnt F n → sq F (n + 1) k = sq F n k := fun k hk => by
      show (if F n = true ∧ k = cnt F n then n else sq F n k) = _
      exact if_neg (by omega)
    rw [cnt, mE]
    cases hF : F n with
    | true =>
      rw [if_pos rfl, mS, mS_congr _ e1, ih]
      have e2 : sq F (n + 1) (cnt F n) = n := if_pos ⟨hF, rfl⟩
      rw [e2, if_pos rfl]
    | false =>
      rw [if_neg (by decide), if_neg (by decide)]
      show mS g (sq F (n + 1)) (cnt F n) = max (mE F g n) 0
      rw [mS_congr _ e1, ih]; omega
def wL (P : Nat → Nat → Nat) (RS : Nat → RT) (n i c : Nat) : Nat := hoursA P (frho RS i) (-nI 1) (n + 1) (beginA P) 7 c
def alN (P : Nat → Nat → Nat) (RS : Nat → RT) (F : Nat → Bool) (n nr c : Nat) : Nat := mE F (fun i => cE F (fun j => wL P RS n j c) (wL P RS n i c) (nr + 1)) (nr + 1)
set_option maxRecDepth 4000 in
theorem alN_le {P : Nat → Nat → Nat} {RS : Nat → RT} {F : Nat → Bool} {n nr c : Nat} (h : nr ≤ 6) : alN P RS F n nr c ≤ 7 := mE_le (fun i => Nat.le_trans (cE_le _) (by omega)) _
set_option maxRecDepth 4000 in
theorem winds_lda {m : Nat → Nat → Int32} {q : Nat → Nat → Int64} {j : Nat} (h : j < 7) : mk_lda (100 + 7) (KS, m, q) 212 (nI j) = some (213 + j) := by
  rw [lda_212 h, Nat.one_mul]
set_option maxRecDepth 4000 in
theorem kk_w : ∀ j, j < 7 → KS[213 + j]? = some (100, 36, []) := by decide +kernel
set_option maxRecDepth 4000 in
theorem fillWinds_ok {m : Nat → Nat → Int32} {q : Nat → Nat → Int64} {P A : Nat → Nat → Nat} {RS : Nat → RT} {R : Option Nat} {ρ : Option RT} {F : Nat → Bool} {nr n : Nat} (hQ : QC m P A R ρ) (hr : ∀ r, r < nr → RuleC m (220 + 7 * r) (RS r)) (hnr : nr ≤ 6) (hn : n ≤ 60) (hF : ∀ i, nr < i → F i = false) : ∃ m1 q1, F_X2_fillWinds 13 (nI (gb F (nr + 1))) (nI n) (KS, m, q) = some ((), (KS, m1, q1)) ∧ KC m m1 ∧ ∀ i, i < 7 → F i = true → ∀ c, c < P 0 0 * P 0 0 → m1 (213 + i) c = nI (wL P RS n i c) ∧ wL P RS n i c ≤ 600 := by
  have hsq := hQ.1.sq
  have h128 : gb F (nr + 1) < 128 := Nat.lt_of_lt_of_le (gb_lt F _) (by
    have : 2 ^ (nr + 1) ≤ 2 ^ 7 := Nat.pow_le_pow_right (by omega) (by omega)
    exact this)
  obtain ⟨f1, ⟨m1, q1⟩, e, i1, i2⟩ := loop_up (fun f i (s : (Nat → Nat → Int32) × (Nat → Nat → Int64)) => B_X2_fillWinds_2 f 13 (nI (gb F (nr + 1))) (nI n) (nI i) (KS, s.1, s.2)) 7 (fun i s => KC m s.1 ∧ ∀ j, j < i → F j = true → ∀ c, c < P 0 0 * P 0 0 → s.1 (213 + j) c = nI (wL P RS n j c) ∧ wL P RS n j c ≤ 600) (by
    intro f i ⟨m', q'⟩ hi ⟨i1, i2⟩
    have i1 : KC m m' := i1
    have hb := bit_sh0 _ h128 i (by omega)
    cases hFi : F i with
    | false =>
      have h0 : gb F (nr + 1) / 2 ^ i % 2 = 0 := by
        by_cases hin : i < nr + 1
        · rw [gb_bit F _ i hin, hFi]; rfl
        · rw [Nat.div_eq_of_lt (Nat.lt_of_lt_of_le (gb_lt F _) (Nat.pow_le_pow_right (by omega) (by omega)))]
      rw [h0] at hb
      refine ⟨(m', q'), ?_, i1, fun j hj hFj => ?_⟩
      · simp only [B_X2_fillWinds_2, B_X2_fillWinds_92]
        simp (disch := omega) only [lit, lt_F, reduceIte, hb, eq_T, nI_add]
      · by_cases ej : j = i
        · subst ej; rw [hFi] at hFj; cases hFj
        · exact i2 j (by omega) hFj
    | true =>
      have hin : i ≤ nr := by
        refine Nat.le_of_not_lt (fun h => ?_)
        rw [hF i h] at hFi; cases hFi
      have h1 : gb F (nr + 1) / 2 ^ i % 2 = 1 := by rw [gb_bit F _ i (by omega), hFi]; rfl
      rw [h1] at hb
      have hQ' : QC m' P A (fR i) (frho RS i) := by
        obtain ⟨a, b, c, d⟩ := hQ.keep i1
        exact ⟨a, b, forC_of (fun r h => (hr r h).congr (fun j a b => i1.1 j (by omega) (by omega))) hnr hin, d⟩
      obtain ⟨ma, s1, s2, s3⟩ := s_begin (q := q') sb200 pb15 (by omega) hQ'.1
      obtain ⟨f2, ⟨mb, qb⟩, e2, j1, j2⟩ := loop_up (fun f' h (s : (Nat → Nat → Int32) × (Nat → Nat → Int64)) => B_X2_fillWinds_33 (B_X2_fillWinds_2 f) f' 13 (nI (gb F (nr + 1))) (nI n) (nI i) (nI h) (KS, s.1, s.2)) (n + 1) (fun h s => Out m' s.1 200 208 ∧ SR P (blk s.1 200) (hoursA P (frho RS i) (-nI 1) h (beginA P))) (by
        intro f' h ⟨mx, qx⟩ hh ⟨j1, j2⟩
        obtain ⟨m2, q2, w1, w2, w3⟩ := tpass (q := qx) (kept := -nI 1) (hQ'.keep (KC.out j1 (by omega) (by omega))) j2 (by rw [hoursA_h]; show 0 + h < 100000; omega)
        refine ⟨(m2, q2), ?_, j1.trans w2, w3⟩
        simp only [B_X2_fillWinds_33]
        simp (disch := omega) only [lit, lt_F, reduceIte, gac_13_3, gac_13_0, gac_14_0, gac_13_4, ob_some, fI_pred, numb_C, w1, nI_add]) (n + 1) 0 mk_fu (ma, q') (by omega) (by rw [mk_fu_eq]; omega) ⟨s2, s3⟩
      have j1 : Out m' mb 200 208 := j1
      have j2 : SR P (blk mb 200) (hoursA P (frho RS i) (-nI 1) (n + 1) (beginA P)) := j2
      obtain ⟨mc, c1, c2, c3⟩ := cp_step (m := mb) (q := qb) (n := 36) (x := nI 36) kk_207 (kk_w i hi) rfl (by omega) (by omega) (by omega)
      refine ⟨(mc, qb), ?_, i1.trans ((KC.out j1 (by omega) (by omega)).trans ⟨fun j h1 h2 => c2 j (by omega), fun k hk => by show mc 13 k = mb 13 k; rw [c2 13 (by omega)]⟩), fun j hj hFj c hc => ?_⟩
      · simp only [B_X2_fillWinds_2]
        simp (disch := omega) only [lit, lt_F, reduceIte, hb, eq_F, gac_13_4, gac_13_0, gac_14_0, ob_some, s1]
        refine Eq.trans e2 ?_
        simp only [B_X2_fillWinds_33, B_X2_fillWinds_92]
        simp (disch := omega) only [lit, lt_T, reduceIte, gac_13_4, gac_200_6, gac_13_9, winds_lda hi, ob_some, c1, nI_add]
      · show mc (213 + j) c = _ ∧ _
        by_cases ej : j = i
        · subst ej
          rw [c3 c (by omega)]
          exact j2.2.2.1 c hc
        · rw [c2 _ (by omega), j1 _ (by omega)]; exact i2 j (by omega) hFj c hc) 7 0 mk_fu (m, q) (by omega) (by rw [mk_fu_eq]; omega) ⟨KC.rf, fun j hj => absurd hj (by omega)⟩
  refine ⟨m1, q1, ?_, i1, i2⟩
  unfold F_X2_fillWinds
  simp only [gdc_13, lit]
  refine Eq.trans e ?_
  simp only [B_X2_fillWinds_2]
  simp (disch := omega) only [lit, lt_T, reduceIte]
set_option maxRecDepth 4000 in
theorem mostC {m : Nat → Nat → Int32} {q : Nat → Nat → Int64} {F : Nat → Bool} {w : Nat → Nat} {nr c : Nat} (hnr : nr ≤ 6) (hF : ∀ i, nr < i → F i = false) (hc : c < 36) (hw : ∀ i, i < 7 → F i = true → m (213 + i) c = nI (w i) ∧ w i ≤ 600) : F_X2_mostAlike 13 (nI (gb F (nr + 1))) (nI c) (KS, m, q) = some (nI (mE F (fun i => cE F w (w i) (nr + 1)) (nr + 1)), (KS, m, q)) := by
  have h128 : gb F (nr + 1) < 128 := Nat.lt_of_lt_of_le (gb_lt F _) (by
    have : 2 ^ (nr + 1) ≤ 2 ^ 7 := Nat.pow_le_pow_right (by omega) (by omega)
    exact this)
  have hbit : ∀ i, i < 7 → gb F (nr + 1) / 2 ^ i % 2 = if F i then 1 else 0 := fun i hi => by
    by_cases hin : i < nr + 1
    · exact gb_bit F _ i hin
    · rw [hF i (by omega), Nat.div_eq_of_lt (Nat.lt_of_lt_of_le (gb_lt F _) (Nat.pow_le_pow_right (by omega) (by omega)))]; rfl
  have hx7 : ∀ v, cE F w v 7 = cE F w v (nr + 1) := fun v => by
    have := cE_ext (F := F) (w := w) (v := v) (n := nr + 1) (fun i hi => hF i (by omega)) (6 - nr)
    rw [show nr + 1 + (6 - nr) = 7 by omega] at this; exact this
  obtain ⟨f1, y, e, i1⟩ := loop_up (fun f i (y : Int32) => B_X2_mostAlike_5 f 13 (nI (gb F (nr + 1))) (nI c) y (nI i) (KS, m, q)) 7 (fun i y => y = nI (mE F (fun i => cE F w (w i) (nr + 1)) i)) (by
    intro f i y hi i1
    subst i1
    have hml : mE F (fun i => cE F w (w i) (nr + 1)) i ≤ nr + 1 := mE_le (fun i => cE_le _) _
    obtain ⟨f2, z, e2, j1⟩ := loop_up (fun f' j (z : Int32) => B_X2_mostAlike_18 (B_X2_mostAlike_5 f) f' 13 (nI (gb F (nr + 1))) (nI c) (nI (mE F (fun i => cE F w (w i) (nr + 1)) i)) (nI i) z (nI j) (KS, m, q)) 7 (fun j z => z = nI (if F i then cE F w (w i) j else 0)) (by
      intro f' j z hj j1
      subst j1
      refine ⟨nI (if F i then cE F w (w i) (j + 1) else 0), ?_, rfl⟩
      have hb := bit_two _ h128 i hi j hj
      rw [hbit i hi, hbit j hj] at hb
      simp only [B_X2_mostAlike_18, B_X2_mostAlike_44, B_X2_mostAlike_75]
      simp (disch := omega) only [lit, lt_F, reduceIte, hb]
      cases hFi : F i with
      | false => simp (disch := omega) only [Bool.false_eq_true, if_false, Nat.zero_mul, eq_T, reduceIte, nI_add]
      | true =>
        rw [cE]
        cases hFj : F j with
        | false => simp (disch := omega) only [Bool.false_eq_true, if_false, if_true, false_and, Nat.mul_zero, Nat.add_zero, eq_T, reduceIte, nI_add]
        | true =>
          obtain ⟨a1, a2⟩ := hw i hi hFi
          obtain ⟨b1, b2⟩ := hw j hj hFj
          have l1 : mk_ld 100 (KS, m, q) (213 + i) (nI c) = some (nI (w i)) := by rw [ld_ok (kk_w i hi) (by omega) hc (by omega), a1]
          have l2 : mk_ld 100 (KS, m, q) (213 + j) (nI c) = some (nI (w j)) := by rw [ld_ok (kk_w j hj) (by omega) hc (by omega), b1]
          by_cases hv : w j = w i
          · simp (disch := omega) only [if_true, true_and, hv, Nat.mul_one, eq_F, reduceIte, gac_13_9, winds_lda hi, winds_lda hj, ob_some, l1, l2, eq_T, nI_add]
          · simp (disch := omega) only [if_true, true_and, hv, if_false, Nat.add_zero, Nat.mul_one, eq_F, reduceIte, gac_13_9, winds_lda hi, winds_lda hj, ob_some, l1, l2, nI_add]) 7 0 mk_fu (nI 0) (by omega) (by rw [mk_fu_eq]; omega) (by split <;> rfl)
    subst j1
    refine ⟨nI (mE F (fun i => cE F w (w i) (nr + 1)) (i + 1)), ?_, rfl⟩
    simp only [B_X2_mostAlike_5]
    simp (disch := omega) only [lit, lt_F, reduceIte]
    refine Eq.trans e2 ?_
    simp only [B_X2_mostAlike_18]
    rw [hx7]
    have hcl := cE_le (F := F) (w := w) (v := w i) (nr + 1)
    rw [nI_max (by omega) (by split <;> omega)]
    simp (disch := omega) only [lit, lt_T, reduceIte, nI_add]
    rfl) 7 0 mk_fu (nI 0) (by omega) (by rw [mk_fu_eq]; omega) rfl
  have hm7 := mE_ext (F := F) (g := fun i => cE F w (w i) (nr + 1)) (n := nr + 1) (fun i hi => hF i (by omega)) (6 - nr)
  rw [show nr + 1 + (6 - nr) = 7 by omega] at hm7
  subst i1
  unfold F_X2_mostAlike
  simp only [gdc_13, lit]
  refine Eq.trans e ?_
  simp only [B_X2_mostAlike_5]
  simp (disch := omega) only [lit, lt_T, reduceIte, hm7]
set_option maxRecDepth 4000 in
theorem mostM {m : Nat → Nat → Int32} {q : Nat → Nat → Int64} {p f : Nat → Nat} {K c : Nat} (hK : K ≤ 7) (hc : c < 36) (hv : ∀ k, k < K → m 1038 (36 * k + c) = nI (p (f k)) ∧ p (f k) ≤ 600) : F_X12_mostAlike 996 (nI c) (nI K) (KS, m, q) = some (nI (mS (fun i => cS p 0 (p i) f K) f K), (KS, m, q)) := by
  have hcs : ∀ v n, cS p 0 v f n ≤ n := fun v n => by
    induction n with
    | zero => exact Nat.le_refl _
    | succ n ih =>
      show cS p 0 v f n + (if p (f n) = v then 1 else 0) ≤ n + 1
      split <;> omega
  have hms : ∀ n, mS (fun i => cS p 0 (p i) f K) f n ≤ K := fun n => by
    induction n with
    | zero => exact Nat.zero_le _
    | succ n ih =>
      have := hcs (p (f n)) K
      show max (mS (fun i => cS p 0 (p i) f K) f n) (cS p 0 (p (f n)) f K) ≤ K
      omega
  obtain ⟨f1, y, e, i1⟩ := loop_up (fun fu i (y : Int32) => B_X12_mostAlike_5 fu 996 (nI c) (nI K) y (nI i) (KS, m, q)) K (fun i y => y = nI (mS (fun i => cS p 0 (p i) f K) f i)) (by
    intro fu i y hi i1
    subst i1
    obtain ⟨f2, z, e2, j1⟩ := loop_up (fun f' j (z : Int32) => B_X12_mostAlike_17 (B_X12_mostAlike_5 fu) f' 996 (nI c) (nI K) (nI (mS (fun i => cS p 0 (p i) f K) f i)) (nI i) z (nI j) (KS, m, q)) K (fun j z => z = nI (cS p 0 (p (f i)) f j)) (by
      intro f' j z hj j1
      subst j1
      refine ⟨nI (cS p 0 (p (f i)) f (j + 1)), ?_, rfl⟩
      obtain ⟨a1, a2⟩ := hv i hi
      obtain ⟨b1, b2⟩ := hv j hj
      simp only [B_X12_mostAlike_17, B_X12_mostAlike_57]
      simp (disch := omega) only [lit, le_F, reduceIte, gam_59, ob_some, pk_mul, nI_add, ldm_1038, a1, b1]
      rw [cS]
      by_cases h : p (f j) = p (f i)
      · simp (disch := omega) only [h, eq_T, reduceIte, nI_add]
      · simp (disch := omega) only [h, eq_F, reduceIte, nI_add, Nat.add_zero]) K 0 mk_fu (nI 0) (by omega) (by rw [mk_fu_eq]; omega) rfl
    subst j1
    have h1 := hms i
    have h2 := hcs (p (f i)) K
    refine ⟨nI (mS (fun i => cS p 0 (p i) f K) f (i + 1)), ?_, rfl⟩
    simp only [B_X12_mostAlike_5]
    simp (disch := omega) only [lit, le_F, reduceIte]
    refine Eq.trans e2 ?_
    simp only [B_X12_mostAlike_17, B_X12_mostAlike_78]
    rw [mS]
    by_cases h : cS p 0 (p (f i)) f K ≤ mS (fun i => cS p 0 (p i) f K) f i
    · rw [show max (mS (fun i => cS p 0 (p i) f K) f i) (cS p 0 (p (f i)) f K) = mS (fun i => cS p 0 (p i) f K) f i by omega]
      simp (disch := omega) only [lit, le_T, reduceIte, nI_add]
    · rw [show max (mS (fun i => cS p 0 (p i) f K) f i) (cS p 0 (p (f i)) f K) = cS p 0 (p (f i)) f K by omega]
      simp (disch := omega) only [lit, le_T, le_F, reduceIte, nI_add]) K 0 mk_fu (nI 0) (by omega) (by rw [mk_fu_eq]; omega) rfl
  subst i1
  unfold F_X12_mostAlike
  simp only [gdm, lit]
  refine Eq.trans e ?_
  simp only [B_X12_mostAlike_5]
  simp (disch := omega) only [lit, le_T, reduceIte]
def bsI (al : Nat → Nat) : Nat → Nat
  | 0 => 0
  | i + 1 => if al (bsI al i) ≤ al i then bsI al i else i
set_option maxRecDepth 4000 in
theorem bsI_lt {al : Nat → Nat} : ∀ n, bsI al (n + 1) ≤ n
  | 0 => by
    show (if al 0 ≤ al 0 then 0 else 0) ≤ 0
    split <;> omega
  | n + 1 => by
    have := bsI_lt (al := al) n
    show (if al (bsI al (n + 1)) ≤ al (n + 1) then bsI al (n + 1) else n + 1) ≤ n + 1
    split <;> omega
set_option maxRecDepth 4000 in
theorem showRow {k40 : Nat → Int32 → Int32 → Int32 → Int32 → mk_S → Option (Int32 × mk_S)} {q : Nat → Nat → Int64} {x2 x4 : Int32} {n K : Nat} (m0 : Nat → Nat → Int32) (hn : n ≤ 60) (hK : K < 7) : ∃ m1, B_X12_look_61 k40 mk_fu 996 (nI n) x2 (nI K) x4 (nI 0) (KS, m0, q) = k40 996 (nI n) x2 (nI (K + 1)) (x4 + nI 1) (KS, m1, q) ∧ (∀ i, i ≠ 1038 → m1 i = m0 i) ∧ (∀ c, c < 36 → m1 1038 (36 * K + c) = m0 1037 (36 * n + c)) ∧ (∀ c, c < 36 * K → m1 1038 c = m0 1038 c) := by
  obtain ⟨f1, m1, e, i1, i2, i3⟩ := loop_up (fun f i (m : Nat → Nat → Int32) => B_X12_look_61 k40 f 996 (nI n) x2 (nI K) x4 (nI i) (KS, m, q)) 36 (fun i m => (∀ j, j ≠ 1038 → m j = m0 j) ∧ (∀ c, c < i → m 1038 (36 * K + c) = m0 1037 (36 * n + c)) ∧ (∀ c, c < 36 * K → m 1038 c = m0 1038 c)) (by
    intro f i m hi ⟨i1, i2, i3⟩
    have e4 : m 1037 (36 * n + i) = m0 1037 (36 * n + i) := by rw [i1 _ (by omega)]
    refine ⟨mk_u2 m 1038 (36 * K + i) (m0 1037 (36 * n + i)), ?_, fun j hj => ?_, fun c hc => ?_, fun c hc => ?_⟩
    · simp only [B_X12_look_61]
      simp (disch := omega) only [lit, le_F, reduceIte, gam_58, gam_59, ob_some, pk_mul, nI_add, ldm_1037, e4, stm_1038]
    · rw [mk_u2_ne hj]; exact i1 j hj
    · by_cases h : c = i
      · subst h; exact u2_s
      · rw [u2_b (by omega)]; exact i2 c (by omega)
    · rw [u2_b (by omega)]; exact i3 c hc) 36 0 mk_fu m0 (by omega) (by rw [mk_fu_eq]; omega) ⟨fun _ _ => rfl, fun _ h => absurd h (by omega), fun _ _ => rfl⟩
  refine ⟨m1, ?_, i1, i2, i3⟩
  refine Eq.trans e ?_
  simp only [B_X12_look_61, B_X12_look_101]
  simp (disch := omega) only [lit, le_T, reduceIte, nI_add]
