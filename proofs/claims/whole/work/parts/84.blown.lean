/-! who can have blown -/
set_option maxRecDepth 4000 in
theorem has_ok {o k : Nat} (ho : o < 128) (hk : k < 16) (t : mk_S) : F_X12_has (nI o) (nI k) t = some (nI (o / 2 ^ k % 2), t) := by
  unfold F_X12_has
  have h := bit_sh0 o ho k hk
  simp only [lit, h]
  rcases (show o / 2 ^ k % 2 = 0 ∨ o / 2 ^ k % 2 = 1 by omega) with e | e <;> rw [e]
  · simp (disch := omega) only [eq_F, reduceIte, rz0]
  · simp (disch := omega) only [eq_T, reduceIte, rz1]
set_option maxRecDepth 4000 in
theorem and64 : ∀ a, a < 64 → ∀ b, b < 64 → nI a &&& nI b = nI (a &&& b) ∧ a &&& b < 64 := by decide +kernel
set_option maxRecDepth 4000 in
theorem full64 : ∀ n, n < 7 → (nI 1 : Int32) <<< (nI n &&& nI 31) = nI (2 ^ n) ∧ 2 ^ n ≤ 64 ∧ 0 < 2 ^ n ∧ ∀ s, s < 64 → s < 2 ^ n → nI (2 ^ n - 1) &&& nI s = nI s := by decide +kernel
def ssum (sh : Nat → Nat) (s : Nat) : Nat → Nat
  | 0 => 0
  | p + 1 => ssum sh s p + if s / 2 ^ p % 2 = 1 then sh p else 0
set_option maxRecDepth 4000 in
theorem ssum_le {sh : Nat → Nat} {s N : Nat} (h : ∀ p, p < N → sh p ≤ 99) : ∀ n, n ≤ N → ssum sh s n ≤ 99 * n
  | 0, _ => Nat.le_refl _
  | n + 1, hn => by
    have ih := ssum_le (s := s) h n (by omega)
    have := h n (by omega)
    show ssum sh s n + (if s / 2 ^ n % 2 = 1 then sh n else 0) ≤ _
    split <;> omega
set_option maxRecDepth 4000 in
theorem ssum_ext {sh : Nat → Nat} {s N : Nat} (hs : s < 2 ^ N) : ∀ d, ssum sh s (N + d) = ssum sh s N
  | 0 => rfl
  | d + 1 => by
    have ih := ssum_ext (sh := sh) hs d
    have h0 : s / 2 ^ (N + d) = 0 := Nat.div_eq_of_lt (Nat.lt_of_lt_of_le hs (Nat.pow_le_pow_right (by omega) (by omega)))
    show ssum sh s (N + d) + (if s / 2 ^ (N + d) % 2 = 1 then sh (N + d) else 0) = _
    rw [h0, if_neg (by omega), ih]; rfl
set_option maxRecDepth 4000 in
theorem sharesOf_ok {m : Nat → Nat → Int32} {q : Nat → Nat → Int64} {sh : Nat → Nat} {N s : Nat} (hN : N ≤ 6) (hv : ∀ p, p < N → m 209 p = nI (sh p) ∧ sh p ≤ 99) (hs : s < 2 ^ N) (hs2 : s < 64) : F_X2_sharesOf 13 (nI s) (KS, m, q) = some (nI (ssum sh s N), (KS, m, q)) := by
  obtain ⟨f1, y1, e, i1⟩ := loop_up (fun f i (y : Int32) => B_X2_sharesOf_4 f 13 (nI s) y (nI i) (KS, m, q)) 6 (fun i y => y = nI (ssum sh s i)) (by
    intro f i y hi i1
    subst i1
    refine ⟨nI (ssum sh s (i + 1)), ?_, rfl⟩
    have hb := bit_sh0 s (by omega) i (by omega)
    simp only [B_X2_sharesOf_4, B_X2_sharesOf_27]
    simp (disch := omega) only [lit, le_F, reduceIte, hb]
    rw [ssum]
    by_cases c : s / 2 ^ i % 2 = 1
    · have hiN : i < N := by
        refine Nat.lt_of_not_le (fun h => ?_)
        have h0 : s / 2 ^ i = 0 := Nat.div_eq_of_lt (Nat.lt_of_lt_of_le hs (Nat.pow_le_pow_right (by omega) h))
        rw [h0] at c; omega
      rw [if_pos c, c]
      simp (disch := omega) only [eq_F, reduceIte, gac_13_6, ldc_209, ob_some, (hv i hiN).1, nI_add]
    · have c0 : s / 2 ^ i % 2 = 0 := by omega
      rw [if_neg c, c0]
      simp (disch := omega) only [eq_T, reduceIte, nI_add, Nat.add_zero]) 6 0 mk_fu (nI 0) (by omega) (by rw [mk_fu_eq]; omega) rfl
  have ex := ssum_ext (sh := sh) hs (6 - N)
  rw [show N + (6 - N) = 6 by omega] at ex
  subst i1
  unfold F_X2_sharesOf
  simp only [gdc_13, lit]
  refine Eq.trans e ?_
  simp only [B_X2_sharesOf_4]
  simp (disch := omega) only [lit, le_T, reduceIte, ex]
def blF (c : Nat → Bool) : Nat → Option (Nat × Nat × Nat)
  | 0 => none
  | s + 1 => if c s then (match blF c s with
    | none => some (1, s, s)
    | some (n, f, a) => some (n + 1, f, a &&& s)) else blF c s
set_option maxRecDepth 4000 in
theorem blF_succ {c : Nat → Bool} {s : Nat} : blF c (s + 1) = if c s then (match blF c s with
    | none => some (1, s, s)
    | some (n, f, a) => some (n + 1, f, a &&& s)) else blF c s := rfl
def blC (N : Nat) (o : Option (Nat × Nat × Nat)) (x y z : Int32) (s : Nat) : Prop := match o with
  | none => x = nI 0 ∧ y = -nI 2 ∧ z = nI (2 ^ N - 1)
  | some (n, f, a) => x = nI n ∧ y = nI f ∧ z = nI a ∧ a < 64 ∧ 0 < n ∧ n ≤ s
def blM (o : Option (Nat × Nat × Nat)) (x y z : Int32) (s : Nat) : Prop := match o with
  | none => x = nI 0 ∧ y = -nI 2 ∧ z = nI 0
  | some (n, f, a) => x = nI n ∧ y = nI f ∧ z = nI a ∧ a < 64 ∧ 0 < n ∧ n ≤ s
def blAns (o : Option (Nat × Nat × Nat)) (k : Nat) : Int32 := match o with
  | none => if k = 1 then -nI 2 else nI 0
  | some (n, f, a) => if k = 0 then nI n else if k = 1 then nI f else nI a
abbrev BlS : Type := Int32 × Int32 × Int32
set_option maxRecDepth 4000 in
theorem blownC {m : Nat → Nat → Int32} {q : Nat → Nat → Int64} {sh : Nat → Nat} {N w k : Nat} (hN : N ≤ 6) (hv : ∀ p, p < N → m 209 p = nI (sh p) ∧ sh p ≤ 99) (hw : w ≤ 999) (hk : k ≤ 2) : B_X2_blowers_90 mk_fu 13 (nI w) (nI k) (nI N) (nI 0) (-nI 2) (nI (2 ^ N - 1)) (nI 0) (KS, m, q) = some (blAns (blF (fun s => decide (ssum sh s N = w)) (2 ^ N)) k, (KS, m, q)) := by
  obtain ⟨g1, g2, g3, g4⟩ := full64 N (by omega)
  obtain ⟨f1, ⟨y1, y2, y3⟩, e, i1⟩ := loop_up (fun f i (s : BlS) => B_X2_blowers_90 f 13 (nI w) (nI k) (nI N) s.1 s.2.1 s.2.2 (nI i) (KS, m, q)) (2 ^ N) (fun i s => blC N (blF (fun s => decide (ssum sh s N = w)) i) s.1 s.2.1 s.2.2 i) (by
    intro f s ⟨y1, y2, y3⟩ hs i1
    have hss := sharesOf_ok (q := q) hN hv hs (by omega)
    have hsl := ssum_le (s := s) (fun p hp => (hv p hp).2) N (Nat.le_refl _)
    simp only [B_X2_blowers_90, B_X2_blowers_133, B_X2_blowers_121]
    simp (disch := omega) only [lit, g1, le_F, reduceIte, hss, ob_some]
    rw [blF_succ]
    by_cases c : ssum sh s N = w
    · rw [if_pos (decide_eq_true c)]
      cases hb : blF (fun s => decide (ssum sh s N = w)) s with
      | none =>
        rw [hb] at i1
        obtain ⟨x1, x2, x3⟩ := i1
        have x1 : y1 = _ := x1
        have x2 : y2 = _ := x2
        have x3 : y3 = _ := x3
        subst x1 x2 x3
        refine ⟨(nI 1, nI s, nI s), ?_, rfl, rfl, rfl, by omega, by omega, by omega⟩
        simp (disch := omega) only [c, eq_T, reduceIte, nI_add, g4 s (by omega) hs]
      | some z =>
        obtain ⟨n, f0, a⟩ := z
        rw [hb] at i1
        obtain ⟨x1, x2, x3, x4, x5, x6⟩ := i1
        have x1 : y1 = _ := x1
        have x2 : y2 = _ := x2
        have x3 : y3 = _ := x3
        subst x1 x2 x3
        obtain ⟨a1, a2⟩ := and64 a x4 s (by omega)
        refine ⟨(nI (n + 1), nI f0, nI (a &&& s)), ?_, rfl, rfl, rfl, a2, by omega, by omega⟩
        simp (disch := omega) only [c, eq_T, eq_F, reduceIte, nI_add, a1]
    · rw [if_neg (show ¬ decide (ssum sh s N = w) = true by rw [decide_eq_true_iff]; exact c)]
      refine ⟨(y1, y2, y3), ?_, ?_⟩
      · simp (disch := omega) only [eq_F, reduceIte, nI_add]
      · revert i1
        cases blF (fun s => decide (ssum sh s N = w)) s with
        | none => exact fun h => h
        | some z => exact fun ⟨a, b, c, d, e, f⟩ => ⟨a, b, c, d, e, by omega⟩) (2 ^ N) 0 mk_fu (nI 0, -nI 2, nI (2 ^ N - 1)) (by omega) (by rw [mk_fu_eq]; omega) ⟨rfl, rfl, rfl⟩
  refine Eq.trans e ?_
  simp only [B_X2_blowers_90]
  revert i1
  cases blF (fun s => decide (ssum sh s N = w)) (2 ^ N) with
  | none =>
    rintro ⟨x1, x2, x3⟩
    have x1 : y1 = _ := x1
    have x2 : y2 = _ := x2
    have x3 : y3 = _ := x3
    subst x1 x2 x3
    rcases (show k = 0 ∨ k = 1 ∨ k = 2 by omega) with ek | ek | ek <;> subst ek <;> simp (disch := omega) only [lit, g1, le_T, reduceIte, eq_T, eq_F] <;> rfl
  | some z =>
    obtain ⟨n, f0, a⟩ := z
    rintro ⟨x1, x2, x3, x4, x5, x6⟩
    have x1 : y1 = _ := x1
    have x2 : y2 = _ := x2
    have x3 : y3 = _ := x3
    subst x1 x2 x3
    rcases (show k = 0 ∨ k = 1 ∨ k = 2 by omega) with ek | ek | ek <;> subst ek <;> simp (disch := omega) only [lit, g1, le_T, reduceIte, eq_T, eq_F] <;> rfl
set_option maxRecDepth 4000 in
theorem blownM {m : Nat → Nat → Int32} {q : Nat → Nat → Int64} {sh : Nat → Nat} {N w k c0 : Nat} (hN : N ≤ 6) (h2 : m 997 2 = nI N) (hsh : ∀ p, p < N → F_X12_puffIn 996 (nI p) (nI c0) (KS, m, q) = some (nI (sh p), (KS, m, q)) ∧ sh p ≤ 99) (hw : w ≤ 999) (hk : k ≤ 2) : B_X12_blown_48 mk_fu 996 (nI c0) (nI w) (nI k) (nI 0) (-nI 2) (nI 0) (nI 0) (KS, m, q) = some (blAns (blF (fun s => decide (ssum sh s N = w)) (2 ^ N)) k, (KS, m, q)) := by
  obtain ⟨g1, g2, g3, g4⟩ := full64 N (by omega)
  obtain ⟨f1, ⟨y1, y2, y3⟩, e, i1⟩ := loop_up (fun f i (s : BlS) => B_X12_blown_48 f 996 (nI c0) (nI w) (nI k) s.1 s.2.1 s.2.2 (nI i) (KS, m, q)) (2 ^ N) (fun i s => blM (blF (fun s => decide (ssum sh s N = w)) i) s.1 s.2.1 s.2.2 i) (by
    intro f s ⟨y1, y2, y3⟩ hs i1
    have hsl := ssum_le (s := s) (fun p hp => (hsh p hp).2) N (Nat.le_refl _)
    obtain ⟨f2, z1, e2, j1⟩ := loop_up (fun f' i (z : Int32) => B_X12_blown_67 (B_X12_blown_48 f) f' 996 (nI c0) (nI w) (nI k) y1 y2 y3 (nI s) z (nI i) (KS, m, q)) N (fun i z => z = nI (ssum sh s i)) (by
      intro f' p z hp j1
      subst j1
      refine ⟨nI (ssum sh s (p + 1)), ?_, rfl⟩
      simp only [B_X12_blown_67, B_X12_blown_101]
      simp (disch := omega) only [lit, gam_1, ldm_997, ob_some, h2, le_F, reduceIte, has_ok]
      rw [ssum]
      by_cases c : s / 2 ^ p % 2 = 1
      · rw [if_pos c, c]
        simp (disch := omega) only [eq_F, reduceIte, ob_some, (hsh p hp).1, nI_add]
      · have c0 : s / 2 ^ p % 2 = 0 := by omega
        rw [if_neg c, c0]
        simp (disch := omega) only [eq_T, reduceIte, nI_add, Nat.add_zero]) N 0 mk_fu (nI 0) (by omega) (by rw [mk_fu_eq]; omega) rfl
    subst j1
    rw [B_X12_blown_48]
    simp (disch := omega) only [lit, gam_1, ldm_997, ob_some, h2, g1, le_F, reduceIte]
    rw [blF_succ]
    by_cases c : ssum sh s N = w
    · rw [if_pos (decide_eq_true c)]
      cases hb : blF (fun s => decide (ssum sh s N = w)) s with
      | none =>
        rw [hb] at i1
        obtain ⟨x1, x2, x3⟩ := i1
        have x1 : y1 = _ := x1
        have x2 : y2 = _ := x2
        have x3 : y3 = _ := x3
        subst x1 x2 x3
        refine ⟨(nI 1, nI s, nI s), ?_, rfl, rfl, rfl, by omega, by omega, by omega⟩
        refine Eq.trans e2 ?_
        simp only [B_X12_blown_67, B_X12_blown_128, B_X12_blown_145, B_X12_blown_150]
        simp (disch := omega) only [lit, gam_1, ldm_997, ob_some, h2, le_T, c, eq_T, reduceIte, nI_add]
      | some z =>
        obtain ⟨n, f0, a⟩ := z
        rw [hb] at i1
        obtain ⟨x1, x2, x3, x4, x5, x6⟩ := i1
        have x1 : y1 = _ := x1
        have x2 : y2 = _ := x2
        have x3 : y3 = _ := x3
        subst x1 x2 x3
        obtain ⟨a1, a2⟩ := and64 a x4 s (by omega)
        refine ⟨(nI (n + 1), nI f0, nI (a &&& s)), ?_, rfl, rfl, rfl, a2, by omega, by omega⟩
        refine Eq.trans e2 ?_
        simp only [B_X12_blown_67, B_X12_blown_128, B_X12_blown_145, B_X12_blown_150]
        simp (disch := omega) only [lit, gam_1, ldm_997, ob_some, h2, le_T, c, eq_T, eq_F, reduceIte, nI_add, a1]
    · rw [if_neg (show ¬ decide (ssum sh s N = w) = true by rw [decide_eq_true_iff]; exact c)]
      refine ⟨(y1, y2, y3), ?_, ?_⟩
      · refine Eq.trans e2 ?_
        simp only [B_X12_blown_67, B_X12_blown_150]
        simp (disch := omega) only [lit, gam_1, ldm_997, ob_some, h2, le_T, eq_F, reduceIte, nI_add]
      · revert i1
        cases blF (fun s => decide (ssum sh s N = w)) s with
        | none => exact fun h => h
        | some z => exact fun ⟨a, b, c, d, e, f⟩ => ⟨a, b, c, d, e, by omega⟩) (2 ^ N) 0 mk_fu (nI 0, -nI 2, nI 0) (by omega) (by rw [mk_fu_eq]; omega) ⟨rfl, rfl, rfl⟩
  refine Eq.trans e ?_
  simp only [B_X12_blown_48]
  revert i1
  cases blF (fun s => decide (ssum sh s N = w)) (2 ^ N) with
  | none =>
    rintro ⟨x1, x2, x3⟩
    have x1 : y1 = _ := x1
    have x2 : y2 = _ := x2
    have x3 : y3 = _ := x3
    subst x1 x2 x3
    rcases (show k = 0 ∨ k = 1 ∨ k = 2 by omega) with ek | ek | ek <;> subst ek <;> simp (disch := omega) only [lit, gam_1, ldm_997, ob_some, h2, g1, le_T, reduceIte, eq_T, eq_F] <;> rfl
  | some z =>
    obtain ⟨n, f0, a⟩ := z
    rintro ⟨x1, x2, x3, x4, x5, x6⟩
    have x1 : y1 = _ := x1
    have x2 : y2 = _ := x2
    have x3 : y3 = _ := x3
    subst x1 x2 x3
    rcases (show k = 0 ∨ k = 1 ∨ k = 2 by omega) with ek | ek | ek <;> subst ek <;> simp (disch := omega) only [lit, gam_1, ldm_997, ob_some, h2, g1, le_T, reduceIte, eq_T, eq_F] <;> rfl
set_option maxRecDepth 4000 in
theorem op_blown (x1 x2 x3 : Int32) : OP (F_X11_blown 0 x1 x2 x3) (F_X12_blown 996 x1 x2 x3) := by
  intro m q hI
  obtain ⟨⟨⟨⟨len, by_⟩, ⟨nr, RS⟩, ⟨P, A, H, n, N, nn, fo, x⟩, IM, md⟩, hC, hM⟩, hE⟩ := id hI
  obtain ⟨⟨ct1, ct2, ct3⟩, ⟨cr1, cr2, cr3⟩, ⟨⟨cP, ⟨cA, cAh⟩, cH, ⟨cn1, cn2⟩, ⟨cf1, cf2⟩, ⟨cx1, cx2⟩⟩, cwf⟩, cm1, cm2⟩ := id hC
  obtain ⟨⟨mt1, mt2⟩, ⟨mr1, mr2⟩, ⟨mP, ⟨mA, mAh⟩, ⟨mh1, mh2, mh3⟩, ⟨mn1, mn2⟩, ⟨mf1, mf2⟩, ⟨mx1, mx2⟩⟩, mm1, mm2, mw, ms⟩ := id hM
  have cP5 : m 15 0 = nI (P 0 0) ∧ m 15 1 = nI (P 0 1) ∧ m 15 2 = nI (P 0 2) ∧ m 15 3 = nI (P 0 3) ∧ m 15 4 = nI (P 0 4) := cP.five
  have mP5 : m 997 0 = nI (P 0 0) ∧ m 997 1 = nI (P 0 1) ∧ m 997 2 = nI (P 0 2) ∧ m 997 3 = nI (P 0 3) ∧ m 997 4 = nI (P 0 4) := mP.five
  obtain ⟨B0, B1, B2, B3, B4, B5⟩ := cP.bd
  rcases within_C x1 0 (P 0 0 * P 0 0) (by omega) (by omega) with ⟨c, -, hc, rfl⟩ | hno
  rotate_left
  · refine ⟨-nI 3, m, q, m, q, ?_, ?_, hI, fun _ _ => rfl⟩
    · unfold F_X11_blown; simp (disch := omega) only [ob_some, reduceIte, lit, le_T, le_F, lt_T, lt_F, eq_T, eq_F, nI_add, gac_0_0, gac_0_1, gac_0_2, gac_0_3, gac_0_4, gac_0_5, gac_0_6, gac_1_0, gic_1_1, gic_1_2, gic_1_3, gic_1_4, gic_1_5, gic_1_6, gac_3_0, gic_3_1, gic_3_2, gic_3_3, gic_3_4, gic_3_5, gic_3_6, gic_3_7, gic_5_0, gic_5_1, gic_5_2, gic_5_3, gic_5_4, gac_5_5, gac_5_6, gac_5_7, gac_5_8, gac_5_9, gac_5_10, gac_5_11, gac_13_0, gac_13_1, gic_13_2, gac_13_3, gac_13_4, gac_13_5, gac_13_6, gac_13_7, gac_13_8, gac_13_9, gic_13_10, gic_13_11, gic_13_12, gic_13_13, gac_14_0, gac_14_1, gac_14_2, gac_14_3, gic_14_4, gic_14_5, gic_15_0, gic_15_1, gic_15_2, gic_15_3, gic_15_4, gac_15_5, gac_15_6, gac_15_7, gac_15_8, gac_15_9, gac_15_10, gac_15_11, gac_23_0, gac_23_1, gac_23_2, gac_23_3, gac_23_4, gac_23_5, gac_23_6, gic_23_7, gic_23_8, gac_31_0, gic_31_1, gic_31_2, gac_193_0, gac_193_1, gac_193_2, gic_193_3, gac_198_0, gac_200_0, gac_200_1, gac_200_2, gac_200_3, gac_200_4, gac_200_5, gac_200_6, gic_200_7, gic_200_8, pic_1_1, pic_1_2, pic_1_3, pic_1_4, pic_1_5, pic_1_6, pic_3_1, pic_3_2, pic_3_3, pic_3_4, pic_3_5, pic_3_6, pic_3_7, pic_5_0, pic_5_1, pic_5_2, pic_5_3, pic_5_4, pic_13_2, pic_13_10, pic_13_11, pic_13_12, pic_13_13, pic_14_4, pic_14_5, pic_15_0, pic_15_1, pic_15_2, pic_15_3, pic_15_4, pic_23_7, pic_23_8, pic_31_1, pic_31_2, pic_193_3, pic_200_7, pic_200_8, gdc_0, gdc_1, gdc_3, gdc_5, gdc_13, gdc_14, gdc_15, gdc_23, gdc_31, gdc_193, gdc_198, gdc_200, ldc_2, stc_2, ldc_4, stc_4, ldc_6, stc_6, ldc_7, stc_7, ldc_8, stc_8, ldc_9, stc_9, ldc_10, stc_10, ldc_11, stc_11, ldc_12, stc_12, ldc_16, stc_16, ldc_17, stc_17, ldc_18, stc_18, ldc_19, stc_19, ldc_20, stc_20, ldc_21, stc_21, ldc_22, stc_22, ldc_24, stc_24, ldc_25, stc_25, ldc_26, stc_26, ldc_27, stc_27, ldc_28, stc_28, ldc_29, stc_29, ldc_30, stc_30, ldc_194, stc_194, ldc_195, stc_195, ldc_196, stc_196, ldc_199, stc_199, ldc_201, stc_201, ldc_202, stc_202, ldc_203, stc_203, ldc_204, stc_204, ldc_205, stc_205, ldc_206, stc_206, ldc_207, stc_207, ldc_208, stc_208, ldc_209, stc_209, ldc_210, stc_210, ldc_211, stc_211, ldc_213, stc_213, ldc_214, stc_214, ldc_215, stc_215, ldc_216, stc_216, ldc_217, stc_217, ldc_218, stc_218, ldc_219, stc_219, ldc_263, stc_263, lda_197, lda_262, lda_212, lda_32, u2_s, u2_a, u2_b, isCel_C cP5.1, hno]
    · unfold F_X12_blown; simp (disch := omega) only [gdm, gam_1, gam_2, gam_3, gam_4, gam_5, gam_6, gam_7, gam_8, gam_9, gam_10, gam_11, gam_12, gam_13, gam_14, gam_15, gam_16, gam_17, gam_18, gam_19, gam_20, gam_21, gam_22, gam_23, gam_24, gam_25, gam_26, gam_37, gam_38, gam_39, gam_40, gam_41, gam_42, gam_43, gam_44, gam_45, gam_46, gam_48, gam_49, gam_56, gam_57, gam_58, gam_59, gam_60, gam_61, gim_27, gim_28, gim_29, gim_30, gim_31, gim_32, gim_33, gim_34, gim_35, gim_36, gim_47, gim_50, gim_51, gim_52, gim_53, gim_54, gim_55, gim_62, gim_63, ob_some, reduceIte, lit, le_T, le_F, lt_T, lt_F, eq_T, eq_F, nI_add, ldm_997, stm_997, ldm_998, stm_998, ldm_999, stm_999, ldm_1000, stm_1000, ldm_1001, stm_1001, ldm_1002, stm_1002, ldm_1003, stm_1003, ldm_1004, stm_1004, ldm_1005, stm_1005, ldm_1006, stm_1006, ldm_1007, stm_1007, ldm_1008, stm_1008, ldm_1009, stm_1009, ldm_1010, stm_1010, ldm_1011, stm_1011, ldm_1012, stm_1012, ldm_1013, stm_1013, ldm_1014, stm_1014, ldm_1015, stm_1015, ldm_1016, stm_1016, ldm_1017, stm_1017, ldm_1018, stm_1018, ldm_1019, stm_1019, ldm_1020, stm_1020, ldm_1021, stm_1021, ldm_1022, stm_1022, u2_s, u2_a, u2_b, not_true, not_false_iff, isCel_M mP5.1, hno]
  rcases within_CL x2 0 999 (by omega) (by omega) with ⟨w, -, hw, rfl⟩ | hno
  rotate_left
  · refine ⟨-nI 3, m, q, m, q, ?_, ?_, hI, fun _ _ => rfl⟩
    · unfold F_X11_blown; simp (disch := omega) only [ob_some, reduceIte, lit, le_T, le_F, lt_T, lt_F, eq_T, eq_F, nI_add, gac_0_0, gac_0_1, gac_0_2, gac_0_3, gac_0_4, gac_0_5, gac_0_6, gac_1_0, gic_1_1, gic_1_2, gic_1_3, gic_1_4, gic_1_5, gic_1_6, gac_3_0, gic_3_1, gic_3_2, gic_3_3, gic_3_4, gic_3_5, gic_3_6, gic_3_7, gic_5_0, gic_5_1, gic_5_2, gic_5_3, gic_5_4, gac_5_5, gac_5_6, gac_5_7, gac_5_8, gac_5_9, gac_5_10, gac_5_11, gac_13_0, gac_13_1, gic_13_2, gac_13_3, gac_13_4, gac_13_5, gac_13_6, gac_13_7, gac_13_8, gac_13_9, gic_13_10, gic_13_11, gic_13_12, gic_13_13, gac_14_0, gac_14_1, gac_14_2, gac_14_3, gic_14_4, gic_14_5, gic_15_0, gic_15_1, gic_15_2, gic_15_3, gic_15_4, gac_15_5, gac_15_6, gac_15_7, gac_15_8, gac_15_9, gac_15_10, gac_15_11, gac_23_0, gac_23_1, gac_23_2, gac_23_3, gac_23_4, gac_23_5, gac_23_6, gic_23_7, gic_23_8, gac_31_0, gic_31_1, gic_31_2, gac_193_0, gac_193_1, gac_193_2, gic_193_3, gac_198_0, gac_200_0, gac_200_1, gac_200_2, gac_200_3, gac_200_4, gac_200_5, gac_200_6, gic_200_7, gic_200_8, pic_1_1, pic_1_2, pic_1_3, pic_1_4, pic_1_5, pic_1_6, pic_3_1, pic_3_2, pic_3_3, pic_3_4, pic_3_5, pic_3_6, pic_3_7, pic_5_0, pic_5_1, pic_5_2, pic_5_3, pic_5_4, pic_13_2, pic_13_10, pic_13_11, pic_13_12, pic_13_13, pic_14_4, pic_14_5, pic_15_0, pic_15_1, pic_15_2, pic_15_3, pic_15_4, pic_23_7, pic_23_8, pic_31_1, pic_31_2, pic_193_3, pic_200_7, pic_200_8, gdc_0, gdc_1, gdc_3, gdc_5, gdc_13, gdc_14, gdc_15, gdc_23, gdc_31, gdc_193, gdc_198, gdc_200, ldc_2, stc_2, ldc_4, stc_4, ldc_6, stc_6, ldc_7, stc_7, ldc_8, stc_8, ldc_9, stc_9, ldc_10, stc_10, ldc_11, stc_11, ldc_12, stc_12, ldc_16, stc_16, ldc_17, stc_17, ldc_18, stc_18, ldc_19, stc_19, ldc_20, stc_20, ldc_21, stc_21, ldc_22, stc_22, ldc_24, stc_24, ldc_25, stc_25, ldc_26, stc_26, ldc_27, stc_27, ldc_28, stc_28, ldc_29, stc_29, ldc_30, stc_30, ldc_194, stc_194, ldc_195, stc_195, ldc_196, stc_196, ldc_199, stc_199, ldc_201, stc_201, ldc_202, stc_202, ldc_203, stc_203, ldc_204, stc_204, ldc_205, stc_205, ldc_206, stc_206, ldc_207, stc_207, ldc_208, stc_208, ldc_209, stc_209, ldc_210, stc_210, ldc_211, stc_211, ldc_213, stc_213, ldc_214, stc_214, ldc_215, stc_215, ldc_216, stc_216, ldc_217, stc_217, ldc_218, stc_218, ldc_219, stc_219, ldc_263, stc_263, lda_197, lda_262, lda_212, lda_32, u2_s, u2_a, u2_b, isCel_C cP5.1, within_T, hno]
    · unfold F_X12_blown; simp (disch := omega) only [gdm, gam_1, gam_2, gam_3, gam_4, gam_5, gam_6, gam_7, gam_8, gam_9, gam_10, gam_11, gam_12, gam_13, gam_14, gam_15, gam_16, gam_17, gam_18, gam_19, gam_20, gam_21, gam_22, gam_23, gam_24, gam_25, gam_26, gam_37, gam_38, gam_39, gam_40, gam_41, gam_42, gam_43, gam_44, gam_45, gam_46, gam_48, gam_49, gam_56, gam_57, gam_58, gam_59, gam_60, gam_61, gim_27, gim_28, gim_29, gim_30, gim_31, gim_32, gim_33, gim_34, gim_35, gim_36, gim_47, gim_50, gim_51, gim_52, gim_53, gim_54, gim_55, gim_62, gim_63, ob_some, reduceIte, lit, le_T, le_F, lt_T, lt_F, eq_T, eq_F, nI_add, ldm_997, stm_997, ldm_998, stm_998, ldm_999, stm_999, ldm_1000, stm_1000, ldm_1001, stm_1001, ldm_1002, stm_1002, ldm_1003, stm_1003, ldm_1004, stm_1004, ldm_1005, stm_1005, ldm_1006, stm_1006, ldm_1007, stm_1007, ldm_1008, stm_1008, ldm_1009, stm_1009, ldm_1010, stm_1010, ldm_1011, stm_1011, ldm_1012, stm_1012, ldm_1013, stm_1013, ldm_1014, stm_1014, ldm_1015, stm_1015, ldm_1016, stm_1016, ldm_1017, stm_1017, ldm_1018, stm_1018, ldm_1019, stm_1019, ldm_1020, stm_1020, ldm_1021, stm_1021, ldm_1022, stm_1022, u2_s, u2_a, u2_b, not_true, not_false_iff, isCel_M mP5.1, within_T, in_0_999, hno]
  rcases within_CL x3 0 2 (by omega) (by omega) with ⟨k, -, hk, rfl⟩ | hno
  rotate_left
  · refine ⟨-nI 3, m, q, m, q, ?_, ?_, hI, fun _ _ => rfl⟩
    · unfold F_X11_blown; simp (disch := omega) only [ob_some, reduceIte, lit, le_T, le_F, lt_T, lt_F, eq_T, eq_F, nI_add, gac_0_0, gac_0_1, gac_0_2, gac_0_3, gac_0_4, gac_0_5, gac_0_6, gac_1_0, gic_1_1, gic_1_2, gic_1_3, gic_1_4, gic_1_5, gic_1_6, gac_3_0, gic_3_1, gic_3_2, gic_3_3, gic_3_4, gic_3_5, gic_3_6, gic_3_7, gic_5_0, gic_5_1, gic_5_2, gic_5_3, gic_5_4, gac_5_5, gac_5_6, gac_5_7, gac_5_8, gac_5_9, gac_5_10, gac_5_11, gac_13_0, gac_13_1, gic_13_2, gac_13_3, gac_13_4, gac_13_5, gac_13_6, gac_13_7, gac_13_8, gac_13_9, gic_13_10, gic_13_11, gic_13_12, gic_13_13, gac_14_0, gac_14_1, gac_14_2, gac_14_3, gic_14_4, gic_14_5, gic_15_0, gic_15_1, gic_15_2, gic_15_3, gic_15_4, gac_15_5, gac_15_6, gac_15_7, gac_15_8, gac_15_9, gac_15_10, gac_15_11, gac_23_0, gac_23_1, gac_23_2, gac_23_3, gac_23_4, gac_23_5, gac_23_6, gic_23_7, gic_23_8, gac_31_0, gic_31_1, gic_31_2, gac_193_0, gac_193_1, gac_193_2, gic_193_3, gac_198_0, gac_200_0, gac_200_1, gac_200_2, gac_200_3, gac_200_4, gac_200_5, gac_200_6, gic_200_7, gic_200_8, pic_1_1, pic_1_2, pic_1_3, pic_1_4, pic_1_5, pic_1_6, pic_3_1, pic_3_2, pic_3_3, pic_3_4, pic_3_5, pic_3_6, pic_3_7, pic_5_0, pic_5_1, pic_5_2, pic_5_3, pic_5_4, pic_13_2, pic_13_10, pic_13_11, pic_13_12, pic_13_13, pic_14_4, pic_14_5, pic_15_0, pic_15_1, pic_15_2, pic_15_3, pic_15_4, pic_23_7, pic_23_8, pic_31_1, pic_31_2, pic_193_3, pic_200_7, pic_200_8, gdc_0, gdc_1, gdc_3, gdc_5, gdc_13, gdc_14, gdc_15, gdc_23, gdc_31, gdc_193, gdc_198, gdc_200, ldc_2, stc_2, ldc_4, stc_4, ldc_6, stc_6, ldc_7, stc_7, ldc_8, stc_8, ldc_9, stc_9, ldc_10, stc_10, ldc_11, stc_11, ldc_12, stc_12, ldc_16, stc_16, ldc_17, stc_17, ldc_18, stc_18, ldc_19, stc_19, ldc_20, stc_20, ldc_21, stc_21, ldc_22, stc_22, ldc_24, stc_24, ldc_25, stc_25, ldc_26, stc_26, ldc_27, stc_27, ldc_28, stc_28, ldc_29, stc_29, ldc_30, stc_30, ldc_194, stc_194, ldc_195, stc_195, ldc_196, stc_196, ldc_199, stc_199, ldc_201, stc_201, ldc_202, stc_202, ldc_203, stc_203, ldc_204, stc_204, ldc_205, stc_205, ldc_206, stc_206, ldc_207, stc_207, ldc_208, stc_208, ldc_209, stc_209, ldc_210, stc_210, ldc_211, stc_211, ldc_213, stc_213, ldc_214, stc_214, ldc_215, stc_215, ldc_216, stc_216, ldc_217, stc_217, ldc_218, stc_218, ldc_219, stc_219, ldc_263, stc_263, lda_197, lda_262, lda_212, lda_32, u2_s, u2_a, u2_b, isCel_C cP5.1, within_T, within_TL, hno]
    · unfold F_X12_blown; simp (disch := omega) only [gdm, gam_1, gam_2, gam_3, gam_4, gam_5, gam_6, gam_7, gam_8, gam_9, gam_10, gam_11, gam_12, gam_13, gam_14, gam_15, gam_16, gam_17, gam_18, gam_19, gam_20, gam_21, gam_22, gam_23, gam_24, gam_25, gam_26, gam_37, gam_38, gam_39, gam_40, gam_41, gam_42, gam_43, gam_44, gam_45, gam_46, gam_48, gam_49, gam_56, gam_57, gam_58, gam_59, gam_60, gam_61, gim_27, gim_28, gim_29, gim_30, gim_31, gim_32, gim_33, gim_34, gim_35, gim_36, gim_47, gim_50, gim_51, gim_52, gim_53, gim_54, gim_55, gim_62, gim_63, ob_some, reduceIte, lit, le_T, le_F, lt_T, lt_F, eq_T, eq_F, nI_add, ldm_997, stm_997, ldm_998, stm_998, ldm_999, stm_999, ldm_1000, stm_1000, ldm_1001, stm_1001, ldm_1002, stm_1002, ldm_1003, stm_1003, ldm_1004, stm_1004, ldm_1005, stm_1005, ldm_1006, stm_1006, ldm_1007, stm_1007, ldm_1008, stm_1008, ldm_1009, stm_1009, ldm_1010, stm_1010, ldm_1011, stm_1011, ldm_1012, stm_1012, ldm_1013, stm_1013, ldm_1014, stm_1014, ldm_1015, stm_1015, ldm_1016, stm_1016, ldm_1017, stm_1017, ldm_1018, stm_1018, ldm_1019, stm_1019, ldm_1020, stm_1020, ldm_1021, stm_1021, ldm_1022, stm_1022, u2_s, u2_a, u2_b, not_true, not_false_iff, isCel_M mP5.1, within_T, within_TL, in_0_999, in_0_2, hno]
  have h0 : 0 < P 0 0 := sq_pos hc
  obtain ⟨hQ, h4, hf6⟩ := qc_of hC hE h0
  obtain ⟨sh, hsh⟩ : ∃ sh : Nat → Nat, ∀ p, sh p = pf (P 0 0) (A 1 p) (A 2 p) (A 3 p) c := ⟨_, fun _ => rfl⟩
  have hsh99 : ∀ p, p < P 0 2 → sh p ≤ 99 := fun p hp => by
    rw [hsh]; exact Nat.le_trans (pfR_le (S := P 0 0)) (cA.1 p hp).2.2.1.2
  obtain ⟨f1, mb, e, kb, i2⟩ := loop_up (fun f i (m' : Nat → Nat → Int32) => B_X2_blowers_15 f 13 (nI c) (nI w) (nI k) (nI (P 0 2)) (nI i) (KS, m', q)) (P 0 2) (fun i m' => KC m m' ∧ ∀ p, p < i → m' 209 p = nI (sh p)) (by
    intro f p m' hp ⟨i1, i2⟩
    have hQ' := hQ.keep i1
    have hfl := fill_ok (m := m') (q := q) (x := nI 0) kk_208 (by omega) (by omega)
    generalize hmf : va_up m' 208 (fun k => if k < 36 then nI 0 else m' 208 k) = mf at hfl
    have ef : ∀ i, i ≠ 208 → mf i = m' i := fun i hi => by rw [← hmf]; unfold va_up; exact if_neg hi
    have e8 : ∀ d, d < 36 → mf 208 d = nI 0 := fun d hd => by rw [← hmf]; unfold va_up; simp [hd]
    have kf : KC m' mf := ⟨fun i _ h2 => ef i (by omega), fun k _ => by rw [ef 13 (by omega)]⟩
    have hQf := hQ'.keep kf
    have hs := hQf.2.1.1.1 p hp
    obtain ⟨m2, w1, w2, w3, w4⟩ := puff_ok (q := q) (a := 15) (b := 23) (w := 208) (p := p) pb15 sb23 hQf.1 hQf.2.2.2 kk_208 (by omega) (by omega) (by omega) hs.1.1 hs.1.2 hs.2.1.1 hs.2.1.2 hs.2.2.1.1 hs.2.2.1.2
    have v : m2 208 c = nI (sh p) := by
      rw [w3 c hc, e8 c (by omega), nI_add, Nat.zero_add, hsh]
    refine ⟨mk_u2 m2 209 p (nI (sh p)), ?_, (i1.trans kf).trans ⟨fun i h1 h2 => by rw [mk_u2_ne (by omega)]; exact w2 i (by omega), fun k _ => by rw [u2_a (by omega), w2 13 (by omega)]⟩, fun p' hp' => ?_⟩
    · simp only [B_X2_blowers_15]
      simp (disch := omega) only [lit, le_F, reduceIte, gac_13_5, gac_13_0, gac_14_0, gac_14_1, gac_13_6, ldc_208, stc_209, ob_some, hfl, w1, v, nI_add]
    · by_cases ep : p' = p
      · subst ep; rw [u2_s]
      · rw [u2_b ep, w2 _ (by omega), ef _ (by omega)]; exact i2 p' (by omega)) (P 0 2) 0 mk_fu m (by omega) (by rw [mk_fu_eq]; omega) ⟨KC.rf, fun p hp => absurd hp (by omega)⟩
  have kb : KC m mb := kb
  obtain ⟨hQM, hMS⟩ := qm_of hC hM h0 kb
  have hP0 : mb 997 0 = nI (P 0 0) := hQM.1.1.1
  have hP2 : mb 997 2 = nI (P 0 2) := hQM.1.1.2.2.1
  obtain ⟨g1, g2, g3, g4⟩ := full64 (P 0 2) (by omega)
  have rC := blownC (q := q) (w := w) (k := k) B2 (fun p hp => ⟨i2 p hp, hsh99 p hp⟩) hw hk
  have rM := blownM (q := q) (w := w) (k := k) (c0 := c) B2 hP2 (fun p hp => ⟨by
    have hs := hMS.1 p hp
    rw [hsh]
    exact puffIn_ok hP0 (by omega) (by omega) hs.1.1 hs.1.2 hs.2.1.1 hs.2.1.2 hs.2.2.1.1 hs.2.2.1.2 hc, hsh99 p hp⟩) hw hk
  obtain ⟨f1, f2⟩ := ask_fin hC hM hE kb (KM.rf (m := mb)) KB.rf rfl
  refine ⟨_, mb, q, mb, q, ?_, Eq.trans ?_ rM, f1, f2⟩
  · unfold F_X11_blown F_X2_blowers
    simp (disch := omega) only [ob_some, reduceIte, lit, le_T, le_F, lt_T, lt_F, eq_T, eq_F, nI_add, gac_0_0, gac_0_1, gac_0_2, gac_0_3, gac_0_4, gac_0_5, gac_0_6, gac_1_0, gic_1_1, gic_1_2, gic_1_3, gic_1_4, gic_1_5, gic_1_6, gac_3_0, gic_3_1, gic_3_2, gic_3_3, gic_3_4, gic_3_5, gic_3_6, gic_3_7, gic_5_0, gic_5_1, gic_5_2, gic_5_3, gic_5_4, gac_5_5, gac_5_6, gac_5_7, gac_5_8, gac_5_9, gac_5_10, gac_5_11, gac_13_0, gac_13_1, gic_13_2, gac_13_3, gac_13_4, gac_13_5, gac_13_6, gac_13_7, gac_13_8, gac_13_9, gic_13_10, gic_13_11, gic_13_12, gic_13_13, gac_14_0, gac_14_1, gac_14_2, gac_14_3, gic_14_4, gic_14_5, gic_15_0, gic_15_1, gic_15_2, gic_15_3, gic_15_4, gac_15_5, gac_15_6, gac_15_7, gac_15_8, gac_15_9, gac_15_10, gac_15_11, gac_23_0, gac_23_1, gac_23_2, gac_23_3, gac_23_4, gac_23_5, gac_23_6, gic_23_7, gic_23_8, gac_31_0, gic_31_1, gic_31_2, gac_193_0, gac_193_1, gac_193_2, gic_193_3, gac_198_0, gac_200_0, gac_200_1, gac_200_2, gac_200_3, gac_200_4, gac_200_5, gac_200_6, gic_200_7, gic_200_8, pic_1_1, pic_1_2, pic_1_3, pic_1_4, pic_1_5, pic_1_6, pic_3_1, pic_3_2, pic_3_3, pic_3_4, pic_3_5, pic_3_6, pic_3_7, pic_5_0, pic_5_1, pic_5_2, pic_5_3, pic_5_4, pic_13_2, pic_13_10, pic_13_11, pic_13_12, pic_13_13, pic_14_4, pic_14_5, pic_15_0, pic_15_1, pic_15_2, pic_15_3, pic_15_4, pic_23_7, pic_23_8, pic_31_1, pic_31_2, pic_193_3, pic_200_7, pic_200_8, gdc_0, gdc_1, gdc_3, gdc_5, gdc_13, gdc_14, gdc_15, gdc_23, gdc_31, gdc_193, gdc_198, gdc_200, ldc_2, stc_2, ldc_4, stc_4, ldc_6, stc_6, ldc_7, stc_7, ldc_8, stc_8, ldc_9, stc_9, ldc_10, stc_10, ldc_11, stc_11, ldc_12, stc_12, ldc_16, stc_16, ldc_17, stc_17, ldc_18, stc_18, ldc_19, stc_19, ldc_20, stc_20, ldc_21, stc_21, ldc_22, stc_22, ldc_24, stc_24, ldc_25, stc_25, ldc_26, stc_26, ldc_27, stc_27, ldc_28, stc_28, ldc_29, stc_29, ldc_30, stc_30, ldc_194, stc_194, ldc_195, stc_195, ldc_196, stc_196, ldc_199, stc_199, ldc_201, stc_201, ldc_202, stc_202, ldc_203, stc_203, ldc_204, stc_204, ldc_205, stc_205, ldc_206, stc_206, ldc_207, stc_207, ldc_208, stc_208, ldc_209, stc_209, ldc_210, stc_210, ldc_211, stc_211, ldc_213, stc_213, ldc_214, stc_214, ldc_215, stc_215, ldc_216, stc_216, ldc_217, stc_217, ldc_218, stc_218, ldc_219, stc_219, ldc_263, stc_263, lda_197, lda_262, lda_212, lda_32, u2_s, u2_a, u2_b, isCel_C cP5.1, within_T, within_TL, cP5.2.2.1]
    rw [e]
    simp only [B_X2_blowers_15]
    simp (disch := omega) only [lit, le_T, reduceIte, g1, sub1, rC, ob_some]
  · unfold F_X12_blown
    simp (disch := omega) only [gdm, gam_1, gam_2, gam_3, gam_4, gam_5, gam_6, gam_7, gam_8, gam_9, gam_10, gam_11, gam_12, gam_13, gam_14, gam_15, gam_16, gam_17, gam_18, gam_19, gam_20, gam_21, gam_22, gam_23, gam_24, gam_25, gam_26, gam_37, gam_38, gam_39, gam_40, gam_41, gam_42, gam_43, gam_44, gam_45, gam_46, gam_48, gam_49, gam_56, gam_57, gam_58, gam_59, gam_60, gam_61, gim_27, gim_28, gim_29, gim_30, gim_31, gim_32, gim_33, gim_34, gim_35, gim_36, gim_47, gim_50, gim_51, gim_52, gim_53, gim_54, gim_55, gim_62, gim_63, ob_some, reduceIte, lit, le_T, le_F, lt_T, lt_F, eq_T, eq_F, nI_add, ldm_997, stm_997, ldm_998, stm_998, ldm_999, stm_999, ldm_1000, stm_1000, ldm_1001, stm_1001, ldm_1002, stm_1002, ldm_1003, stm_1003, ldm_1004, stm_1004, ldm_1005, stm_1005, ldm_1006, stm_1006, ldm_1007, stm_1007, ldm_1008, stm_1008, ldm_1009, stm_1009, ldm_1010, stm_1010, ldm_1011, stm_1011, ldm_1012, stm_1012, ldm_1013, stm_1013, ldm_1014, stm_1014, ldm_1015, stm_1015, ldm_1016, stm_1016, ldm_1017, stm_1017, ldm_1018, stm_1018, ldm_1019, stm_1019, ldm_1020, stm_1020, ldm_1021, stm_1021, ldm_1022, stm_1022, u2_s, u2_a, u2_b, not_true, not_false_iff, isCel_M hP0, within_T, within_TL, in_0_999, in_0_2]
