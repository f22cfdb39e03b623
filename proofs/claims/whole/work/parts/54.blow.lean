/-- what a State's block says, in plain numbers -/
def SR (P : Nat → Nat → Nat) (s : Nat → Nat → Int32) (A : Nat → Nat → Nat) : Prop := (∀ p, p < P 0 2 → (s 1 p = nI (A 1 p) ∧ A 1 p < P 0 0 * P 0 0) ∧ (s 2 p = nI (A 2 p) ∧ A 2 p < 4) ∧ (s 3 p = nI (A 3 p) ∧ A 3 p ≤ 99) ∧ (s 4 p = nI (A 4 p) ∧ A 4 p ≤ A 0 1) ∧ (s 5 p = nI (A 5 p) ∧ A 5 p ≤ 99)) ∧ (∀ k, k < P 0 3 → s 6 k = nI (A 6 k) ∧ A 6 k ≤ 9999) ∧ (∀ c, c < P 0 0 * P 0 0 → s 7 c = nI (A 7 c) ∧ A 7 c ≤ 600) ∧ (s 0 7 = nI (A 0 0) ∧ A 0 0 < 16) ∧ (s 0 8 = nI (A 0 1) ∧ A 0 1 ≤ 100000) ∧ (∀ p, P 0 2 ≤ p → p < 6 → s 4 p = 0) ∧ (∀ k, P 0 3 ≤ k → k < 4 → s 6 k = 0) ∧ (∀ c, P 0 0 * P 0 0 ≤ c → c < 36 → s 7 c = 0)
def gb (G : Nat → Bool) : Nat → Nat
  | 0 => 0
  | n + 1 => gb G n + (if G n then 2 ^ n else 0)
theorem gb_lt (G : Nat → Bool) : ∀ n, gb G n < 2 ^ n
  | 0 => by simp [gb]
  | n + 1 => by
    have := gb_lt G n
    rw [gb, Nat.pow_succ]
    split <;> omega
theorem gb_bit (G : Nat → Bool) : ∀ n i, i < n → gb G n / 2 ^ i % 2 = if G i then 1 else 0
  | 0, i, h => by omega
  | n + 1, i, h => by
    rw [gb]
    by_cases e : i = n
    · subst e
      have := gb_lt G i
      by_cases g : G i
      · simp only [g, if_true]
        rw [show gb G i + 2 ^ i = gb G i + 2 ^ i * 1 by omega, Nat.add_mul_div_left _ _ (Nat.two_pow_pos i), Nat.div_eq_of_lt this]
      · simp only [g, Bool.false_eq_true, if_false, Nat.add_zero]
        rw [Nat.div_eq_of_lt this]
    · have ih := gb_bit G n i (by omega)
      by_cases g : G n
      · simp only [g, if_true]
        obtain ⟨d, hd⟩ : ∃ d, n = i + (d + 1) := ⟨n - i - 1, by omega⟩
        have e2 : 2 ^ n = 2 ^ i * (2 ^ d * 2) := by rw [hd, Nat.pow_add, Nat.pow_succ]
        rw [e2, Nat.add_mul_div_left _ _ (Nat.two_pow_pos i), Nat.add_mul_mod_self_right]
        exact ih
      · simp only [g, Bool.false_eq_true, if_false, Nat.add_zero]
        exact ih
theorem bit_shr : ∀ g, g < 64 → ∀ i, i < 6 → (nI g >>> (nI i &&& 31)) &&& 1 = nI (g / 2 ^ i % 2) := by decide +kernel
theorem bit_or : ∀ i, i < 6 → ∀ g, g < 2 ^ i → nI g ||| ((1 : Int32) <<< (nI i &&& 31)) = nI (g + 2 ^ i) := by decide +kernel
theorem gb_test {G : Nat → Bool} {n i : Nat} (hn : n ≤ 6) (hi : i < n) : (nI (gb G n) >>> (nI i &&& 31)) &&& 1 = if G i then 1 else 0 := by
  have h := gb_lt G n
  have h2 : 2 ^ n ≤ 2 ^ 6 := Nat.pow_le_pow_right (by omega) hn
  rw [bit_shr _ (by omega) _ (by omega), gb_bit G n i hi]
  split <;> rfl
theorem and3 : ∀ w, w < 4 → nI w &&& 3 = nI w := by decide +kernel
theorem row_ok {m : Nat → Nat → Int32} {q : Nat → Nat → Int64} {a S c : Nat} (ha : a ∈ PB) (hS : m a 0 = nI S) (h0 : 0 < S) (h1 : S ≤ 100) (hc : c < 10000) : F_X3_rowOf a (nI c) (KS, m, q) = some (nI (c / S), (KS, m, q)) ∧ F_X3_columnOf a (nI c) (KS, m, q) = some (nI (c % S), (KS, m, q)) := by
  unfold F_X3_rowOf F_X3_columnOf
  simp only [pb_gd ha, pb_g ha, Option.bind_some, hS]
  rw [if_neg (nI_nle h0 (by omega)), if_neg (nI_ne0 h0 (by omega)), pk_div (by omega) h0 (by omega), if_neg (nI_nle h0 (by omega)), if_neg (nI_ne0 h0 (by omega)), ← pk_div (by omega) h0 (by omega), pk_rem (by omega) h0 (by omega), pk_div (by omega) h0 (by omega)]
  exact ⟨rfl, rfl⟩
theorem puff_ok {m : Nat → Nat → Int32} {q : Nat → Nat → Int64} {P : Nat → Nat → Nat} {a b w p c way u : Nat} (ha : a ∈ PB) (hb : b ∈ SB) (hP : PR (blk m a) P) (hE : EX m) (hwa : KS[w]? = some (100, 36, [])) (hap : ¬ w = a) (hw2 : w < 2000000) (hp : p < 6) (c1 : m (b + 1) p = nI c) (d1 : c < P 0 0 * P 0 0) (c2 : m (b + 2) p = nI way) (d2 : way < 4) (c3 : m (b + 3) p = nI u) (d3 : u ≤ 99) :
    ∃ m1, F_X9_puff a b (nI p) w (KS, m, q) = some ((), (KS, m1, q)) ∧ (∀ i, i ≠ w → m1 i = m i) ∧ (∀ d, d < P 0 0 * P 0 0 → m1 w d = m w d + nI (pf (P 0 0) c way u d)) ∧ (∀ d, P 0 0 * P 0 0 ≤ d → m1 w d = m w d) := by
  obtain ⟨h0, h1, h2, h3, h4, h5, h6, h7⟩ := sb_all hb
  have hl := sb_lt hb
  obtain ⟨⟨p0, p1, p2, p3, p4⟩, ⟨b0, b1, b2, b3, b4, b5, b6⟩, -⟩ := id hP
  have hsq := hP.sq
  have hSm : m a 0 = nI (P 0 0) := p0
  obtain ⟨r1, r2⟩ := row_ok (m := m) (q := q) (c := c) ha hSm (by omega) (by omega) (by omega)
  unfold F_X9_puff
  simp only [sb_g hb, Option.bind_some]
  rw [ld_ok h1 (by omega) (by omega) (by omega), Option.bind_some, c1, r1, Option.bind_some]
  simp only [sb_g hb, Option.bind_some]
  rw [ld_ok h1 (by omega) (by omega) (by omega), Option.bind_some, c1, r2, Option.bind_some]
  simp only [sb_g hb, Option.bind_some]
  rw [ld_ok h2 (by omega) (by omega) (by omega), Option.bind_some, ld_ok h3 (by omega) (by omega) (by omega), Option.bind_some, c2, c3, and3 _ d2]
  exact puff_loop ha d2 b1 hwa hap hw2 u _ _ mk_fu m hE hSm (Nat.div_lt_of_lt_mul d1) (Nat.mod_lt _ (by omega)) (by rw [mk_fu_eq]; omega) (by omega)
/-- sums of puffs of those below n who give way -/
def wsum (P A : Nat → Nat → Nat) (G : Nat → Bool) (c : Nat) : Nat → Nat
  | 0 => 0
  | n + 1 => wsum P A G c n + (if G n then pf (P 0 0) (A 1 n) (A 2 n) (A 3 n) c else 0)
theorem wsum_le {P A : Nat → Nat → Nat} {G : Nat → Bool} {c N : Nat} (h : ∀ p, p < N → A 3 p ≤ 99) : ∀ n, n ≤ N → wsum P A G c n ≤ 99 * n
  | 0, _ => by simp [wsum]
  | n + 1, hn => by
    have ih := wsum_le (P := P) (A := A) (G := G) (c := c) h n (by omega)
    rw [wsum]
    have h2 := h n (by omega)
    have h3 : pf (P 0 0) (A 1 n) (A 2 n) (A 3 n) c ≤ A 3 n := pfR_le (S := 0)
    split <;> omega
/-- behind (3), for those below n -/
def aB (P A : Nat → Nat → Nat) (G : Nat → Bool) (n : Nat) : Nat → Nat → Nat := fun j k =>
  if j = 7 then wsum P A G k n
  else if j = 3 ∧ k < n then (if G k then 0 else A 3 k)
  else if j = 4 ∧ k < n then (if G k then A 4 k + 1 else A 4 k)
  else if j = 5 ∧ k < n then (if G k then 1 else min 99 (A 5 k + 1))
  else A j k
theorem mn99_n {n : Nat} (h : n < 2 ^ 31) : mn99 (nI n) = nI (min 99 n) := by
  unfold mn99
  by_cases e : n < 99
  · rw [if_pos (show nI n < (99 : Int32) from nI_lt (b := 99) e (by omega)), Nat.min_eq_right (by omega)]
  · rw [if_neg (show ¬ nI n < (99 : Int32) from nI_nlt (b := 99) (by omega) (by omega)), Nat.min_eq_left (by omega)]
    rfl
theorem SR.set {P : Nat → Nat → Nat} {s u : Nat → Nat → Int32} {A : Nat → Nat → Nat} (h : SR P s A) (e : SEq u s) (hN : P 0 2 ≤ 6) (hM : P 0 3 ≤ 4) (hS : P 0 0 * P 0 0 ≤ 36) : SR P u A := by
  obtain ⟨h1, h2, h3, ⟨h4, h4b⟩, ⟨h5, h5b⟩, h6, h7, h8⟩ := h
  obtain ⟨e1, e2, e3, e4, e5⟩ := e
  refine ⟨fun p hp => ?_, fun k hk => ?_, fun c hc => ?_, ⟨e4.trans h4, h4b⟩, ⟨e5.trans h5, h5b⟩, fun p hp hp2 => ?_, fun k hk hk2 => ?_, fun c hc hc2 => ?_⟩
  · obtain ⟨a1, a2, a3, a4, a5⟩ := e1 p (by omega)
    obtain ⟨⟨b1, c1⟩, ⟨b2, c2⟩, ⟨b3, c3⟩, ⟨b4, c4⟩, ⟨b5, c5⟩⟩ := h1 p hp
    exact ⟨⟨a1.trans b1, c1⟩, ⟨a2.trans b2, c2⟩, ⟨a3.trans b3, c3⟩, ⟨a4.trans b4, c4⟩, ⟨a5.trans b5, c5⟩⟩
  · exact ⟨(e2 k (by omega)).trans (h2 k hk).1, (h2 k hk).2⟩
  · exact ⟨(e3 c (by omega)).trans (h3 c hc).1, (h3 c hc).2⟩
  · rw [(e1 p hp2).2.2.2.1]; exact h6 p hp hp2
  · rw [e2 k hk2]; exact h7 k hk hk2
  · rw [e3 c hc2]; exact h8 c hc hc2
/-- what a loop over the people has done so far: for those below n as C says, for the others as A says -/
def upto (n : Nat) (C A : Nat → Nat) : Nat → Nat := fun k => if k < n then C k else A k
theorem blow_loop {q : Nat → Nat → Int64} {P A : Nat → Nat → Nat} {G : Nat → Bool} {a b : Nat} (ha : a ∈ PB) (hb : b ∈ SB) (hA9 : ∀ p, p < P 0 2 → A 1 p < P 0 0 * P 0 0 ∧ A 2 p < 4 ∧ A 3 p ≤ 99 ∧ A 4 p ≤ A 0 1 ∧ A 5 p ≤ 99) : ∀ (d i f : Nat) (m : Nat → Nat → Int32), i + d = P 0 2 → d < f → PR (blk m a) P → EX m →
    (∀ p, p < P 0 2 → m (b + 1) p = nI (A 1 p) ∧ m (b + 2) p = nI (A 2 p) ∧ m (b + 3) p = nI (aB P A G i 3 p) ∧ m (b + 4) p = nI (aB P A G i 4 p) ∧ m (b + 5) p = nI (aB P A G i 5 p)) → (∀ c, c < P 0 0 * P 0 0 → m (b + 7) c = nI (wsum P A G c i)) →
    ∃ m1, B_X9_blow_10 f a b (nI (gb G (P 0 2))) (nI i) (KS, m, q) = some ((), (KS, m1, q)) ∧ (∀ j, j ≠ b + 3 → j ≠ b + 4 → j ≠ b + 5 → j ≠ b + 7 → m1 j = m j) ∧ (∀ p, p < P 0 2 → m1 (b + 3) p = nI (aB P A G (P 0 2) 3 p) ∧ m1 (b + 4) p = nI (aB P A G (P 0 2) 4 p) ∧ m1 (b + 5) p = nI (aB P A G (P 0 2) 5 p)) ∧ (∀ c, c < P 0 0 * P 0 0 → m1 (b + 7) c = nI (wsum P A G c (P 0 2))) ∧ (∀ p, P 0 2 ≤ p → m1 (b + 4) p = m (b + 4) p) ∧ (∀ c, P 0 0 * P 0 0 ≤ c → m1 (b + 7) c = m (b + 7) c) := by
  obtain ⟨h0, h1, h2, h3, h4, h5, h6, h7⟩ := sb_all hb
  have hl := sb_lt hb
  have hab := pb_sb ha hb
  intro d
  induction d with
  | zero =>
    intro i f m hi hf hP hE hm hw
    have hi : i = P 0 2 := by omega
    subst hi
    obtain ⟨f, rfl⟩ : ∃ g, f = g + 1 := ⟨f - 1, by omega⟩
    have hN : m a 2 = nI (P 0 2) := hP.1.2.2.1
    rw [B_X9_blow_10]
    simp only [pb_g ha, Option.bind_some, hN]
    rw [if_pos (nI_le (Nat.le_refl _) (by have := hP.2.1; omega))]
    exact ⟨m, rfl, fun _ _ _ _ _ => rfl, fun p hp => ⟨(hm p hp).2.2.1, (hm p hp).2.2.2.1, (hm p hp).2.2.2.2⟩, hw, fun _ _ => rfl, fun _ _ => rfl⟩
  | succ d ih =>
    intro i f m hi hf hP hE hm hw
    obtain ⟨f, rfl⟩ : ∃ g, f = g + 1 := ⟨f - 1, by omega⟩
    have hN : m a 2 = nI (P 0 2) := hP.1.2.2.1
    have hN6 : P 0 2 ≤ 6 := hP.2.1.2.2.2.2.1
    have hsq := hP.sq
    have hil : i < P 0 2 := by omega
    obtain ⟨q1, q2, q3, q4, q5⟩ := hm i hil
    obtain ⟨r1, r2, r3, r4, r5⟩ := hA9 i hil
    have g3 : aB P A G i 3 i = A 3 i := by simp [aB]
    have g4 : aB P A G i 4 i = A 4 i := by simp [aB]
    have g5 : aB P A G i 5 i = A 5 i := by simp [aB]
    have gx : ∀ j p, p ≠ i → j ≠ 7 → aB P A G (i + 1) j p = aB P A G i j p := by
      intro j p hp hj
      simp only [aB, hj, if_false]
      have e : p < i + 1 ↔ p < i := by omega
      simp only [e]
    rw [B_X9_blow_10]
    simp only [pb_g ha, Option.bind_some, hN]
    rw [if_neg (nI_ge hil (by omega)), gb_test hN6 hil]
    have keep : ∀ (m2 : Nat → Nat → Int32), (∀ j, j ≠ b + 3 → j ≠ b + 4 → j ≠ b + 5 → j ≠ b + 7 → m2 j = m j) → PR (blk m2 a) P ∧ EX m2 := by
      intro m2 hk
      have e : blk m2 a = fun j k => m2 (a + j) k := rfl
      refine ⟨?_, ?_⟩
      · obtain ⟨x1, x2, x3, x4, x5⟩ := hP
        have ej : ∀ j, j < 8 → m2 (a + j) = m (a + j) := fun j hj => hk _ (by omega) (by omega) (by omega) (by omega)
        have e0 := ej 0 (by omega)
        have e1 := ej 1 (by omega)
        have e2 := ej 2 (by omega)
        have e3 := ej 3 (by omega)
        have e4 := ej 4 (by omega)
        have e5 := ej 5 (by omega)
        have e6 := ej 6 (by omega)
        have e7 := ej 7 (by omega)
        unfold blk at x1 x3 x4 x5
        unfold PR blk
        rw [e0, e1, e2, e3, e4, e5, e6, e7]
        exact ⟨x1, x2, x3, x4, x5⟩
      · unfold EX
        rw [hk 2000000 (by omega) (by omega) (by omega) (by omega), hk 2000001 (by omega) (by omega) (by omega) (by omega)]
        exact hE
    by_cases hg : G i
    · simp only [hg, if_true]
      rw [if_neg (show ¬ (1 : Int32) = 0 by decide)]
      simp only [sb_g hb, Option.bind_some]
      obtain ⟨m2, y1, y2, y3, y4⟩ := puff_ok (q := q) (w := b + 7) (p := i) ha hb hP hE h7 (by omega) (by omega) (by omega) q1 r1 q2 r2 (q3.trans (congrArg nI g3)) r3
      rw [y1, Option.bind_some]
      simp only [sb_g hb, Option.bind_some]
      rw [st_ok h3 (by omega) (by omega), Option.bind_some]
      simp only [sb_g hb, Option.bind_some]
      rw [ld_ok h4 (by omega) (by omega) (by omega), Option.bind_some, st_ok h4 (by omega) (by omega), Option.bind_some]
      simp only [sb_g hb, Option.bind_some]
      rw [st_ok h5 (by omega) (by omega), Option.bind_some]
      unfold B_X9_blow_82
      rw [nI_1]
      have hk : ∀ j, j ≠ b + 3 → j ≠ b + 4 → j ≠ b + 5 → j ≠ b + 7 → mk_u2 (mk_u2 (mk_u2 m2 (b + 3) i (mk_nar 100 0)) (b + 4) i (mk_nar 100 (mk_u2 m2 (b + 3) i (mk_nar 100 0) (b + 4) i + 1))) (b + 5) i (mk_nar 100 1) j = m j := fun j x1 x2 x3 x4 => by
        rw [mk_u2_ne x3, mk_u2_ne x2, mk_u2_ne x1]
        exact y2 j x4
      obtain ⟨hP2, hE2⟩ := keep _ hk
      have e4 : mk_u2 m2 (b + 3) i (mk_nar 100 0) (b + 4) i + 1 = nI (A 4 i + 1) := by
        rw [mk_u2_ne (by omega), y2 _ (by omega), q4, g4, nI_1]
      obtain ⟨m1, z1, z2, z3, z4, z5, z6⟩ := ih (i + 1) f _ (by omega) (by omega) hP2 hE2 (fun p hp => by
        obtain ⟨w1, w2, w3, w4, w5⟩ := hm p hp
        refine ⟨by rw [hk _ (by omega) (by omega) (by omega) (by omega)]; exact w1, by rw [hk _ (by omega) (by omega) (by omega) (by omega)]; exact w2, ?_, ?_, ?_⟩
        · rw [mk_u2_ne (by omega), mk_u2_ne (by omega), u2_at]
          by_cases e : p = i
          · subst e; rw [if_pos ⟨rfl, rfl⟩]; simp [aB, hg, mk_nar]; rfl
          · rw [if_neg (by omega), y2 _ (by omega), gx 3 p e (by omega)]; exact w3
        · rw [mk_u2_ne (by omega), u2_at]
          by_cases e : p = i
          · subst e; rw [if_pos ⟨rfl, rfl⟩, e4]; simp [aB, hg, mk_nar]
          · rw [if_neg (by omega), mk_u2_ne (by omega), y2 _ (by omega), gx 4 p e (by omega)]; exact w4
        · rw [u2_at]
          by_cases e : p = i
          · subst e; rw [if_pos ⟨rfl, rfl⟩]; simp [aB, hg, mk_nar]; rfl
          · rw [if_neg (by omega), mk_u2_ne (by omega), mk_u2_ne (by omega), y2 _ (by omega), gx 5 p e (by omega)]; exact w5) (fun c hc => by
        rw [mk_u2_ne (by omega), mk_u2_ne (by omega), mk_u2_ne (by omega), y3 c hc, hw c hc, nI_add]
        simp [wsum, hg])
      exact ⟨m1, z1, fun j x1 x2 x3 x4 => (z2 j x1 x2 x3 x4).trans (hk j x1 x2 x3 x4), z3, z4, fun p hp => (z5 p hp).trans (by rw [mk_u2_ne (by omega), u2_at, if_neg (by omega), mk_u2_ne (by omega), y2 _ (by omega)]), fun c hc => (z6 c hc).trans (by rw [mk_u2_ne (by omega), mk_u2_ne (by omega), mk_u2_ne (by omega), y4 c hc])⟩
    · simp only [hg, Bool.false_eq_true, if_false, if_true]
      simp only [sb_g hb, Option.bind_some]
      rw [ld_ok h5 (by omega) (by omega) (by omega), Option.bind_some, st_ok h5 (by omega) (by omega), Option.bind_some]
      unfold B_X9_blow_82
      rw [nI_1, q5, g5, nI_1]
      have e99 : (if nI (A 5 i + 1) < (99 : Int32) then nI (A 5 i + 1) else (99 : Int32)) = nI (min 99 (A 5 i + 1)) := mn99_n (by omega)
      rw [e99]
      have hk : ∀ j, j ≠ b + 3 → j ≠ b + 4 → j ≠ b + 5 → j ≠ b + 7 → mk_u2 m (b + 5) i (mk_nar 100 (nI (min 99 (A 5 i + 1)))) j = m j := fun j _ _ h _ => mk_u2_ne h
      obtain ⟨hP2, hE2⟩ := keep _ hk
      obtain ⟨m1, z1, z2, z3, z4, z5, z6⟩ := ih (i + 1) f (mk_u2 m (b + 5) i (mk_nar 100 (nI (min 99 (A 5 i + 1))))) (by omega) (by omega) hP2 hE2 (fun p hp => by
        obtain ⟨w1, w2, w3, w4, w5⟩ := hm p hp
        refine ⟨by rw [mk_u2_ne (by omega)]; exact w1, by rw [mk_u2_ne (by omega)]; exact w2, ?_, ?_, ?_⟩
        · rw [mk_u2_ne (by omega)]
          by_cases e : p = i
          · subst e; rw [w3]; simp [aB, hg]
          · rw [gx 3 p e (by omega)]; exact w3
        · rw [mk_u2_ne (by omega)]
          by_cases e : p = i
          · subst e; rw [w4]; simp [aB, hg]
          · rw [gx 4 p e (by omega)]; exact w4
        · rw [u2_at]
          by_cases e : p = i
          · subst e
            rw [if_pos ⟨rfl, rfl⟩]
            simp [aB, hg, mk_nar]
          · rw [if_neg (by omega), gx 5 p e (by omega)]; exact w5) (fun c hc => by
        rw [mk_u2_ne (by omega), hw c hc]
        simp [wsum, hg])
      exact ⟨m1, z1, fun j y1 y2 y3 y4 => (z2 j y1 y2 y3 y4).trans (hk j y1 y2 y3 y4), z3, z4, fun p hp => (z5 p hp).trans (by rw [mk_u2_ne (by omega)]), fun c hc => (z6 c hc).trans (by rw [mk_u2_ne (by omega)])⟩
