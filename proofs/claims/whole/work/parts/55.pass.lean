theorem PR.keep {m m2 : Nat → Nat → Int32} {P : Nat → Nat → Nat} {a : Nat} (hP : PR (blk m a) P) (ej : ∀ j, j < 8 → m2 (a + j) = m (a + j)) : PR (blk m2 a) P := by
  obtain ⟨x1, x2, x3, x4, x5⟩ := hP
  have e0 := ej 0 (by omega)
  have e1 := ej 1 (by omega)
  have e2 := ej 2 (by omega)
  have e3 := ej 3 (by omega)
  have e4 := ej 4 (by omega)
  have e5 := ej 5 (by omega)
  have e6 := ej 6 (by omega)
  have e7 := ej 7 (by omega)
  unfold blk at x1 x3 x4 x5
  unfold PR blk
  rw [e0, e1, e2, e3, e4, e5, e6, e7]
  exact ⟨x1, x2, x3, x4, x5⟩
theorem EX.keep {m m2 : Nat → Nat → Int32} (h : EX m) (e : ∀ j, 1000000 ≤ j → m2 j = m j) : EX m2 := by
  unfold EX
  rw [e 2000000 (by omega), e 2000001 (by omega)]
  exact h
theorem nI_min {x y : Nat} (hx : x < 2 ^ 31) (hy : y < 2 ^ 31) : (if nI x < nI y then nI x else nI y) = nI (min y x) := by
  by_cases e : x < y
  · rw [if_pos (nI_lt e hy), Nat.min_eq_right (by omega)]
  · rw [if_neg (nI_nlt (by omega) hx), Nat.min_eq_left (by omega)]
theorem grind_loop {q : Nat → Nat → Int64} {P : Nat → Nat → Nat} {W A6 : Nat → Nat} {a b : Nat} (ha : a ∈ PB) (hb : b ∈ SB) (hW9 : ∀ c, c < P 0 0 * P 0 0 → W c ≤ 600) (hA6 : ∀ k, k < P 0 3 → A6 k ≤ 9999) : ∀ (d i f : Nat) (m : Nat → Nat → Int32), i + d = P 0 3 → d < f → PR (blk m a) P → (∀ c, c < P 0 0 * P 0 0 → m (b + 7) c = nI (W c)) → (∀ k, k < P 0 3 → m (b + 6) k = nI (if k < i then min 9999 (A6 k + min (P 5 k) (W (P 4 k))) else A6 k)) →
    ∃ m1, B_X9_grind_2 f a b (nI i) (KS, m, q) = some ((), (KS, m1, q)) ∧ (∀ j, j ≠ b + 6 → m1 j = m j) ∧ (∀ k, k < P 0 3 → m1 (b + 6) k = nI (min 9999 (A6 k + min (P 5 k) (W (P 4 k))))) ∧ (∀ k, P 0 3 ≤ k → m1 (b + 6) k = m (b + 6) k) := by
  obtain ⟨h0, h1, h2, h3, h4, h5, h6, h7⟩ := sb_all hb
  obtain ⟨-, -, -, -, g4, g5, -, -⟩ := pb_all ha
  have hl := sb_lt hb
  have hla := pb_lt ha
  have hab := pb_sb ha hb
  intro d
  induction d with
  | zero =>
    intro i f m hi hf hP hw hm
    have hi : i = P 0 3 := by omega
    subst hi
    obtain ⟨f, rfl⟩ : ∃ g, f = g + 1 := ⟨f - 1, by omega⟩
    have hN : m a 3 = nI (P 0 3) := hP.1.2.2.2.1
    rw [B_X9_grind_2]
    simp only [pb_g ha, Option.bind_some, hN]
    rw [if_pos (nI_le (Nat.le_refl _) (by have := hP.2.1; omega))]
    exact ⟨m, rfl, fun _ _ => rfl, fun k hk => by rw [hm k hk, if_pos hk], fun _ _ => rfl⟩
  | succ d ih =>
    intro i f m hi hf hP hw hm
    obtain ⟨f, rfl⟩ : ∃ g, f = g + 1 := ⟨f - 1, by omega⟩
    have hN : m a 3 = nI (P 0 3) := hP.1.2.2.2.1
    have hb3 : P 0 3 ≤ 4 := hP.2.1.2.2.2.2.2.1
    have hsq := hP.sq
    have hil : i < P 0 3 := by omega
    obtain ⟨⟨k4, l4⟩, k5, l5⟩ := hP.2.2.2.1 i hil
    have k4 : m (a + 4) i = nI (P 4 i) := k4
    have k5 : m (a + 5) i = nI (P 5 i) := k5
    have hWi := hW9 _ l4
    have hAi := hA6 i hil
    rw [B_X9_grind_2]
    simp only [pb_g ha, Option.bind_some, hN]
    rw [if_neg (nI_ge hil (by omega)), ld_ok g5 (by omega) (by omega) (by omega), Option.bind_some, ld_ok g4 (by omega) (by omega) (by omega), Option.bind_some, k4, s_windAt hb (by omega), Option.bind_some]
    simp only [sb_g hb, Option.bind_some]
    rw [ld_ok h6 (by omega) (by omega) (by omega), Option.bind_some, st_ok h6 (by omega) (by omega), Option.bind_some, hw _ l4, k5, hm i hil, if_neg (Nat.lt_irrefl i), nI_min (by omega) (by omega), nI_add, show (9999 : Int32) = nI 9999 from rfl, nI_min (by omega) (by omega), nI_1]
    have hk : ∀ j, j ≠ b + 6 → mk_u2 m (b + 6) i (mk_nar 100 (nI (min 9999 (A6 i + min (P 5 i) (W (P 4 i)))))) j = m j := fun j h => mk_u2_ne h
    obtain ⟨m1, z1, z2, z3, z4⟩ := ih (i + 1) f _ (by omega) (by omega) (hP.keep (fun j hj => hk _ (by omega))) (fun c hc => by rw [hk _ (by omega)]; exact hw c hc) (fun k hk2 => by
      rw [u2_at]
      by_cases e : k = i
      · subst e
        rw [if_pos ⟨rfl, rfl⟩, if_pos (by omega)]
        rfl
      · rw [if_neg (by omega), hm k hk2]
        have e2 : k < i + 1 ↔ k < i := by omega
        simp only [e2])
    exact ⟨m1, z1, fun j h => (z2 j h).trans (hk j h), z3, fun k hk3 => (z4 k hk3).trans (by rw [u2_at, if_neg (by omega)])⟩
/-- roofs that are off behind (4), of those below n -/
def offN (P : Nat → Nat → Nat) (W : Nat → Nat) (o : Nat) : Nat → Nat
  | 0 => o
  | n + 1 => if P 7 n < W (P 6 n) then offN P W o n ||| 2 ^ n else offN P W o n
theorem bit_or4 : ∀ i, i < 4 → ∀ o, o < 16 → nI o ||| ((1 : Int32) <<< (nI i &&& 31)) = nI (o ||| 2 ^ i) ∧ o ||| 2 ^ i < 16 := by decide +kernel
theorem offN_lt {P : Nat → Nat → Nat} {W : Nat → Nat} {o : Nat} (ho : o < 16) : ∀ n, n ≤ 4 → offN P W o n < 16
  | 0, _ => ho
  | n + 1, h => by
    have ih := offN_lt (P := P) (W := W) ho n (by omega)
    rw [offN]
    split
    · exact (bit_or4 n (by omega) _ ih).2
    · exact ih
theorem unroof_loop {q : Nat → Nat → Int64} {P : Nat → Nat → Nat} {W : Nat → Nat} {o a b : Nat} (ha : a ∈ PB) (hb : b ∈ SB) (ho : o < 16) (hW9 : ∀ c, c < P 0 0 * P 0 0 → W c ≤ 600) : ∀ (d i f : Nat) (m : Nat → Nat → Int32), i + d = P 0 4 → d < f → PR (blk m a) P → (∀ c, c < P 0 0 * P 0 0 → m (b + 7) c = nI (W c)) → m b 7 = nI (offN P W o i) →
    ∃ m1, B_X9_unroof_2 f a b (nI i) (KS, m, q) = some ((), (KS, m1, q)) ∧ (∀ j, j ≠ b → m1 j = m j) ∧ m1 b 7 = nI (offN P W o (P 0 4)) ∧ m1 b 8 = m b 8 := by
  obtain ⟨h0, h1, h2, h3, h4, h5, h6, h7⟩ := sb_all hb
  obtain ⟨-, -, -, -, -, -, g6, g7⟩ := pb_all ha
  have hl := sb_lt hb
  have hla := pb_lt ha
  have hab := pb_sb ha hb
  intro d
  induction d with
  | zero =>
    intro i f m hi hf hP hw hm
    have hi : i = P 0 4 := by omega
    subst hi
    obtain ⟨f, rfl⟩ : ∃ g, f = g + 1 := ⟨f - 1, by omega⟩
    have hN : m a 4 = nI (P 0 4) := hP.1.2.2.2.2
    rw [B_X9_unroof_2]
    simp only [pb_g ha, Option.bind_some, hN]
    rw [if_pos (nI_le (Nat.le_refl _) (by have := hP.2.1; omega))]
    exact ⟨m, rfl, fun _ _ => rfl, hm, rfl⟩
  | succ d ih =>
    intro i f m hi hf hP hw hm
    obtain ⟨f, rfl⟩ : ∃ g, f = g + 1 := ⟨f - 1, by omega⟩
    have hN : m a 4 = nI (P 0 4) := hP.1.2.2.2.2
    have hb4 : P 0 4 ≤ 4 := hP.2.1.2.2.2.2.2.2
    have hsq := hP.sq
    have hil : i < P 0 4 := by omega
    obtain ⟨⟨k6, l6⟩, k7, l7⟩ := hP.2.2.2.2 i hil
    have k6 : m (a + 6) i = nI (P 6 i) := k6
    have k7 : m (a + 7) i = nI (P 7 i) := k7
    have hWi := hW9 _ l6
    rw [B_X9_unroof_2]
    simp only [pb_g ha, Option.bind_some, hN]
    rw [if_neg (nI_ge hil (by omega)), ld_ok g6 (by omega) (by omega) (by omega), Option.bind_some, k6, s_windAt hb (by omega), Option.bind_some]
    simp only [pb_g ha, Option.bind_some]
    rw [ld_ok g7 (by omega) (by omega) (by omega), Option.bind_some, k7, hw _ l6]
    unfold B_X9_unroof_41
    rw [nI_1]
    by_cases e : P 7 i < W (P 6 i)
    · rw [if_neg (nI_ge e (by omega))]
      simp only [sb_g hb, sb_pi hb, Option.bind_some]
      have ho4 := bit_or4 i (by omega) _ (offN_lt (P := P) (W := W) ho i (by omega))
      rw [hm, ho4.1]
      have hk : ∀ j, j ≠ b → mk_u2 m b 7 (nI (offN P W o i ||| 2 ^ i)) j = m j := fun j h => mk_u2_ne h
      obtain ⟨m1, z1, z2, z3, z4⟩ := ih (i + 1) f _ (by omega) (by omega) (hP.keep (fun j hj => hk _ (by omega))) (fun c hc => by rw [hk _ (by omega)]; exact hw c hc) (by rw [u2_at, if_pos ⟨rfl, rfl⟩, offN, if_pos e])
      exact ⟨m1, z1, fun j h => (z2 j h).trans (hk j h), z3, z4.trans (by rw [u2_at, if_neg (by omega)])⟩
    · rw [if_pos (nI_le (by omega) (by omega))]
      exact ih (i + 1) f m (by omega) (by omega) hP hw (by rw [hm, offN, if_neg e])
theorem spread_loop {q : Nat → Nat → Int64} {P : Nat → Nat → Nat} {W U A1 : Nat → Nat} {a b : Nat} (ha : a ∈ PB) (hb : b ∈ SB) (hW9 : ∀ c, c < P 0 0 * P 0 0 → W c ≤ 600) (hU : ∀ p, p < P 0 2 → U p ≤ 99 ∧ A1 p < P 0 0 * P 0 0) : ∀ (d i f : Nat) (m : Nat → Nat → Int32), i + d = P 0 2 → d < f → PR (blk m a) P → (∀ c, c < P 0 0 * P 0 0 → m (b + 7) c = nI (W c)) → (∀ p, p < P 0 2 → m (b + 1) p = nI (A1 p) ∧ m (b + 3) p = nI (if p < i then min 99 (U p + W (A1 p) / P 0 1) else U p)) →
    ∃ m1, B_X9_spread_10 f a b (nI i) (KS, m, q) = some ((), (KS, m1, q)) ∧ (∀ j, j ≠ b + 3 → m1 j = m j) ∧ (∀ p, p < P 0 2 → m1 (b + 3) p = nI (min 99 (U p + W (A1 p) / P 0 1))) := by
  obtain ⟨h0, h1, h2, h3, h4, h5, h6, h7⟩ := sb_all hb
  have hl := sb_lt hb
  have hla := pb_lt ha
  have hab := pb_sb ha hb
  intro d
  induction d with
  | zero =>
    intro i f m hi hf hP hw hm
    have hi : i = P 0 2 := by omega
    subst hi
    obtain ⟨f, rfl⟩ : ∃ g, f = g + 1 := ⟨f - 1, by omega⟩
    have hN : m a 2 = nI (P 0 2) := hP.1.2.2.1
    rw [B_X9_spread_10]
    simp only [pb_g ha, Option.bind_some, hN]
    rw [if_pos (nI_le (Nat.le_refl _) (by have := hP.2.1; omega))]
    exact ⟨m, rfl, fun _ _ => rfl, fun p hp => by rw [(hm p hp).2, if_pos hp]⟩
  | succ d ih =>
    intro i f m hi hf hP hw hm
    obtain ⟨f, rfl⟩ : ∃ g, f = g + 1 := ⟨f - 1, by omega⟩
    have hN : m a 2 = nI (P 0 2) := hP.1.2.2.1
    have hC : m a 1 = nI (P 0 1) := hP.1.2.1
    have hb2 := hP.2.1
    have hsq := hP.sq
    have hil : i < P 0 2 := by omega
    obtain ⟨k1, k3⟩ := hm i hil
    obtain ⟨l1, l2⟩ := hU i hil
    have hWi := hW9 _ l2
    rw [B_X9_spread_10]
    simp only [pb_g ha, sb_g hb, Option.bind_some, hN]
    rw [if_neg (nI_ge hil (by omega)), ld_ok h1 (by omega) (by omega) (by omega), Option.bind_some, k1, s_windAt hb (by omega), Option.bind_some]
    simp only [pb_g ha, Option.bind_some, hC]
    rw [if_neg (nI_ne0 (by omega) (by omega)), hw _ l2, pk_div (by omega) (by omega) (by omega), s_urgeOn hb (by omega), Option.bind_some, k3, if_neg (Nat.lt_irrefl i), nI_add, nI_1, mn99_n (by have := Nat.div_le_self (W (A1 i)) (P 0 1); omega)]
    have hk : ∀ j, j ≠ b + 3 → mk_u2 m (b + 3) i (nI (min 99 (U i + W (A1 i) / P 0 1))) j = m j := fun j h => mk_u2_ne h
    obtain ⟨m1, z1, z2, z3⟩ := ih (i + 1) f _ (by omega) (by omega) (hP.keep (fun j hj => hk _ (by omega))) (fun c hc => by rw [hk _ (by omega)]; exact hw c hc) (fun p hp => by
      refine ⟨by rw [hk _ (by omega)]; exact (hm p hp).1, ?_⟩
      rw [u2_at]
      by_cases e : p = i
      · subst e
        rw [if_pos ⟨rfl, rfl⟩, if_pos (by omega)]
      · rw [if_neg (by omega), (hm p hp).2]
        have e2 : p < i + 1 ↔ p < i := by omega
        simp only [e2])
    exact ⟨m1, z1, fun j h => (z2 j h).trans (hk j h), z3⟩
