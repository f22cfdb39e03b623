/-- what the rule in force says of each, when urges are U -/
def SayOK (R : Option Nat) (g : Nat → Bool) (a b : Nat) (m : Nat → Nat → Int32) (N : Nat) (U P2 : Nat → Nat) : Prop := match R with
  | none => ∀ p, p < N → g p = decide (P2 p < U p)
  | some r => ∀ p, p < N → ∀ q, ∃ q1 q2, F_X9_tell 198 a b (nI p) (KS, m, q) = some ((), (KS, m, q1)) ∧ F_X5_says r 199 (KS, m, q1) = some (if g p then 1 else 0, (KS, m, q2))
def keptG (g : Nat → Bool) (kept : Int32) : Nat → Bool := fun p => g p && !(decide (nI p = kept))
theorem gb_or {G : Nat → Bool} {i : Nat} (hi : i < 6) (h : G i = true) : nI (gb G i) ||| ((1 : Int32) <<< (nI i &&& 31)) = nI (gb G (i + 1)) := by
  rw [bit_or i hi _ (gb_lt G i), gb, h]
  rfl
theorem gb_no {G : Nat → Bool} {i : Nat} (h : G i = false) : gb G (i + 1) = gb G i := by
  rw [gb, h]
  rfl
theorem givers_loop {m : Nat → Nat → Int32} {P : Nat → Nat → Nat} {U : Nat → Nat} {g : Nat → Bool} {R : Option Nat} {kept : Int32} {a b : Nat} (ha : a ∈ PB) (hb : b ∈ SB) (hP : PR (blk m a) P) (hU : ∀ p, p < P 0 2 → m (b + 3) p = nI (U p) ∧ U p ≤ 99) (hS : SayOK R g a b m (P 0 2) U (P 2)) : ∀ (d i f : Nat) (q : Nat → Nat → Int64), i + d = P 0 2 → d < f →
    ∃ q1, B_X9_giversOf_6 f 198 a R b kept (nI (gb (keptG g kept) i)) (nI i) (KS, m, q) = some (nI (gb (keptG g kept) (P 0 2)), (KS, m, q1)) := by
  obtain ⟨h0, h1, h2, h3, h4, h5, h6, h7⟩ := sb_all hb
  obtain ⟨-, -, g2, -⟩ := pb_all ha
  have hl := sb_lt hb
  have hla := pb_lt ha
  have hN : m a 2 = nI (P 0 2) := hP.1.2.2.1
  have hb2 := hP.2.1
  intro d
  induction d with
  | zero =>
    intro i f q hi hf
    have hi : i = P 0 2 := by omega
    subst hi
    obtain ⟨f, rfl⟩ : ∃ g, f = g + 1 := ⟨f - 1, by omega⟩
    rw [B_X9_giversOf_6]
    simp only [pb_g ha, Option.bind_some, hN]
    rw [if_pos (nI_le (Nat.le_refl _) (by omega))]
    exact ⟨q, rfl⟩
  | succ d ih =>
    intro i f q hi hf
    obtain ⟨f, rfl⟩ : ∃ g, f = g + 1 := ⟨f - 1, by omega⟩
    have hil : i < P 0 2 := by omega
    have key : ∀ q2, ∃ q1, B_X9_giversOf_64 (B_X9_giversOf_6 f) 198 a R b kept (nI (gb (keptG g kept) i)) (nI i) (if g i then 1 else 0) (KS, m, q2) = some (nI (gb (keptG g kept) (P 0 2)), (KS, m, q1)) := by
      intro q2
      unfold B_X9_giversOf_64 B_X9_giversOf_85
      by_cases hg : g i
      · simp only [hg, if_true]
        rw [if_neg (show ¬ (1 : Int32) = 0 by decide), nI_1]
        by_cases hk : nI i = kept
        · have e : keptG g kept i = false := by simp [keptG, hk]
          rw [if_pos hk, ← gb_no e]
          exact ih (i + 1) f q2 (by omega) (by omega)
        · have e : keptG g kept i = true := by simp [keptG, hk, hg]
          rw [if_neg hk, gb_or (by omega) e]
          exact ih (i + 1) f q2 (by omega) (by omega)
      · have e : keptG g kept i = false := by simp [keptG, hg]
        simp only [hg, Bool.false_eq_true, if_false, if_true]
        rw [nI_1, ← gb_no e]
        exact ih (i + 1) f q2 (by omega) (by omega)
    rw [B_X9_giversOf_6]
    simp only [pb_g ha, Option.bind_some, hN]
    rw [if_neg (nI_ge hil (by omega))]
    cases R with
    | none =>
      simp only [mk_nn, sb_g hb, pb_g ha, Option.bind_some]
      obtain ⟨-, ⟨k2, l2⟩, -⟩ := hP.2.2.1 i hil
      have k2 : m (a + 2) i = nI (P 2 i) := k2
      obtain ⟨u1, u2⟩ := hU i hil
      have hs : g i = decide (P 2 i < U i) := hS i hil
      rw [ld_ok h3 (by omega) (by omega) (by omega), Option.bind_some, ld_ok g2 (by omega) (by omega) (by omega), Option.bind_some, u1, k2]
      unfold B_X9_giversOf_41
      obtain ⟨q1, hq⟩ := key q
      refine ⟨q1, ?_⟩
      rw [← hq]
      by_cases e : P 2 i < U i
      · rw [if_neg (nI_ge e (by omega)), hs]
        simp [e]
      · rw [if_pos (nI_le (by omega) (by omega)), hs]
        simp [e]
    | some r =>
      obtain ⟨q1, q2, t1, t2⟩ := hS i hil q
      simp only [mk_nn]
      rw [t1, Option.bind_some, (g_wea m q1), Option.bind_some, t2, Option.bind_some]
      exact key q2
/-- an hour, in plain numbers: G those who give way -/
def aU (A : Nat → Nat → Nat) : Nat → Nat → Nat := fun j k => if j = 3 then min 99 (A 3 k + 1) else A j k
def aW (P A : Nat → Nat → Nat) (G : Nat → Bool) (c : Nat) : Nat := wsum P (aU A) G c (P 0 2)
def aP (P A : Nat → Nat → Nat) (G : Nat → Bool) : Nat → Nat → Nat := fun j k => match j with
  | 0 => if k = 0 then offN P (aW P A G) (A 0 0) (P 0 4) else A 0 1 + 1
  | 3 => min 99 ((if G k then 0 else aU A 3 k) + aW P A G (A 1 k) / P 0 1)
  | 4 => if G k then A 4 k + 1 else A 4 k
  | 5 => if G k then 1 else min 99 (A 5 k + 1)
  | 6 => min 9999 (A 6 k + min (P 5 k) (aW P A G (P 4 k)))
  | 7 => aW P A G k
  | _ => A j k
theorem aW_le {P A : Nat → Nat → Nat} {G : Nat → Bool} {c : Nat} (h : P 0 2 ≤ 6) : aW P A G c ≤ 600 := by
  have := wsum_le (P := P) (A := aU A) (G := G) (c := c) (N := P 0 2) (fun p _ => by simp only [aU, if_true]; omega) (P 0 2) (Nat.le_refl _)
  unfold aW
  omega
theorem urge_loop {q : Nat → Nat → Int64} {P : Nat → Nat → Nat} {U : Nat → Nat} {R : Option Nat} {kept : Int32} {a b : Nat} (ha : a ∈ PB) (hb : b ∈ SB) (hU : ∀ p, p < P 0 2 → U p ≤ 99) : ∀ (d i f : Nat) (m : Nat → Nat → Int32), i + d = P 0 2 → d < f → PR (blk m a) P → (∀ p, p < P 0 2 → m (b + 3) p = nI (if p < i then min 99 (U p + 1) else U p)) →
    ∃ m1 f1, 0 < f1 ∧ B_X9_pass_3 f 198 a R b kept (nI i) (KS, m, q) = B_X9_pass_3 f1 198 a R b kept (nI (P 0 2)) (KS, m1, q) ∧ (∀ j, j ≠ b + 3 → m1 j = m j) ∧ (∀ p, p < P 0 2 → m1 (b + 3) p = nI (min 99 (U p + 1))) := by
  have hl := sb_lt hb
  have hla := pb_lt ha
  have hab := pb_sb ha hb
  intro d
  induction d with
  | zero =>
    intro i f m hi hf hP hm
    have hi : i = P 0 2 := by omega
    subst hi
    exact ⟨m, f, by omega, rfl, fun _ _ => rfl, fun p hp => by rw [hm p hp, if_pos hp]⟩
  | succ d ih =>
    intro i f m hi hf hP hm
    obtain ⟨f, rfl⟩ : ∃ g, f = g + 1 := ⟨f - 1, by omega⟩
    have hN : m a 2 = nI (P 0 2) := hP.1.2.2.1
    have hb2 := hP.2.1
    have hil : i < P 0 2 := by omega
    have hUi := hU i hil
    have hk : ∀ j, j ≠ b + 3 → mk_u2 m (b + 3) i (nI (min 99 (U i + 1))) j = m j := fun j h => mk_u2_ne h
    obtain ⟨m1, f1, z0, z1, z2, z3⟩ := ih (i + 1) f (mk_u2 m (b + 3) i (nI (min 99 (U i + 1)))) (by omega) (by omega) (hP.keep (fun j hj => hk _ (by omega))) (fun p hp => by
      rw [u2_at]
      by_cases e : p = i
      · subst e
        rw [if_pos ⟨rfl, rfl⟩, if_pos (by omega)]
      · rw [if_neg (by omega), hm p hp]
        have e2 : p < i + 1 ↔ p < i := by omega
        simp only [e2])
    refine ⟨m1, f1, z0, ?_, fun j h => (z2 j h).trans (hk j h), z3⟩
    rw [← z1, B_X9_pass_3]
    simp only [pb_g ha, Option.bind_some, hN]
    rw [if_neg (nI_ge hil (by omega)), s_urgeOn hb (by omega), Option.bind_some, hm i hil, if_neg (Nat.lt_irrefl i), nI_1, nI_1, mn99_n (by omega)]
