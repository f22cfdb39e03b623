/-! for evaluating by simp: numbers -/
set_option maxRecDepth 4000 in
theorem lit (n : Nat) : (OfNat.ofNat n : Int32) = nI n := Int32.toInt_inj.mp rfl
set_option maxRecDepth 4000 in
theorem ob_some {α β : Type} (a : α) (f : α → Option β) : (some a).bind f = f a := by simp
set_option maxRecDepth 4000 in
theorem le_T {a b : Nat} (h : a ≤ b) (hb : b < 2147483648) : (nI a ≤ nI b) = True := eq_true (nI_le h hb)
set_option maxRecDepth 4000 in
theorem le_F {a b : Nat} (h : b < a) (ha : a < 2147483648) : (nI a ≤ nI b) = False := eq_false (nI_ge h ha)
set_option maxRecDepth 4000 in
theorem lt_T {a b : Nat} (h : a < b) (hb : b < 2147483648) : (nI a < nI b) = True := eq_true (nI_lt h hb)
set_option maxRecDepth 4000 in
theorem lt_F {a b : Nat} (h : b ≤ a) (ha : a < 2147483648) : (nI a < nI b) = False := eq_false (nI_nlt h ha)
set_option maxRecDepth 4000 in
theorem eq_T {a b : Nat} (h : a = b) : (nI a = nI b) = True := eq_true (by rw [h])
set_option maxRecDepth 4000 in
theorem eq_F {a b : Nat} (h : a ≠ b) (ha : a < 2147483648) (hb : b < 2147483648) : (nI a = nI b) = False := eq_false (fun e => h ((nI_eq ha hb).mp e))
set_option maxRecDepth 4000 in
theorem le_I {a b : Nat} (ha : a < 2147483648) (hb : b < 2147483648) : (nI a ≤ nI b) = (a ≤ b) := propext (nI_leI ha hb)
set_option maxRecDepth 4000 in
theorem lt_I {a b : Nat} (ha : a < 2147483648) (hb : b < 2147483648) : (nI a < nI b) = (a < b) := propext (nI_ltI ha hb)
set_option maxRecDepth 4000 in
theorem eq_I {a b : Nat} (ha : a < 2147483648) (hb : b < 2147483648) : (nI a = nI b) = (a = b) := propext (nI_eq ha hb)
set_option maxRecDepth 4000 in
theorem m1_F {a : Nat} (h : a < 2147483648) : (nI a = (-1 : Int32)) = False := eq_false (fun e => absurd (e ▸ nI_pos h : ¬ (-1 : Int32) < 0) (by decide))
set_option maxRecDepth 4000 in
theorem m1_G {a : Nat} (h : a < 2147483648) : ((-1 : Int32) = nI a) = False := eq_false (fun e => absurd (e ▸ nI_pos h : ¬ (-1 : Int32) < 0) (by decide))
set_option maxRecDepth 4000 in
theorem m1_le {a : Nat} (h : a < 2147483648) : (nI a ≤ (-1 : Int32)) = False := eq_false (fun e => absurd (Int32.le_trans (nI_pos' h) e) (by decide))
set_option maxRecDepth 4000 in
theorem m1_lt {a : Nat} (h : a < 2147483648) : (nI a < (-1 : Int32)) = False := eq_false (fun e => absurd (Int32.lt_of_le_of_lt (nI_pos' h) e) (by decide))
set_option maxRecDepth 4000 in
theorem m1_T {a : Nat} (h : a < 2147483648) : ((-1 : Int32) < nI a) = True := eq_true (Int32.lt_of_lt_of_le (by decide) (nI_pos' h))
set_option maxRecDepth 4000 in
theorem m1_U {a : Nat} (h : a < 2147483648) : ((-1 : Int32) ≤ nI a) = True := eq_true (Int32.le_of_lt (Int32.lt_of_lt_of_le (by decide) (nI_pos' h)))
set_option maxRecDepth 4000 in
theorem rem_S {a d : Nat} (ha : a < 2147483648) (h0 : 0 < d) (hd : d < 2147483648) : nI a - nI (a / d) * nI d = nI (a % d) := by rw [← pk_div ha h0 hd]; exact pk_rem ha h0 hd
set_option maxRecDepth 4000 in
theorem up_to {x y : Nat} (hx : x < 2147483648) (hy : y < 2147483648) (t : mk_S) : F_X12_upTo (nI x) (nI y) t = some (nI (min y x), t) := by
  unfold F_X12_upTo
  by_cases h : x ≤ y
  · rw [if_pos (nI_le h hy), Nat.min_eq_right h]
  · rw [if_neg (nI_ge (by omega) hx), Nat.min_eq_left (by omega)]
/-! loops that count up -/
set_option maxRecDepth 4000 in
theorem loop_up {σ ρ : Type} (B : Nat → Nat → σ → Option ρ) (n : Nat) (Inv : Nat → σ → Prop) (step : ∀ f i s, i < n → Inv i s → ∃ s', B (f + 1) i s = B f (i + 1) s' ∧ Inv (i + 1) s') : ∀ (d i f : Nat) (s : σ), i + d = n → d < f → Inv i s → ∃ f1 s', B f i s = B (f1 + 1) n s' ∧ Inv n s' := by
  intro d
  induction d with
  | zero =>
    intro i f s hi hf h
    obtain rfl : i = n := by omega
    obtain ⟨g, rfl⟩ : ∃ g, f = g + 1 := ⟨f - 1, by omega⟩
    exact ⟨g, s, rfl, h⟩
  | succ d ih =>
    intro i f s hi hf h
    obtain ⟨g, rfl⟩ : ∃ g, f = g + 1 := ⟨f - 1, by omega⟩
    obtain ⟨s', e, h'⟩ := step g i s (by omega) h
    obtain ⟨f1, s2, e2, h2⟩ := ih (i + 1) g s' (by omega) (by omega) h'
    exact ⟨f1, s2, e.trans e2, h2⟩
set_option maxRecDepth 4000 in
/-- loops that may end early -/
theorem loop_or {σ ρ : Type} (B : Nat → Nat → σ → Option ρ) (n : Nat) (Inv : Nat → σ → Prop) (Post : ρ → Prop) (step : ∀ f i s, i < n → Inv i s → (∃ s', B (f + 1) i s = B f (i + 1) s' ∧ Inv (i + 1) s') ∨ ∃ r, B (f + 1) i s = some r ∧ Post r) : ∀ (d i f : Nat) (s : σ), i + d = n → d < f → Inv i s → (∃ f1 s', B f i s = B (f1 + 1) n s' ∧ Inv n s') ∨ ∃ r, B f i s = some r ∧ Post r := by
  intro d
  induction d with
  | zero =>
    intro i f s hi hf h
    obtain rfl : i = n := by omega
    obtain ⟨g, rfl⟩ : ∃ g, f = g + 1 := ⟨f - 1, by omega⟩
    exact .inl ⟨g, s, rfl, h⟩
  | succ d ih =>
    intro i f s hi hf h
    obtain ⟨g, rfl⟩ : ∃ g, f = g + 1 := ⟨f - 1, by omega⟩
    rcases step g i s (by omega) h with ⟨s', e, h'⟩ | ⟨r, e, h'⟩
    · rcases ih (i + 1) g s' (by omega) (by omega) h' with ⟨f1, s2, e2, h2⟩ | ⟨r, e2, h2⟩
      · exact .inl ⟨f1, s2, e.trans e2, h2⟩
      · exact .inr ⟨r, e.trans e2, h2⟩
    · exact .inr ⟨r, e, h'⟩
set_option maxRecDepth 4000 in
theorem tst1 (k : Nat) (h : k < 36) : (if nI k ≤ (36 : Int32) then 1 else 2) = 1 := by
  simp (disch := omega) only [lit, le_T, le_F, if_true]
