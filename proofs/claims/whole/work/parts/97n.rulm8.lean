/-! RULES told: the reference; the loop of a test -/
set_option maxRecDepth 4000 in
theorem t9D {T : TT} {r fl f : Nat} {m : Nat → Nat → Int32} {q : Nat → Nat → Int64} {x : Int32} (h : DD T r m fl) : B_X12_test_9 (f + 1) 996 x (nI 1) (KS, m, q) = some ((), (KS, m, q)) := by
  obtain ⟨h1, h2, h3, h4, h5⟩ := h
  rw [B_X12_test_9]
  simp (disch := omega) only [lit, eq_F, reduceIte, gim_29, ob_some, h2]
set_option maxRecDepth 4000 in
theorem t9E {f : Nat} {m : Nat → Nat → Int32} {q : Nat → Nat → Int64} {x : Int32} : B_X12_test_9 (f + 1) 996 x (nI 0) (KS, m, q) = some ((), (KS, m, q)) := by
  rw [B_X12_test_9]
  simp (disch := omega) only [lit, eq_T, reduceIte]
set_option maxRecDepth 4000 in
theorem okLbd3 {st : List Nat} (h : okL st) : ∀ x r, st = x :: r → bd x ≤ 3 := fun x r e => by have := h.bd x r e; omega
set_option maxRecDepth 4000 in
theorem tsL {T : TT} {r o : Nat} {cl : RT} {c1 : List (Nat × Nat)} {q : Nat → Nat → Int64} (hr : r < 6) (ho : o = lenR cl + c1.length) : ∀ (n f w : Nat) (m : Nat → Nat → Int32) (x : RG), 2 * (T.1 - x.2.1) + w ≤ n → n + 2 < f → (w = 1 ∧ W1 T r o m x cl c1) ∨ (w = 0 ∧ W0 T r o m x cl c1) → ∃ m1, B_X12_test_9 f 996 (nI w) (nI 1) (KS, m, q) = some ((), (KS, m1, q)) ∧ FrT r o m m1 ∧ ((∃ fl, Rc T x (ft fl) ∧ DD T r m1 fl) ∨ ∃ x', Rc T x x' ∧ TE T r o m1 x' cl c1) := by
  intro n
  induction n with
  | zero =>
    intro f w m x hn hf h
    obtain ⟨f, rfl⟩ : ∃ g, f = g + 1 := ⟨f - 1, by omega⟩
    obtain ⟨f, rfl⟩ : ∃ g, f = g + 1 := ⟨f - 1, by omega⟩
    have hw : w = 0 := by omega
    subst hw
    have h : W0 T r o m x cl c1 := by
      rcases h with ⟨h, -⟩ | ⟨-, h⟩
      · omega
      · exact h
    have hfar : ∀ x', R1 T x x' → x.2.1 < x'.2.1 → Gv T x' → x'.1 = 0 → False := fun x' _ h1 h2 h0 => by
      obtain ⟨fa, a, rest⟩ := x'
      have h0 : fa = 0 := h0
      have h1 : x.2.1 < a := h1
      obtain ⟨nx, pt, st, it, cl', c1', cd⟩ := rest
      have := (h2.2 h0).1
      omega
    obtain ⟨m1, a1, a2⟩ := t0M (q := q) (f := f + 1) hr ho h
    rcases a2 with ⟨fl, b1, b2, b3⟩ | ⟨b1, b2⟩ | ⟨x', b1, b2, b3, b4⟩ | ⟨x', b1, b2, b3, b4⟩
    · exact ⟨m1, b3.trans (t9D b2), a1, .inl ⟨fl, b1.rc, b2⟩⟩
    · exact ⟨m1, b2.trans t9E, a1, .inr ⟨x, Rc.rf, b1⟩⟩
    · exfalso
      obtain ⟨a, pt, st, it, cd, p, rfl, -, -, -, -, -, -, -, -, hG⟩ := b3
      exact hfar _ b1 b2 hG rfl
    · exfalso
      obtain ⟨a, pt, st, it, cd, U, p, rfl, -, -, -, -, -, -, -, -, -, -, -, hG⟩ := b3
      exact hfar _ b1 b2 hG rfl
  | succ n ih =>
    intro f w m x hn hf h
    obtain ⟨f, rfl⟩ : ∃ g, f = g + 1 := ⟨f - 1, by omega⟩
    rcases h with ⟨hw, h⟩ | ⟨hw, h⟩
    · subst hw
      obtain ⟨a, pt, st, it, cd, p, rfl, hM, hsp, hO, hok, hS, hd, hty, hpu, hG⟩ := h
      have hn : 2 * (T.1 - a) + 1 ≤ n + 1 := hn
      obtain ⟨hT4, hb⟩ := hM.bt
      have h29 := hM.2.2.2.1
      obtain ⟨m1, b, a1, a2, a3, a4⟩ := faM (q := q) hr ho hok hM hsp hO hd hty hpu hG
      rcases a4 with ⟨fl, b1, b2⟩ | ⟨b0, e, g, b1, b2, b3, b4, b5, b6⟩ | ⟨b0, x', b1, b2, b3, b4, b5⟩
      · obtain ⟨f, rfl⟩ : ∃ g, f = g + 1 := ⟨f - 1, by omega⟩
        refine ⟨m1, ?_, a3, .inl ⟨fl, b1.rc, b2⟩⟩
        have ht := fun x => t9D (q := q) (f := f) (x := x) b2
        rw [B_X12_test_9]
        unfold B_X12_test_36
        rcases (show b = 0 ∨ b = 1 by omega) with z | z <;> subst z <;> simp (disch := omega) only [lit, eq_T, eq_F, reduceIte, gim_29, ob_some, h29, a1, ht]
      · subst b0
        have hG1 := hG.r1 hT4 hb b1
        have hel := (hG1.2 rfl).1
        obtain ⟨m2, z1, z2, z3⟩ := ih f 1 m1 (0, e, 2, pt, g :: st, it, cl, c1, cd) (by show 2 * (T.1 - e) + 1 ≤ n; omega) (by omega) (.inl ⟨rfl, e, pt, g :: st, it, cd, e, rfl, b2, rfl, b3, fun z hz => by
            rcases List.mem_cons.mp hz with hz | hz
            · rw [hz]; omega
            · exact hok z hz, ⟨fun c r e => by
              rcases b4 with z | z
              · exact .inl z
              · right
                have := okLbd3 hok c r e
                have h3 : bd 315 = 3 := rfl
                rw [z, h3]; exact this, hS⟩, b5, by
              have : ao (g :: st) = ao st := by
                simp only [ao]
                rw [if_neg (by omega)]
                rfl
              rw [this]; exact hty, hpu, hG1⟩)
        refine ⟨m2, ?_, a3.trans z2 (Nat.le_refl _), ?_⟩
        · rw [← z1, B_X12_test_9]
          unfold B_X12_test_36
          simp (disch := omega) only [lit, eq_T, eq_F, reduceIte, gim_29, ob_some, h29, a1]
        · rcases z3 with ⟨fl, y1, y2⟩ | ⟨x', y1, y2⟩
          · exact .inl ⟨fl, (b1.c y1).rc, y2⟩
          · exact .inr ⟨x', (b1.c y1).rc, y2⟩
      · subst b0
        obtain ⟨a', it', cd', U, rfl, k1, k2, k3, k4, k5⟩ := b2
        have b5 : a ≤ a' := b5
        obtain ⟨m2, z1, z2, z3⟩ := ih f 0 m1 (0, a', 3, 2, U ++ st, it', cl, c1, cd') (by show 2 * (T.1 - a') + 0 ≤ n; omega) (by omega) (.inr ⟨rfl, a', 2, st, it', cd', U, sp isB T a', rfl, k1, sp_sp hB a', k2, Nat.le_refl _, fun _ => b3, b4, hok, hS, hd, k3, k4, k5⟩)
        refine ⟨m2, ?_, a3.trans z2 (Nat.le_refl _), ?_⟩
        · rw [← z1, B_X12_test_9]
          unfold B_X12_test_36
          simp (disch := omega) only [lit, eq_T, eq_F, reduceIte, gim_29, ob_some, h29, a1]
        · rcases z3 with ⟨fl, y1, y2⟩ | ⟨x', y1, y2⟩
          · exact .inl ⟨fl, (b1.c y1).rc, y2⟩
          · exact .inr ⟨x', (b1.c y1).rc, y2⟩
    · subst hw
      have hfar : ∀ x', x.2.1 < x'.2.1 → Gv T x' → x'.1 = 0 → x'.2.1 ≤ T.1 := fun x' h1 h2 h0 => by
        obtain ⟨fa, a, nx, pt, st, it, cl', c1', cd⟩ := x'
        exact (h2.2 h0).1
      obtain ⟨m1, a1, a2⟩ := t0M (q := q) (f := f) hr ho h
      rcases a2 with ⟨fl, b1, b2, b3⟩ | ⟨b1, b2⟩ | ⟨x', b1, b2, b3, b4⟩ | ⟨x', b1, b2, b3, b4⟩
      · obtain ⟨f, rfl⟩ : ∃ g, f = g + 1 := ⟨f - 1, by omega⟩
        exact ⟨m1, b3.trans (t9D b2), a1, .inl ⟨fl, b1.rc, b2⟩⟩
      · obtain ⟨f, rfl⟩ : ∃ g, f = g + 1 := ⟨f - 1, by omega⟩
        exact ⟨m1, b2.trans t9E, a1, .inr ⟨x, Rc.rf, b1⟩⟩
      · have hx : x'.2.1 ≤ T.1 := by
          obtain ⟨a, pt, st, it, cd, p, rfl, -, -, -, -, -, -, -, -, hG⟩ := id b3
          exact hfar _ b2 hG rfl
        obtain ⟨m2, z1, z2, z3⟩ := ih f 1 m1 x' (by omega) (by omega) (.inl ⟨rfl, b3⟩)
        refine ⟨m2, b4.trans z1, a1.trans z2 (Nat.le_refl _), ?_⟩
        rcases z3 with ⟨fl, y1, y2⟩ | ⟨x2, y1, y2⟩
        · exact .inl ⟨fl, (b1.c y1).rc, y2⟩
        · exact .inr ⟨x2, (b1.c y1).rc, y2⟩
      · have hx : x'.2.1 ≤ T.1 := by
          obtain ⟨a, pt, st, it, cd, U, p, rfl, -, -, -, -, -, -, -, -, -, -, -, hG⟩ := id b3
          exact hfar _ b2 hG rfl
        obtain ⟨m2, z1, z2, z3⟩ := ih f 0 m1 x' (by omega) (by omega) (.inr ⟨rfl, b3⟩)
        refine ⟨m2, b4.trans z1, a1.trans z2 (Nat.le_refl _), ?_⟩
        rcases z3 with ⟨fl, y1, y2⟩ | ⟨x2, y1, y2⟩
        · exact .inl ⟨fl, (b1.c y1).rc, y2⟩
        · exact .inr ⟨x2, (b1.c y1).rc, y2⟩
set_option maxRecDepth 4000 in
/-- a whole test -/
theorem tsM {T : TT} {r o pt a p it : Nat} {cl : RT} {c1 : List (Nat × Nat)} {m : Nat → Nat → Int32} {q : Nat → Nat → Int64} (hr : r < 6) (ho : o = lenR cl + c1.length) (h : MB T r o m p [] it) (hsp : sp isB T p = sp isB T a) (h33 : m 996 33 = nI 0) (hG : Gv T (0, a, 2, pt, [], it, cl, c1, [])) : ∃ m1, F_X12_test 996 (KS, m, q) = some ((), (KS, m1, q)) ∧ FrT r o m m1 ∧ ((∃ fl, Rc T (0, a, 2, pt, [], it, cl, c1, []) (ft fl) ∧ DD T r m1 fl) ∨ ∃ x', Rc T (0, a, 2, pt, [], it, cl, c1, []) x' ∧ TE T r o m1 x' cl c1) := by
  have hT4 := h.bt.1
  have hM : MB T r o (mk_u2 m 996 35 (nI 0)) p [] it := h.x (fun j a1 a2 => by rw [mk_u2_ne a1]) (fun k a1 a2 => by rw [u2_b a2])
  obtain ⟨m1, z1, z2, z3⟩ := tsL (q := q) hr ho (2 * (T.1 - a) + 1) mk_fu 1 (mk_u2 m 996 35 (nI 0)) (0, a, 2, pt, [], it, cl, c1, []) (Nat.le_refl _) (by rw [mk_fu_eq]; omega) (.inl ⟨rfl, a, pt, [], it, [], p, rfl, hM, hsp, ⟨u2_s, by rw [u2_b (by omega)]; exact h33, trivial⟩, fun x hx => by simp at hx, trivial, Nat.zero_le _, rfl, Nat.zero_le _, hG⟩)
  refine ⟨m1, ?_, (FrT.rf.up (by omega)).trans z2 (Nat.le_refl _), z3⟩
  unfold F_X12_test
  simp only [gdm, lit, pim_35, ob_some]
  exact z1
