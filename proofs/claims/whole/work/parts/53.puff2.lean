theorem nx_val {S r k way r1 k1 : Nat} (hw : way < 4) (h : nxR S r k way = some (r1, k1)) : nI r + dR way = nI r1 ∧ nI k + dK way = nI k1 := by
  rcases (show way = 0 ∨ way = 1 ∨ way = 2 ∨ way = 3 by omega) with e | e | e | e <;> subst e <;> simp only [nxR] at h <;> split at h <;> first | (cases h; done) | (simp only [Option.some.injEq, Prod.mk.injEq] at h; obtain ⟨e1, e2⟩ := h; subst e1; subst e2; simp only [dR, dK])
  · exact ⟨nI_m1 (by omega), Int32.add_zero _⟩
  · exact ⟨Int32.add_zero _, nI_1 _⟩
  · exact ⟨nI_1 _, Int32.add_zero _⟩
  · exact ⟨Int32.add_zero _, nI_m1 (by omega)⟩
theorem rz_ok0 (t : mk_S) : mk_rz 0 t = some (0, t) := rfl
theorem rz_ok1 (t : mk_S) : mk_rz 1 t = some (1, t) := rfl
theorem has_some {m : Nat → Nat → Int32} {q : Nat → Nat → Int64} {a S r k : Nat} (ha : a ∈ PB) (hS : m a 0 = nI S) (hS2 : S ≤ 100) (hr : r < S) (hk : k < S) : F_X3_has a (nI r) (nI k) (KS, m, q) = some (1, (KS, m, q)) := by
  unfold F_X3_has
  rw [pb_gd ha]
  simp only [pb_g ha, Option.bind_some, hS]
  rw [if_neg (nI_pos (by omega)), if_neg (nI_ge hr (by omega)), if_neg (nI_pos (by omega)), if_neg (nI_ge hk (by omega))]
  rfl
theorem has_none {m : Nat → Nat → Int32} {q : Nat → Nat → Int64} {a S r k way : Nat} (ha : a ∈ PB) (hS : m a 0 = nI S) (hS2 : S ≤ 100) (hr : r < S) (hk : k < S) (hw : way < 4) (h : nxR S r k way = none) : F_X3_has a (nI r + dR way) (nI k + dK way) (KS, m, q) = some (0, (KS, m, q)) := by
  unfold F_X3_has
  rw [pb_gd ha]
  simp only [pb_g ha, Option.bind_some, hS]
  rcases (show way = 0 ∨ way = 1 ∨ way = 2 ∨ way = 3 by omega) with e | e | e | e <;> subst e <;> simp only [nxR] at h <;> split at h <;> first | (cases h; done) | simp only [dR, dK, Int32.add_zero]
  · rename_i h0
    subst h0
    rw [if_pos (by decide)]
    rfl
  · rw [if_neg (nI_pos (by omega)), if_neg (nI_ge hr (by omega)), nI_1, if_neg (nI_pos (by omega)), if_pos (nI_le (by omega) (by omega))]
    rfl
  · rw [nI_1, if_neg (nI_pos (by omega)), if_pos (nI_le (by omega) (by omega))]
    rfl
  · rename_i h0
    subst h0
    rw [if_neg (nI_pos (by omega)), if_neg (nI_ge hr (by omega)), if_pos (by decide)]
    rfl
theorem puff_loop {q : Nat → Nat → Int64} {a w S way : Nat} (ha : a ∈ PB) (hw : way < 4) (hS : S ≤ 6) (hwa : KS[w]? = some (100, 36, [])) (hap : ¬ w = a) (hw2 : w < 2000000) : ∀ (u r k f : Nat) (m : Nat → Nat → Int32), EX m → m a 0 = nI S → r < S → k < S → u < f → u ≤ 1000 →
    ∃ m1, B_X9_puff_42 f a w (nI r) (nI k) (nI way) (nI u) (KS, m, q) = some ((), (KS, m1, q)) ∧ (∀ i, i ≠ w → m1 i = m i) ∧ (∀ c, c < S * S → m1 w c = m w c + nI (pfR r k way u (c / S) (c % S))) ∧ (∀ c, S * S ≤ c → m1 w c = m w c) := by
  intro u
  induction u with
  | zero =>
    intro r k f m hE hm hr hk hf _
    obtain ⟨f, rfl⟩ : ∃ g, f = g + 1 := ⟨f - 1, by omega⟩
    rw [B_X9_puff_42, if_pos (by decide)]
    refine ⟨m, rfl, fun _ _ => rfl, fun c _ => ?_, fun _ _ => rfl⟩
    rw [pfR_0]
    exact (Int32.add_zero _).symm
  | succ u ih =>
    intro r k f m hE hm hr hk hf hu
    obtain ⟨f, rfl⟩ : ∃ g, f = g + 1 := ⟨f - 1, by omega⟩
    rw [B_X9_puff_42, if_neg (nI_nle (by omega) (by omega)), (ex_row hE hw).1, Option.bind_some, (ex_row hE hw).2, Option.bind_some]
    have hdiv : ∀ c, c < S * S → c / S < S ∧ c % S < S := fun c hc => ⟨Nat.div_lt_of_lt_mul hc, Nat.mod_lt _ (by omega)⟩
    cases hn : nxR S r k way with
    | none =>
      rw [has_none ha hm (by omega) hr hk hw hn, Option.bind_some, if_pos rfl]
      refine ⟨m, rfl, fun _ _ => rfl, fun c hc => ?_, fun _ _ => rfl⟩
      rw [pfR_none hw hr hk (hdiv c hc).1 (hdiv c hc).2 hn]
      exact (Int32.add_zero _).symm
    | some z =>
      obtain ⟨r1, k1⟩ := z
      obtain ⟨e1, e2⟩ := nx_val hw hn
      obtain ⟨hr1, hk1⟩ := nxR_lt hr hk hn
      have hcl := cell_lt hr1 hk1
      have hSS : S * S ≤ 36 := Nat.mul_le_mul hS hS
      rw [e1, e2, has_some ha hm (by omega) hr1 hk1, Option.bind_some, if_neg (show ¬ (1 : Int32) = 0 by decide)]
      simp only [pb_g ha, Option.bind_some, hm]
      rw [len_ok hwa (by omega) hw2, Option.bind_some, pk_mul, nI_add, if_neg (nI_ge (by omega) (by omega)), ld_ok hwa hw2 (by omega) (by omega), Option.bind_some, st_ok hwa (by omega) (by omega), Option.bind_some]
      unfold B_X9_puff_109
      rw [pk_m1]
      have hEX : EX (mk_u2 m w (r1 * S + k1) (mk_nar 100 (m w (r1 * S + k1) + nI (u + 1)))) := by
        unfold EX
        simp only [mk_u2_ne (show (2000000 : Nat) ≠ w by omega), mk_u2_ne (show (2000001 : Nat) ≠ w by omega)]
        exact hE
      obtain ⟨m1, h1, h2, h3, h4⟩ := ih r1 k1 f (mk_u2 m w (r1 * S + k1) (mk_nar 100 (m w (r1 * S + k1) + nI (u + 1)))) hEX (by rw [mk_u2_ne (fun e => hap e.symm)]; exact hm) hr1 hk1 (by omega) (by omega)
      refine ⟨m1, h1, fun i hi => (h2 i hi).trans (mk_u2_ne hi), fun c hc => ?_, fun c hc => ?_⟩
      · rw [h3 c hc, u2_at, pfR_some hw hr hk (hdiv c hc).1 (hdiv c hc).2 hn]
        by_cases e : c = r1 * S + k1
        · obtain ⟨g1, g2⟩ := cell_rc hk1 e
          rw [if_pos ⟨rfl, e⟩, if_pos ⟨g1, g2⟩, ← nI_add (u + 1) (pfR r1 k1 way u (c / S) (c % S)), ← e]
          show m w c + nI (u + 1) + _ = _
          rw [Int32.add_assoc]
        · rw [if_neg (fun h => e h.2), if_neg, Nat.zero_add]
          rintro ⟨g1, g2⟩
          apply e
          rw [← g1, ← g2, Nat.mul_comm]
          exact (Nat.div_add_mod c S).symm
      · rw [h4 c hc, u2_at, if_neg]
        rintro ⟨-, g⟩
        omega
