/-! what a rule is told of a PERSON -/
def nsum (f : Nat → Nat) : Nat → Nat
  | 0 => 0
  | n + 1 => nsum f n + f n
def pcn (o : Nat) : Nat → Nat
  | 0 => 0
  | k + 1 => pcn o k + o / 2 ^ k % 2
def pc (o : Nat) : Nat := pcn o 16
def wdn (P A : Nat → Nat → Nat) (p k : Nat) : Nat := match k with
  | 0 => p
  | 1 => A 3 p
  | 2 => P 2 p
  | 3 => A 2 p
  | 4 => A 1 p / P 0 0
  | 5 => A 1 p % P 0 0
  | 6 => A 7 (A 1 p)
  | 7 => A 4 p
  | 8 => A 5 p
  | 9 => nsum (A 6) (P 0 3)
  | 10 => pc (A 0 0)
  | _ => A 0 1
def wds (P A : Nat → Nat → Nat) (p k : Nat) : Int64 := (nI (wdn P A p k)).toInt64
def gsay (P A : Nat → Nat → Nat) (ρ : Option RT) (p : Nat) : Bool := match ρ with
  | none => decide (P 2 p < A 3 p)
  | some ρ => rsay (wds P A p) ρ
set_option maxRecDepth 4000 in
theorem bitc0 : ∀ o, o < 128 → (F_J6_bitCount_0f7a4 (nI o) ([], fun _ _ => 0, fun _ _ => 0)).map (fun z => z.1) = some (nI (pc o)) := by decide +kernel
set_option maxRecDepth 4000 in
theorem bitc {o : Nat} (h : o < 128) (t : mk_S) : F_J6_bitCount_0f7a4 (nI o) t = some (nI (pc o), t) := by
  have e := bitc0 o h
  unfold F_J6_bitCount_0f7a4 at e ⊢
  simp only [Option.map_some, Option.some.injEq] at e
  rw [e]
set_option maxRecDepth 4000 in
theorem bit_sh0 : ∀ o, o < 128 → ∀ k, k < 16 → (nI o >>> (nI k &&& nI 31)) &&& nI 1 = nI (o / 2 ^ k % 2) := by decide +kernel
set_option maxRecDepth 4000 in
theorem bits_ok {o : Nat} (h : o < 128) (t : mk_S) : F_X12_bits (nI o) t = some (nI (pc o), t) := by
  obtain ⟨f1, s, e, hs⟩ := loop_up (fun f i (s : Int32) => B_X12_bits_4 f (nI o) s (nI i) t) 16 (fun i s => s = nI (pcn o i)) (by
    rintro f i s hi rfl
    refine ⟨nI (pcn o (i + 1)), ?_, rfl⟩
    simp only [B_X12_bits_4]
    simp (disch := omega) only [lit, le_T, le_F, lt_T, lt_F, eq_T, eq_F, nI_add, reduceIte, bit_sh0 o h, pcn]) 16 0 mk_fu (nI 0) (by omega) (by rw [mk_fu_eq]; omega) rfl
  subst hs
  unfold F_X12_bits
  refine Eq.trans e ?_
  simp only [B_X12_bits_4]
  simp (disch := omega) only [lit, le_T, le_F, lt_T, lt_F, eq_T, eq_F, nI_add, reduceIte]
  rfl
set_option maxRecDepth 4000 in
theorem pc16 : ∀ o, o < 16 → pc o ≤ 4 := by decide +kernel
set_option maxRecDepth 4000 in
theorem nsum_le {f : Nat → Nat} {B : Nat} : ∀ {n : Nat}, (∀ k, k < n → f k ≤ B) → nsum f n ≤ B * n
  | 0, _ => by simp [nsum]
  | n + 1, h => by
    have := nsum_le (n := n) (fun k hk => h k (by omega))
    have := h n (by omega)
    rw [nsum, Nat.mul_succ]
    omega
set_option maxRecDepth 4000 in
theorem bx_nsum {g : Nat → Int32} {f : Nat → Nat} : ∀ {n : Nat}, (∀ k, k < n → g k = nI (f k)) → bx_sum g n = nI (nsum f n)
  | 0, _ => rfl
  | n + 1, h => by
    show bx_sum g n + g n = _
    rw [bx_nsum (fun k hk => h k (by omega)), h n (by omega), nI_add]
    rfl
set_option maxRecDepth 4000 in
theorem bx_ext {g : Nat → Int32} {n : Nat} : ∀ (d : Nat), (∀ k, n ≤ k → k < n + d → g k = 0) → bx_sum g (n + d) = bx_sum g n
  | 0, _ => rfl
  | d + 1, h => by
    show bx_sum g (n + d) + g (n + d) = _
    rw [h (n + d) (by omega) (by omega), Int32.add_zero]
    exact bx_ext d (fun k h1 h2 => h k h1 (by omega))
set_option maxRecDepth 4000 in
theorem bx_all {g : Nat → Int32} {f : Nat → Nat} {n N : Nat} (hn : n ≤ N) (h : ∀ k, k < n → g k = nI (f k)) (h0 : ∀ k, n ≤ k → k < N → g k = 0) : bx_sum g N = nI (nsum f n) := by
  obtain ⟨d, rfl⟩ : ∃ d, N = n + d := ⟨N - n, by omega⟩
  rw [bx_ext d h0, bx_nsum h]
set_option maxRecDepth 4000 in
theorem sb_ld {a : Nat} (ha : a ∈ SB) (m : Nat → Nat → Int32) (q : Nat → Nat → Int64) {j : Nat} : (j < 6 → mk_ld 100 (KS, m, q) (a + 1) (nI j) = some (m (a + 1) j)) ∧ (j < 6 → mk_ld 100 (KS, m, q) (a + 2) (nI j) = some (m (a + 2) j)) ∧ (j < 6 → mk_ld 100 (KS, m, q) (a + 3) (nI j) = some (m (a + 3) j)) ∧ (j < 6 → mk_ld 100 (KS, m, q) (a + 4) (nI j) = some (m (a + 4) j)) ∧ (j < 6 → mk_ld 100 (KS, m, q) (a + 5) (nI j) = some (m (a + 5) j)) ∧ (j < 4 → mk_ld 100 (KS, m, q) (a + 6) (nI j) = some (m (a + 6) j)) ∧ (j < 36 → mk_ld 100 (KS, m, q) (a + 7) (nI j) = some (m (a + 7) j)) := by
  obtain ⟨h0, h1, h2, h3, h4, h5, h6, h7⟩ := sb_all ha
  have hl := sb_lt ha
  refine ⟨?_, ?_, ?_, ?_, ?_, ?_, ?_⟩ <;> intro h <;> first | exact ld_ok h1 (by omega) h (by omega) | exact ld_ok h2 (by omega) h (by omega) | exact ld_ok h3 (by omega) h (by omega) | exact ld_ok h4 (by omega) h (by omega) | exact ld_ok h5 (by omega) h (by omega) | exact ld_ok h6 (by omega) h (by omega) | exact ld_ok h7 (by omega) h (by omega)
set_option maxRecDepth 4000 in
theorem sb_st {a : Nat} (ha : a ∈ SB) (m : Nat → Nat → Int32) (q : Nat → Nat → Int64) {j : Nat} {x : Int32} : (j < 6 → mk_st 100 (KS, m, q) (a + 1) (nI j) x = some (KS, mk_u2 m (a + 1) j x, q)) ∧ (j < 6 → mk_st 100 (KS, m, q) (a + 2) (nI j) x = some (KS, mk_u2 m (a + 2) j x, q)) ∧ (j < 6 → mk_st 100 (KS, m, q) (a + 3) (nI j) x = some (KS, mk_u2 m (a + 3) j x, q)) ∧ (j < 6 → mk_st 100 (KS, m, q) (a + 4) (nI j) x = some (KS, mk_u2 m (a + 4) j x, q)) ∧ (j < 6 → mk_st 100 (KS, m, q) (a + 5) (nI j) x = some (KS, mk_u2 m (a + 5) j x, q)) ∧ (j < 4 → mk_st 100 (KS, m, q) (a + 6) (nI j) x = some (KS, mk_u2 m (a + 6) j x, q)) ∧ (j < 36 → mk_st 100 (KS, m, q) (a + 7) (nI j) x = some (KS, mk_u2 m (a + 7) j x, q)) := by
  obtain ⟨h0, h1, h2, h3, h4, h5, h6, h7⟩ := sb_all ha
  have hl := sb_lt ha
  refine ⟨?_, ?_, ?_, ?_, ?_, ?_, ?_⟩ <;> intro h <;> first | exact st_ok h1 h (by omega) | exact st_ok h2 h (by omega) | exact st_ok h3 h (by omega) | exact st_ok h4 h (by omega) | exact st_ok h5 h (by omega) | exact st_ok h6 h (by omega) | exact st_ok h7 h (by omega)
set_option maxRecDepth 4000 in
theorem pb_ld {a : Nat} (ha : a ∈ PB) (m : Nat → Nat → Int32) (q : Nat → Nat → Int64) {j : Nat} : (j < 6 → mk_ld 100 (KS, m, q) (a + 1) (nI j) = some (m (a + 1) j)) ∧ (j < 6 → mk_ld 100 (KS, m, q) (a + 2) (nI j) = some (m (a + 2) j)) ∧ (j < 6 → mk_ld 100 (KS, m, q) (a + 3) (nI j) = some (m (a + 3) j)) ∧ (j < 4 → mk_ld 100 (KS, m, q) (a + 4) (nI j) = some (m (a + 4) j)) ∧ (j < 4 → mk_ld 100 (KS, m, q) (a + 5) (nI j) = some (m (a + 5) j)) ∧ (j < 4 → mk_ld 100 (KS, m, q) (a + 6) (nI j) = some (m (a + 6) j)) ∧ (j < 4 → mk_ld 100 (KS, m, q) (a + 7) (nI j) = some (m (a + 7) j)) := by
  obtain ⟨h0, h1, h2, h3, h4, h5, h6, h7⟩ := pb_all ha
  have hl := pb_lt ha
  refine ⟨?_, ?_, ?_, ?_, ?_, ?_, ?_⟩ <;> intro h <;> first | exact ld_ok h1 (by omega) h (by omega) | exact ld_ok h2 (by omega) h (by omega) | exact ld_ok h3 (by omega) h (by omega) | exact ld_ok h4 (by omega) h (by omega) | exact ld_ok h5 (by omega) h (by omega) | exact ld_ok h6 (by omega) h (by omega) | exact ld_ok h7 (by omega) h (by omega)
def twelve (q : Nat → Nat → Int64) (i : Nat) (w : Nat → Int64) : Nat → Nat → Int64 := mk_u2 (mk_u2 (mk_u2 (mk_u2 (mk_u2 (mk_u2 (mk_u2 (mk_u2 (mk_u2 (mk_u2 (mk_u2 (mk_u2 q i 0 (w 0)) i 1 (w 1)) i 2 (w 2)) i 3 (w 3)) i 4 (w 4)) i 5 (w 5)) i 6 (w 6)) i 7 (w 7)) i 8 (w 8)) i 9 (w 9)) i 10 (w 10)) i 11 (w 11)
set_option maxRecDepth 4000 in
theorem twelve_at {q : Nat → Nat → Int64} {i : Nat} {w : Nat → Int64} : ∀ k, k < 12 → twelve q i w i k = w k := by
  intro k hk
  unfold twelve
  rcases (show k = 0 ∨ k = 1 ∨ k = 2 ∨ k = 3 ∨ k = 4 ∨ k = 5 ∨ k = 6 ∨ k = 7 ∨ k = 8 ∨ k = 9 ∨ k = 10 ∨ k = 11 by omega) with h | h | h | h | h | h | h | h | h | h | h | h <;> subst h <;> simp (disch := omega) only [u2_s, u2_a, u2_b]
set_option maxRecDepth 4000 in
theorem wea_gd {β : Type} {m : Nat → Nat → Int32} {q : Nat → Nat → Int64} {o : Option β} : mk_gd (KS, m, q) 198 8 o = o := gd_ok kk_198 rfl
set_option maxRecDepth 4000 in
/-- the reads of a State's numbers -/
theorem SR.at {P A : Nat → Nat → Nat} {m : Nat → Nat → Int32} {b p : Nat} (h : SR P (blk m b) A) (hp : p < P 0 2) : m (b + 1) p = nI (A 1 p) ∧ m (b + 2) p = nI (A 2 p) ∧ m (b + 3) p = nI (A 3 p) ∧ m (b + 4) p = nI (A 4 p) ∧ m (b + 5) p = nI (A 5 p) := ⟨(h.1 p hp).1.1, (h.1 p hp).2.1.1, (h.1 p hp).2.2.1.1, (h.1 p hp).2.2.2.1.1, (h.1 p hp).2.2.2.2.1⟩
set_option maxRecDepth 4000 in
theorem PR.at {P : Nat → Nat → Nat} {m : Nat → Nat → Int32} {a : Nat} (h : PR (blk m a) P) : m a 0 = nI (P 0 0) ∧ m a 1 = nI (P 0 1) ∧ m a 2 = nI (P 0 2) ∧ m a 3 = nI (P 0 3) ∧ m a 4 = nI (P 0 4) := h.1
set_option maxRecDepth 4000 in
theorem tell_ok {m : Nat → Nat → Int32} {q : Nat → Nat → Int64} {P A : Nat → Nat → Nat} {a b p : Nat} (ha : a ∈ PB) (hb : b ∈ SB) (hP : PR (blk m a) P) (hA : SR P (blk m b) A) (hp : p < P 0 2) : ∃ q1, F_X9_tell 198 a b (nI p) (KS, m, q) = some ((), (KS, m, q1)) ∧ ∀ k, k < 12 → q1 199 k = wds P A p k := by
  obtain ⟨B0, B1, B2, B3, B4, B5, B6⟩ := id hP.2.1
  have hsq := hP.sq
  obtain ⟨s0, -⟩ := hP.at
  obtain ⟨x1, x2, x3, x4, x5⟩ := hA.at hp
  have hc := (hA.1 p hp).1.2
  have k2 : m (a + 2) p = nI (P 2 p) := (hP.2.2.1 p hp).2.1.1
  have r1 := fun q => (row_ok (m := m) (q := q) (c := A 1 p) ha s0 (by omega) (by omega) (by omega)).1
  have r2 := fun q => (row_ok (m := m) (q := q) (c := A 1 p) ha s0 (by omega) (by omega) (by omega)).2
  have w := fun q => s_windAt (m := m) (q := q) hb (show A 1 p < 36 by omega)
  have w7 : m (b + 7) (A 1 p) = nI (A 7 (A 1 p)) := (hA.2.2.1 _ hc).1
  have g := fun q => s_ground (m := m) (q := q) hb
  have g6 : bx_sum (m (b + 6)) 4 = nI (nsum (A 6) (P 0 3)) := bx_all B5 (fun k hk => (hA.2.1 k hk).1) (fun k hk hk2 => hA.2.2.2.2.2.2.1 k hk hk2)
  have o7 : m b 7 = nI (A 0 0) := hA.2.2.2.1.1
  have o8 : m b 8 = nI (A 0 1) := hA.2.2.2.2.1.1
  have ho := hA.2.2.2.1.2
  have hbc := fun t => bitc (show A 0 0 < 128 by omega) t
  refine ⟨twelve q 199 (wds P A p), ?_, twelve_at⟩
  unfold F_X9_tell
  simp (disch := omega) only [lit, le_T, le_F, lt_T, lt_F, eq_T, eq_F, nI_add, wea_gd, g_wea, ob_some, stc_199, sb_g hb, pb_g ha, sb_ld hb, pb_ld ha, x1, x2, x3, x4, x5, k2, r1, r2, w, w7, g, g6, o7, o8, hbc]
  rfl
