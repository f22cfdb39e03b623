theorem pb_g {a : Nat} (ha : a ∈ PB) (m : Nat → Nat → Int32) (q : Nat → Nat → Int64) : (mk_ga (KS, m, q) a 3 5 = some (a + 1)) ∧ (mk_ga (KS, m, q) a 3 6 = some (a + 2)) ∧ (mk_ga (KS, m, q) a 3 7 = some (a + 3)) ∧ (mk_ga (KS, m, q) a 3 8 = some (a + 4)) ∧ (mk_ga (KS, m, q) a 3 9 = some (a + 5)) ∧ (mk_ga (KS, m, q) a 3 10 = some (a + 6)) ∧ (mk_ga (KS, m, q) a 3 11 = some (a + 7)) ∧ (mk_gi (KS, m, q) a 3 0 = some (m a 0)) ∧ (mk_gi (KS, m, q) a 3 1 = some (m a 1)) ∧ (mk_gi (KS, m, q) a 3 2 = some (m a 2)) ∧ (mk_gi (KS, m, q) a 3 3 = some (m a 3)) ∧ (mk_gi (KS, m, q) a 3 4 = some (m a 4)) := by
  obtain ⟨h0, -⟩ := pb_all ha
  refine ⟨?_, ?_, ?_, ?_, ?_, ?_, ?_, ?_, ?_, ?_, ?_, ?_⟩ <;> first | exact ga_ok h0 rfl (Nat.le_of_ble_eq_true rfl) rfl | exact gi_ok h0 rfl (Nat.le_of_ble_eq_true rfl)
theorem pb_gd {β : Type} {a : Nat} (ha : a ∈ PB) (m : Nat → Nat → Int32) (q : Nat → Nat → Int64) (o : Option β) : mk_gd (KS, m, q) a 3 o = o := gd_ok (pb_all ha).1 rfl
theorem pb_lt {a : Nat} (h : a ∈ PB) : a + 8 ≤ 1000 := by
  have e : PB.all (fun a => decide (a + 8 ≤ 1000)) = true := by decide +kernel
  simpa using List.all_eq_true.mp e a h
theorem pb_sb {a b : Nat} (ha : a ∈ PB) (hb : b ∈ SB) : a + 8 ≤ b ∨ b + 8 ≤ a := by
  have e : PB.all (fun a => SB.all (fun b => decide (a + 8 ≤ b ∨ b + 8 ≤ a))) = true := by decide +kernel
  have e1 := List.all_eq_true.mp (List.all_eq_true.mp e a ha) b hb
  simpa using e1
/-- what a PLATEAU's block says, in plain numbers: side, catch, people, mills, roofs; cells, steady, faces; mills, can; roofs, holds -/
def PR (pl : Nat → Nat → Int32) (P : Nat → Nat → Nat) : Prop := (pl 0 0 = nI (P 0 0) ∧ pl 0 1 = nI (P 0 1) ∧ pl 0 2 = nI (P 0 2) ∧ pl 0 3 = nI (P 0 3) ∧ pl 0 4 = nI (P 0 4)) ∧ (2 ≤ P 0 0 ∧ P 0 0 ≤ 6 ∧ 1 ≤ P 0 1 ∧ P 0 1 ≤ 9 ∧ P 0 2 ≤ 6 ∧ P 0 3 ≤ 4 ∧ P 0 4 ≤ 4) ∧ (∀ p, p < P 0 2 → (pl 1 p = nI (P 1 p) ∧ P 1 p < P 0 0 * P 0 0) ∧ (pl 2 p = nI (P 2 p) ∧ P 2 p ≤ 20) ∧ (pl 3 p = nI (P 3 p) ∧ P 3 p < 4)) ∧ (∀ k, k < P 0 3 → (pl 4 k = nI (P 4 k) ∧ P 4 k < P 0 0 * P 0 0) ∧ (pl 5 k = nI (P 5 k) ∧ P 5 k ≤ 20)) ∧ ∀ k, k < P 0 4 → (pl 6 k = nI (P 6 k) ∧ P 6 k < P 0 0 * P 0 0) ∧ (pl 7 k = nI (P 7 k) ∧ P 7 k ≤ 40)
theorem PR.sq {pl : Nat → Nat → Int32} {P : Nat → Nat → Nat} (h : PR pl P) : 4 ≤ P 0 0 * P 0 0 ∧ P 0 0 * P 0 0 ≤ 36 := by
  obtain ⟨-, ⟨h1, h2, -⟩, -⟩ := h
  exact ⟨Nat.mul_le_mul h1 h1, Nat.mul_le_mul h2 h2⟩
/-- how much a PUFF is in the cell (cr, cc), of one at (r, k) who faces a way with so much urge -/
def pfR (r k way u cr cc : Nat) : Nat := match way with
  | 0 => if cc = k ∧ cr < r then u + 1 - (r - cr) else 0
  | 1 => if cr = r ∧ k < cc then u + 1 - (cc - k) else 0
  | 2 => if cc = k ∧ r < cr then u + 1 - (cr - r) else 0
  | _ => if cr = r ∧ cc < k then u + 1 - (k - cc) else 0
def pf (S c way u d : Nat) : Nat := pfR (c / S) (c % S) way u (d / S) (d % S)
/-- the next place on the way: none behind the edge -/
def nxR (S r k way : Nat) : Option (Nat × Nat) := match way with
  | 0 => if r = 0 then none else some (r - 1, k)
  | 1 => if k + 1 < S then some (r, k + 1) else none
  | 2 => if r + 1 < S then some (r + 1, k) else none
  | _ => if k = 0 then none else some (r, k - 1)
theorem pfR_0 (r k way cr cc : Nat) : pfR r k way 0 cr cc = 0 := by
  unfold pfR
  split <;> split <;> omega
theorem nxR_lt {S r k way r1 k1 : Nat} (hr : r < S) (hk : k < S) (h : nxR S r k way = some (r1, k1)) : r1 < S ∧ k1 < S := by
  unfold nxR at h
  split at h <;> split at h <;> simp only [Option.some.injEq, Prod.mk.injEq, reduceCtorEq] at h <;> omega
theorem pfR_none {S r k way u cr cc : Nat} (hw : way < 4) (hr : r < S) (hk : k < S) (hcr : cr < S) (hcc : cc < S) (h : nxR S r k way = none) : pfR r k way u cr cc = 0 := by
  rcases (show way = 0 ∨ way = 1 ∨ way = 2 ∨ way = 3 by omega) with e | e | e | e <;> subst e <;> simp only [nxR] at h <;> simp only [pfR] <;> split at h <;> first | (cases h; done) | (rw [if_neg (by omega)])
theorem pfR_some {S r k way u cr cc r1 k1 : Nat} (hw : way < 4) (hr : r < S) (hk : k < S) (hcr : cr < S) (hcc : cc < S) (h : nxR S r k way = some (r1, k1)) : pfR r k way (u + 1) cr cc = (if cr = r1 ∧ cc = k1 then u + 1 else 0) + pfR r1 k1 way u cr cc := by
  rcases (show way = 0 ∨ way = 1 ∨ way = 2 ∨ way = 3 by omega) with e | e | e | e <;> subst e <;> simp only [nxR] at h <;> simp only [pfR] <;> split at h <;> first | (cases h; done) | (simp only [Option.some.injEq, Prod.mk.injEq] at h; obtain ⟨e1, e2⟩ := h; subst e1; subst e2; (repeat' split) <;> omega)
theorem pfR_le {S r k way u cr cc : Nat} : pfR r k way u cr cc ≤ u := by
  unfold pfR
  split <;> split <;> omega
theorem cell_rc {S r k c : Nat} (hk : k < S) (hc : c = r * S + k) : c / S = r ∧ c % S = k := by
  subst hc
  have h0 : 0 < S := by omega
  rw [Nat.mul_comm, Nat.mul_add_div h0, Nat.mul_add_mod, Nat.div_eq_of_lt hk, Nat.mod_eq_of_lt hk]
  omega
theorem cell_lt {S r k : Nat} (hr : r < S) (hk : k < S) : r * S + k < S * S := by
  have : r * S + S ≤ S * S := by
    have := Nat.mul_le_mul_right S (show r + 1 ≤ S from hr)
    rw [Nat.add_mul] at this
    omega
  omega
/-- the outside tables are as they are -/
def EX (m : Nat → Nat → Int32) : Prop := (m 2000000 0 = 4 ∧ m 2000000 1 = -1 ∧ m 2000000 2 = 0 ∧ m 2000000 3 = 1 ∧ m 2000000 4 = 0) ∧ (m 2000001 0 = 4 ∧ m 2000001 1 = 0 ∧ m 2000001 2 = 1 ∧ m 2000001 3 = 0 ∧ m 2000001 4 = -1)
def dR (way : Nat) : Int32 := match way with | 0 => -1 | 1 => 0 | 2 => 1 | _ => 0
def dK (way : Nat) : Int32 := match way with | 0 => 0 | 1 => 1 | 2 => 0 | _ => -1
theorem ex_row {m : Nat → Nat → Int32} {q : Nat → Nat → Int64} {w : Nat} (h : EX m) (hw : w < 4) : mk_ld 100 (KS, m, q) 2000000 (nI w) = some (dR w) ∧ mk_ld 100 (KS, m, q) 2000001 (nI w) = some (dK w) := by
  obtain ⟨⟨a0, a1, a2, a3, a4⟩, b0, b1, b2, b3, b4⟩ := h
  rcases (show w = 0 ∨ w = 1 ∨ w = 2 ∨ w = 3 by omega) with e | e | e | e <;> subst e <;> refine ⟨?_, ?_⟩ <;> simp only [mk_ld] <;> rw [if_pos (by omega), if_pos (by simp [mk_xs])]
  all_goals first
    | (rw [a0, if_neg (by decide)]; first | exact congrArg some a1 | exact congrArg some a2 | exact congrArg some a3 | exact congrArg some a4)
    | (rw [b0, if_neg (by decide)]; first | exact congrArg some b1 | exact congrArg some b2 | exact congrArg some b3 | exact congrArg some b4)
theorem nI_m1 {n : Nat} (h : 0 < n) : nI n + (-1) = nI (n - 1) := by
  obtain ⟨k, rfl⟩ : ∃ k, n = k + 1 := ⟨n - 1, by omega⟩
  exact pk_m1 k
