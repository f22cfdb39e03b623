/-! what may be asked for -/
set_option maxRecDepth 4000 in
theorem within_01 (x a b : Int32) (t : mk_S) : F_X11_within x a b t = some (nI 0, t) ∨ F_X11_within x a b t = some (nI 1, t) := by
  unfold F_X11_within B_X11_within_14
  split
  · exact .inl rfl
  · split
    · exact .inl rfl
    · exact .inr rfl
set_option maxRecDepth 4000 in
theorem lt64 {x y : Int32} : (x.toInt64 < y.toInt64) ↔ (x < y) := by
  rw [Int64.lt_iff_toInt_lt, Int32.lt_iff_toInt_lt, Int32.toInt_toInt64, Int32.toInt_toInt64]
set_option maxRecDepth 4000 in
theorem in_eq (x a b : Int32) (t : mk_S) : F_X12_in x.toInt64 a.toInt64 b.toInt64 t = F_X11_within x a b t := by
  unfold F_X12_in F_X11_within B_X12_in_17 B_X11_within_14
  simp only [lg_cmp_lt, lg_cmp_gt, lt64]
set_option maxRecDepth 4000 in
theorem within_T {j lo N : Nat} (h1 : lo ≤ j) (h2 : j < N) (hN : N < 2147483648) (t : mk_S) : F_X11_within (nI j) (nI lo) (nI N - nI 1) t = some (nI 1, t) := by
  unfold F_X11_within
  rw [pk_sub (by omega)]
  simp (disch := omega) only [lt_F, reduceIte, lit, rz1]
set_option maxRecDepth 4000 in
theorem within_TL {j lo hi : Nat} (h1 : lo ≤ j) (h2 : j ≤ hi) (hN : hi < 2147483647) (t : mk_S) : F_X11_within (nI j) (nI lo) (nI hi) t = some (nI 1, t) := by
  unfold F_X11_within
  simp (disch := omega) only [lt_F, reduceIte, lit, rz1]
set_option maxRecDepth 4000 in
theorem nI_of0 {x : Int32} (h : 0 ≤ x.toInt) : ∃ j : Nat, j < 2147483648 ∧ x = nI j ∧ x.toInt = j := by
  have hlt := Int32.toInt_lt x
  refine ⟨x.toInt.toNat, by omega, ?_, by omega⟩
  apply Int32.toInt_inj.mp
  rw [nI_toInt (by omega)]
  omega
set_option maxRecDepth 4000 in
theorem within_C (x : Int32) (lo N : Nat) (hN : N < 2147483648) (hlo : lo < 2147483648) : (∃ j, lo ≤ j ∧ j < N ∧ x = nI j) ∨ ∀ t, F_X11_within x (nI lo) (nI N - nI 1) t = some (nI 0, t) := by
  by_cases h0 : 0 ≤ x.toInt
  · obtain ⟨j, hj, rfl, -⟩ := nI_of0 h0
    by_cases h1 : lo ≤ j
    · by_cases h2 : j < N
      · exact .inl ⟨j, h1, h2, rfl⟩
      · refine .inr (fun t => ?_)
        unfold F_X11_within B_X11_within_14
        rcases Nat.eq_zero_or_pos N with e | e
        · subst e
          have e1 : (nI 0 - nI 1 < nI j) = True := eq_true (Int32.lt_of_lt_of_le (show nI 0 - nI 1 < 0 by decide) (nI_pos' hj))
          simp (disch := omega) only [lt_F, e1, reduceIte, lit, rz0]
        · rw [pk_sub (by omega)]
          simp (disch := omega) only [lt_F, lt_T, reduceIte, lit, rz0]
    · refine .inr (fun t => ?_)
      unfold F_X11_within B_X11_within_14
      simp (disch := omega) only [lt_T, reduceIte, lit, rz0]
  · refine .inr (fun t => ?_)
    unfold F_X11_within B_X11_within_14
    have e1 : (x < nI lo) = True := eq_true (by rw [Int32.lt_iff_toInt_lt, nI_toInt (by omega)]; omega)
    simp only [e1, reduceIte, lit, rz0]
set_option maxRecDepth 4000 in
theorem within_CL (x : Int32) (lo hi : Nat) (hN : hi < 2147483647) (hlo : lo < 2147483648) : (∃ j, lo ≤ j ∧ j ≤ hi ∧ x = nI j) ∨ ∀ t, F_X11_within x (nI lo) (nI hi) t = some (nI 0, t) := by
  rcases within_C x lo (hi + 1) (by omega) hlo with ⟨j, h1, h2, h3⟩ | h
  · exact .inl ⟨j, h1, by omega, h3⟩
  · refine .inr (fun t => ?_)
    have := h t
    rwa [sub1 (by omega), Nat.add_sub_cancel] at this
set_option maxRecDepth 4000 in
theorem in_0b {x b : Int32} {t : mk_S} : F_X12_in x.toInt64 0 b.toInt64 t = F_X11_within x (nI 0) b t := in_eq x (nI 0) b t
set_option maxRecDepth 4000 in
theorem in_mb {x b : Int32} {t : mk_S} : F_X12_in x.toInt64 (-1) b.toInt64 t = F_X11_within x (-nI 1) b t := in_eq x (-nI 1) b t
set_option maxRecDepth 4000 in
theorem in_0_2 {x : Int32} {t : mk_S} : F_X12_in x.toInt64 0 2 t = F_X11_within x (nI 0) (nI 2) t := in_eq x (nI 0) (nI 2) t
set_option maxRecDepth 4000 in
theorem in_1_9 {x : Int32} {t : mk_S} : F_X12_in x.toInt64 1 9 t = F_X11_within x (nI 1) (nI 9) t := in_eq x (nI 1) (nI 9) t
set_option maxRecDepth 4000 in
theorem in_0_3 {x : Int32} {t : mk_S} : F_X12_in x.toInt64 0 3 t = F_X11_within x (nI 0) (nI 3) t := in_eq x (nI 0) (nI 3) t
set_option maxRecDepth 4000 in
theorem in_0_100 {x : Int32} {t : mk_S} : F_X12_in x.toInt64 0 100 t = F_X11_within x (nI 0) (nI 100) t := in_eq x (nI 0) (nI 100) t
set_option maxRecDepth 4000 in
theorem in_1_6 {x : Int32} {t : mk_S} : F_X12_in x.toInt64 1 6 t = F_X11_within x (nI 1) (nI 6) t := in_eq x (nI 1) (nI 6) t
set_option maxRecDepth 4000 in
theorem in_1_60 {x : Int32} {t : mk_S} : F_X12_in x.toInt64 1 60 t = F_X11_within x (nI 1) (nI 60) t := in_eq x (nI 1) (nI 60) t
set_option maxRecDepth 4000 in
theorem in_1_9999 {x : Int32} {t : mk_S} : F_X12_in x.toInt64 1 9999 t = F_X11_within x (nI 1) (nI 9999) t := in_eq x (nI 1) (nI 9999) t
set_option maxRecDepth 4000 in
theorem in_0_999 {x : Int32} {t : mk_S} : F_X12_in x.toInt64 0 999 t = F_X11_within x (nI 0) (nI 999) t := in_eq x (nI 0) (nI 999) t
set_option maxRecDepth 4000 in
theorem in_1_100 {x : Int32} {t : mk_S} : F_X12_in x.toInt64 1 100 t = F_X11_within x (nI 1) (nI 100) t := in_eq x (nI 1) (nI 100) t
set_option maxRecDepth 4000 in
theorem in_0_1 {x : Int32} {t : mk_S} : F_X12_in x.toInt64 0 1 t = F_X11_within x (nI 0) (nI 1) t := in_eq x (nI 0) (nI 1) t
set_option maxRecDepth 4000 in
theorem in_1_20 {x : Int32} {t : mk_S} : F_X12_in x.toInt64 1 20 t = F_X11_within x (nI 1) (nI 20) t := in_eq x (nI 1) (nI 20) t
set_option maxRecDepth 4000 in
theorem in_0_9999 {x : Int32} {t : mk_S} : F_X12_in x.toInt64 0 9999 t = F_X11_within x (nI 0) (nI 9999) t := in_eq x (nI 0) (nI 9999) t
set_option maxRecDepth 4000 in
theorem in_0_60 {x : Int32} {t : mk_S} : F_X12_in x.toInt64 0 60 t = F_X11_within x (nI 0) (nI 60) t := in_eq x (nI 0) (nI 60) t
set_option maxRecDepth 4000 in
theorem in_1_10 {x : Int32} {t : mk_S} : F_X12_in x.toInt64 1 10 t = F_X11_within x (nI 1) (nI 10) t := in_eq x (nI 1) (nI 10) t
set_option maxRecDepth 4000 in
theorem rz_within {x a b : Int32} {t : mk_S} : ((F_X11_within x a b t).bind fun z => mk_rz z.1 z.2) = F_X11_within x a b t := by
  rcases within_01 x a b t with h | h <;> rw [h] <;> rfl
/-! none told, or one -/
def PW (pl : Nat → Nat → Int32) (P : Nat → Nat → Nat) : Prop := (P 0 0 = 0 ∧ P 0 1 = 0 ∧ P 0 2 = 0 ∧ P 0 3 = 0 ∧ P 0 4 = 0 ∧ pl 0 0 = nI 0 ∧ pl 0 1 = nI 0 ∧ pl 0 2 = nI 0 ∧ pl 0 3 = nI 0 ∧ pl 0 4 = nI 0) ∨ PR pl P
set_option maxRecDepth 4000 in
theorem PW.five {pl : Nat → Nat → Int32} {P : Nat → Nat → Nat} (h : PW pl P) : pl 0 0 = nI (P 0 0) ∧ pl 0 1 = nI (P 0 1) ∧ pl 0 2 = nI (P 0 2) ∧ pl 0 3 = nI (P 0 3) ∧ pl 0 4 = nI (P 0 4) := by
  rcases h with ⟨e0, e1, e2, e3, e4, h0, h1, h2, h3, h4⟩ | h
  · rw [e0, e1, e2, e3, e4]; exact ⟨h0, h1, h2, h3, h4⟩
  · exact h.1
set_option maxRecDepth 4000 in
theorem PW.bd {pl : Nat → Nat → Int32} {P : Nat → Nat → Nat} (h : PW pl P) : P 0 0 ≤ 6 ∧ P 0 1 ≤ 9 ∧ P 0 2 ≤ 6 ∧ P 0 3 ≤ 4 ∧ P 0 4 ≤ 4 ∧ P 0 0 * P 0 0 ≤ 36 := by
  rcases h with ⟨e0, e1, e2, e3, e4, -⟩ | h
  · rw [e0, e1, e2, e3, e4]; omega
  · have := h.sq
    have := h.2.1
    omega
set_option maxRecDepth 4000 in
theorem PW.there {pl : Nat → Nat → Int32} {P : Nat → Nat → Nat} (h : PW pl P) (h0 : 0 < P 0 0) : PR pl P := by
  rcases h with ⟨e0, -⟩ | h
  · omega
  · exact h
set_option maxRecDepth 4000 in
theorem PW.p {pl : Nat → Nat → Int32} {P : Nat → Nat → Nat} (h : PW pl P) {p : Nat} (hp : p < P 0 2) : PR pl P := by
  rcases h with ⟨e0, e1, e2, -⟩ | h
  · omega
  · exact h
set_option maxRecDepth 4000 in
theorem PW.mm {pl : Nat → Nat → Int32} {P : Nat → Nat → Nat} (h : PW pl P) {p : Nat} (hp : p < P 0 3) : PR pl P := by
  rcases h with ⟨e0, e1, e2, e3, -⟩ | h
  · omega
  · exact h
set_option maxRecDepth 4000 in
theorem PW.rr {pl : Nat → Nat → Int32} {P : Nat → Nat → Nat} (h : PW pl P) {p : Nat} (hp : p < P 0 4) : PR pl P := by
  rcases h with ⟨e0, e1, e2, e3, e4, -⟩ | h
  · omega
  · exact h
set_option maxRecDepth 4000 in
theorem PW.cc {pl : Nat → Nat → Int32} {P : Nat → Nat → Nat} (h : PW pl P) {p : Nat} (hp : p < P 0 0 * P 0 0) : PR pl P := by
  rcases h with ⟨e0, -⟩ | h
  · rw [e0] at hp; omega
  · exact h
/-! all that an IMAGE holds: PLATEAU, how it is, how it was ahead of the last acts (first the last), how many; notes, how many; rule in force (0: none), x -/
abbrev WT : Type := (Nat → Nat → Nat) × (Nat → Nat → Nat) × (Nat → Nat → Nat → Nat) × Nat × (Nat → Nat → Nat) × Nat × Nat × Nat
def fI (f : Nat) : Int32 := match f with
  | 0 => -nI 1
  | r + 1 => nI r
def NotesOK (P N : Nat → Nat → Nat) (h c w : Nat → Int32) (nn : Nat) : Prop := nn ≤ 10 ∧ ∀ i, i < nn → (h i = nI (N 0 i) ∧ N 0 i ≤ 60) ∧ (c i = nI (N 1 i) ∧ N 1 i < P 0 0 * P 0 0) ∧ (w i = nI (N 2 i) ∧ N 2 i ≤ 999)
def HistC (P : Nat → Nat → Nat) (H : Nat → Nat → Nat → Nat) (n : Nat) (m : Nat → Nat → Int32) (b : Nat) : Prop := ∃ nx, nx < 20 ∧ m b 1 = nI nx ∧ m b 2 = nI n ∧ n ≤ 20 ∧ ∀ i, i < n → SR P (blk m (b + 2 + 8 * ((nx + 19 - i) % 20))) (H i) ∧ H i 0 1 ≤ 999
def CW (m : Nat → Nat → Int32) (b : Nat) (W : WT) : Prop := match W with
  | (P, A, H, n, N, nn, fo, x) => PW (blk m (b + 1)) P ∧ (SR P (blk m (b + 9)) A ∧ A 0 1 ≤ 999) ∧ HistC P H n m (b + 17) ∧ (m (b + 179) 3 = nI nn ∧ NotesOK P N (m (b + 180)) (m (b + 181)) (m (b + 182)) nn) ∧ (m b 4 = fI fo ∧ fo ≤ 6) ∧ (m b 5 = nI x ∧ x < 2147483648)
/-- where a view of the reference has the PLATEAU -/
def vp (j : Nat) : Nat := match j with | 0 => 0 | 1 => 17 | 2 => 9 | 3 => 18 | 4 => 10 | 5 => 11 | 6 => 12 | _ => 13
/-- a row of the past -/
def pv (v : Nat → Nat → Int32) (r : Nat) (j k : Nat) : Int32 := match j with
  | 0 => if k = 5 then v 19 (72 * r) else v 19 (72 * r + 1)
  | 1 => v 19 (72 * r + (2 + k))
  | 2 => v 19 (72 * r + (8 + k))
  | 3 => v 19 (72 * r + (14 + k))
  | 4 => v 19 (72 * r + (20 + k))
  | 5 => v 19 (72 * r + (26 + k))
  | 6 => v 19 (72 * r + (32 + k))
  | _ => v 19 (72 * r + (36 + k))
def MW (v : Nat → Nat → Int32) (W : WT) : Prop := match W with
  | (P, A, H, n, N, nn, fo, x) => PW (fun j k => v (vp j) k) P ∧ (MS P v A ∧ A 0 1 ≤ 999) ∧ (v 8 0 = nI n ∧ n ≤ 20 ∧ ∀ i, i < n → MS P (pv v (n - 1 - i)) (H i) ∧ H i 0 1 ≤ 999) ∧ (v 0 7 = nI nn ∧ NotesOK P N (v 14) (v 15) (v 16) nn) ∧ (v 0 9 = fI fo ∧ fo ≤ 6) ∧ (v 0 8 = nI x ∧ x < 2147483648)
/-- now, and image i -/
def nv (m : Nat → Nat → Int32) (j k : Nat) : Int32 := if j = 8 then m 996 50 else if j < 8 then m (997 + j) k else if j < 19 then m (996 + j) k else m 1033 k
def ofv (j : Nat) : Nat := match j with | 0 => 0 | 1 => 10 | 2 => 16 | 3 => 22 | 4 => 28 | 5 => 34 | 6 => 40 | 7 => 44 | 8 => 80 | 9 => 81 | 10 => 87 | 11 => 91 | 12 => 95 | 13 => 99 | 14 => 103 | 15 => 113 | 16 => 123 | 17 => 133 | 18 => 139 | _ => 145
def szv (j : Nat) : Nat := match j with | 0 => 10 | 1 => 6 | 2 => 6 | 3 => 6 | 4 => 6 | 5 => 6 | 6 => 4 | 7 => 36 | 8 => 1 | 9 => 6 | 10 => 4 | 11 => 4 | 12 => 4 | 13 => 4 | 14 => 10 | 15 => 10 | 16 => 10 | 17 => 6 | 18 => 6 | _ => 1440
def iv (m : Nat → Nat → Int32) (i j k : Nat) : Int32 := m 1039 (1700 * i + ofv j + k)
abbrev TT : Type := Nat × (Nat → Nat)
/-- text, rules (how many), now, images, which are made -/
abbrev GS : Type := TT × (Nat × (Nat → RT)) × WT × (Nat → WT) × (Nat → Bool)
def wf (W : WT) : Nat := W.2.2.2.2.2.2.1
def CI (s : GS) (m : Nat → Nat → Int32) : Prop := match s with
  | ((len, by_), (nr, RS), W, IM, md) => (m 1 1 = nI len ∧ len ≤ 400 ∧ ∀ i, i < len → m 2 i = nI (by_ i) ∧ by_ i < 256) ∧ (m 13 2 = nI nr ∧ nr ≤ 6 ∧ ∀ r, r < nr → RuleC m (220 + 7 * r) (RS r)) ∧ (CW m 14 W ∧ wf W ≤ nr) ∧ (∀ k, k < 4 → m 263 k = (if md k then nI 1 else nI 0)) ∧ ∀ k, k < 4 → md k = true → CW m (264 + 183 * k) (IM k) ∧ wf (IM k) ≤ nr
def MI (s : GS) (m : Nat → Nat → Int32) : Prop := match s with
  | ((len, by_), (nr, RS), W, IM, md) => (m 996 27 = nI len ∧ ∀ i, i < len → m 1023 i = mk_nar 102 (nI (by_ i))) ∧ (m 996 31 = nI nr ∧ ∀ r, r < nr → RuleM m r (RS r)) ∧ MW (nv m) W ∧ (∀ k, k < 4 → m 1040 k = (if md k then nI 1 else nI 0)) ∧ (∀ k, k < 4 → md k = true → MW (iv m k) (IM k)) ∧ m 996 36 = nI 12 ∧ m 996 47 = -nI 1
def Inv (m : Nat → Nat → Int32) : Prop := (∃ s, CI s m ∧ MI s m) ∧ EX m
/-- a call of the class, then of the reference -/
def OP (f g : mk_S → Option (Int32 × mk_S)) : Prop := ∀ m q, Inv m → ∃ a m1 q1 m2 q2, f (KS, m, q) = some (a, (KS, m1, q1)) ∧ g (KS, m1, q1) = some (a, (KS, m2, q2)) ∧ Inv m2 ∧ ∀ i, 1041 ≤ i → m2 i = m i
