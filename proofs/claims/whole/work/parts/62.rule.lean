/-! RULES: what they come to, as a machine on a pile of numbers. Entries are (sort, number). -/
def opv (k : Nat) (a b : Int64) : Int64 := match k with
  | 2 => a + b
  | 3 => a - b
  | 4 => if 0 ≤ lg_cmp a b then 0 else 1
  | 5 => if 0 < lg_cmp a b then 0 else 1
  | 6 => if lg_cmp a b = 0 then 1 else 0
  | 7 => if lg_cmp a b < 0 then 0 else 1
  | 8 => if lg_cmp a b ≤ 0 then 0 else 1
  | 10 => a &&& b
  | 11 => a ||| b
  | 13 => a * b
  | 14 => if b = 0 then 0 else a / b
  | 15 => if b = 0 then 0 else a - a / b * b
  | _ => 0
def sgn (e : Nat × Nat) : Nat := match e.1 with
  | 0 => 256
  | 1 => 300 + e.2
  | 2 => 43
  | 3 => 45
  | 4 => 60
  | 5 => 257
  | 6 => 61
  | 7 => 258
  | 8 => 62
  | 9 => 315
  | 10 => 313
  | 11 => 314
  | 13 => 42
  | 14 => 47
  | 15 => 37
  | _ => 0
def stp (w : Nat → Int64) (s : List Int64) (e : Nat × Nat) : List Int64 := match e.1 with
  | 0 => (nI e.2).toInt64 :: s
  | 1 => w e.2 :: s
  | 9 => match s with
    | x :: s => (1 - x) :: s
    | [] => []
  | k => match s with
    | y :: x :: s => opv k x y :: s
    | s => s
def evl (w : Nat → Int64) (s : List Int64) (cs : List (Nat × Nat)) : List Int64 := cs.foldl (stp w) s
/-- kinds of what lies on the pile: true for a fact -/
def tstp (e : Nat × Nat) (tl : List Bool) : Option (List Bool) := match e.1 with
  | 0 => if e.2 < 100000 then some (false :: tl) else none
  | 1 => if e.2 < 12 then some (false :: tl) else none
  | 9 => match tl with
    | true :: t => some (true :: t)
    | _ => none
  | 10 => match tl with
    | true :: true :: t => some (true :: t)
    | _ => none
  | 11 => match tl with
    | true :: true :: t => some (true :: t)
    | _ => none
  | 2 => match tl with
    | false :: false :: t => some (false :: t)
    | _ => none
  | 3 => match tl with
    | false :: false :: t => some (false :: t)
    | _ => none
  | 13 => match tl with
    | false :: false :: t => some (false :: t)
    | _ => none
  | 14 => match tl with
    | false :: false :: t => some (false :: t)
    | _ => none
  | 15 => match tl with
    | false :: false :: t => some (false :: t)
    | _ => none
  | 4 => match tl with
    | false :: false :: t => some (true :: t)
    | _ => none
  | 5 => match tl with
    | false :: false :: t => some (true :: t)
    | _ => none
  | 6 => match tl with
    | false :: false :: t => some (true :: t)
    | _ => none
  | 7 => match tl with
    | false :: false :: t => some (true :: t)
    | _ => none
  | 8 => match tl with
    | false :: false :: t => some (true :: t)
    | _ => none
  | _ => none
def tys : List (Nat × Nat) → List Bool → Option (List Bool)
  | [], tl => some tl
  | e :: cs, tl => (tstp e tl).bind (tys cs)
def VT : List Int64 → List Bool → Prop
  | [], [] => True
  | x :: s, b :: t => (b = true → x = 0 ∨ x = 1) ∧ VT s t
  | _, _ => False
def PL (f : Nat → Int64) : List Int64 → Prop
  | [] => True
  | x :: s => f s.length = x ∧ PL f s
set_option maxRecDepth 4000 in
theorem PL.congr {f g : Nat → Int64} : ∀ {s : List Int64}, PL f s → (∀ j, j < s.length → g j = f j) → PL g s
  | [], _, _ => trivial
  | x :: s, h, e => ⟨(e _ (by simp)).trans h.1, PL.congr h.2 (fun j hj => e j (by simp; omega))⟩
def pushes : List (Nat × Nat) → Nat
  | [] => 0
  | e :: cs => (if e.1 ≤ 1 then 1 else 0) + pushes cs
set_option maxRecDepth 4000 in
/-- what a step of the pile is, by kinds: a value comes, one is turned, or two are joined -/
theorem tstp_cases {e : Nat × Nat} {tl tl1 : List Bool} (h : tstp e tl = some tl1) : (e.1 = 0 ∧ e.2 < 100000 ∧ tl1 = false :: tl) ∨ (e.1 = 1 ∧ e.2 < 12 ∧ tl1 = false :: tl) ∨ (e.1 = 9 ∧ ∃ t, tl = true :: t ∧ tl1 = true :: t) ∨ ((e.1 ∈ [2, 3, 4, 5, 6, 7, 8, 10, 11, 13, 14, 15]) ∧ ∃ a b t, tl = a :: a :: t ∧ tl1 = b :: t ∧ (b = true → e.1 ∈ [4, 5, 6, 7, 8] ∨ (e.1 ∈ [10, 11] ∧ a = true))) := by
  unfold tstp at h
  split at h
  case h_1 e1 => split at h <;> simp at h; exact .inl ⟨e1, by omega, h.symm⟩
  case h_2 e1 => split at h <;> simp at h; exact .inr (.inl ⟨e1, by omega, h.symm⟩)
  case h_3 e1 => split at h <;> simp at h; exact .inr (.inr (.inl ⟨e1, _, rfl, h.symm⟩))
  all_goals first
    | (rename_i e1; split at h <;> simp at h; exact .inr (.inr (.inr ⟨by simp [e1], _, _, _, rfl, h.symm, by simp [e1]⟩)))
    | simp at h
set_option maxRecDepth 4000 in
theorem bit01 : ∀ x y : Int64, (x = 0 ∨ x = 1) → (y = 0 ∨ y = 1) → ((x &&& y) = 0 ∨ (x &&& y) = 1) ∧ ((x ||| y) = 0 ∨ (x ||| y) = 1) := by
  rintro x y (rfl | rfl) (rfl | rfl) <;> decide
set_option maxRecDepth 4000 in
theorem opv01 {k : Nat} {a b : Int64} (h : k ∈ [4, 5, 6, 7, 8] ∨ (k ∈ [10, 11] ∧ (a = 0 ∨ a = 1) ∧ (b = 0 ∨ b = 1))) : opv k a b = 0 ∨ opv k a b = 1 := by
  rcases h with h | ⟨h, ha, hb⟩
  · simp at h
    rcases h with h | h | h | h | h <;> subst h <;> simp only [opv] <;> split <;> simp
  · simp at h
    rcases h with h | h <;> subst h <;> simp only [opv]
    · exact (bit01 a b ha hb).1
    · exact (bit01 a b ha hb).2
set_option maxRecDepth 4000 in
theorem stp_join {w : Nat → Int64} {k n : Nat} {x y : Int64} {s : List Int64} (hk : k ∈ [2, 3, 4, 5, 6, 7, 8, 10, 11, 13, 14, 15]) : stp w (y :: x :: s) (k, n) = opv k x y :: s := by
  simp at hk
  rcases hk with h | h | h | h | h | h | h | h | h | h | h | h <;> subst h <;> rfl
set_option maxRecDepth 4000 in
theorem joined_ok {k n : Nat} {a b : Int64} {t : mk_S} (hk : k ∈ [2, 3, 4, 5, 6, 7, 8, 10, 11, 13, 14, 15]) : F_X5_joined (nI (sgn (k, n))) a b t = some (opv k a b, t) := by
  simp at hk
  unfold F_X5_joined
  rcases hk with h | h | h | h | h | h | h | h | h | h | h | h <;> subst h <;> simp only [sgn, opv, lg_cmp_eq, lg_cmp_ge, lg_cmp_gt, lg_cmp_le, lg_cmp_lt] <;> simp (disch := omega) only [lit, eq_T, eq_F, reduceIte] <;> first | rfl | (split <;> rfl)
set_option maxRecDepth 4000 in
theorem both_ok {k : Nat} {a b : Int64} {t : mk_S} (hk : k ∈ [2, 3, 4, 5, 6, 7, 8, 10, 11, 13, 14, 15]) : F_X12_both (nI k) a b t = some (opv k a b, t) := by
  simp at hk
  unfold F_X12_both
  rcases hk with h | h | h | h | h | h | h | h | h | h | h | h <;> subst h <;> simp only [opv, lg_cmp_eq, lg_cmp_ge, lg_cmp_gt, lg_cmp_le, lg_cmp_lt] <;> simp (disch := omega) only [lit, eq_T, eq_F, reduceIte] <;> first | rfl | (split <;> rfl)
set_option maxRecDepth 4000 in
theorem rb_lt {a : Nat} (h : a ∈ RB) : 220 ≤ a ∧ a + 7 ≤ 262 := by
  have e : RB.all (fun a => decide (220 ≤ a ∧ a + 7 ≤ 262)) = true := by decide +kernel
  simpa using List.all_eq_true.mp e a h
set_option maxRecDepth 4000 in
theorem rb_g {a : Nat} (ha : a ∈ RB) (m : Nat → Nat → Int32) (q : Nat → Nat → Int64) : (mk_ga (KS, m, q) a 4 0 = some (a + 1)) ∧ (mk_ga (KS, m, q) a 4 1 = some (a + 2)) ∧ (mk_ga (KS, m, q) a 4 4 = some (a + 3)) ∧ (mk_ga (KS, m, q) a 4 5 = some (a + 4)) ∧ (mk_ga (KS, m, q) a 4 6 = some (a + 5)) ∧ (mk_ga (KS, m, q) a 4 7 = some (a + 6)) ∧ (mk_gi (KS, m, q) a 4 2 = some (m a 2)) ∧ (mk_gi (KS, m, q) a 4 3 = some (m a 3)) := by
  obtain ⟨h0, -⟩ := rb_all ha
  refine ⟨?_, ?_, ?_, ?_, ?_, ?_, ?_, ?_⟩ <;> first | exact ga_ok h0 rfl (Nat.le_of_ble_eq_true rfl) rfl | exact gi_ok h0 rfl (Nat.le_of_ble_eq_true rfl)
set_option maxRecDepth 4000 in
theorem rb_gd {β : Type} {a : Nat} (ha : a ∈ RB) (m : Nat → Nat → Int32) (q : Nat → Nat → Int64) (o : Option β) : mk_gd (KS, m, q) a 4 o = o := gd_ok (rb_all ha).1 rfl
set_option maxRecDepth 4000 in
theorem rb_pi {a : Nat} (ha : a ∈ RB) (m : Nat → Nat → Int32) (q : Nat → Nat → Int64) (v : Int32) : (mk_pi (KS, m, q) a 4 2 v = some (KS, mk_u2 m a 2 v, q)) ∧ (mk_pi (KS, m, q) a 4 3 v = some (KS, mk_u2 m a 3 v, q)) := ⟨pi_ok (rb_all ha).1 rfl (Nat.le_of_ble_eq_true rfl), pi_ok (rb_all ha).1 rfl (Nat.le_of_ble_eq_true rfl)⟩
set_option maxRecDepth 4000 in
theorem rb_ld {a : Nat} (ha : a ∈ RB) (m : Nat → Nat → Int32) (q : Nat → Nat → Int64) {j : Nat} : (j < 400 → mk_ld 100 (KS, m, q) (a + 1) (nI j) = some (m (a + 1) j)) ∧ (j < 400 → mk_ld 100 (KS, m, q) (a + 2) (nI j) = some (m (a + 2) j)) ∧ (j < 12 → mk_ld 100 (KS, m, q) (a + 3) (nI j) = some (m (a + 3) j)) ∧ (j < 12 → mk_ld 100 (KS, m, q) (a + 4) (nI j) = some (m (a + 4) j)) ∧ (j < 12 → mk_ld 100 (KS, m, q) (a + 5) (nI j) = some (m (a + 5) j)) ∧ (j < 60 → mk_ldl (KS, m, q) (a + 6) (nI j) = some (q (a + 6) j)) := by
  obtain ⟨h0, h1, h2, h3, h4, h5, h6⟩ := rb_all ha
  have hl := rb_lt ha
  exact ⟨fun h => ld_ok h1 (by omega) h (by omega), fun h => ld_ok h2 (by omega) h (by omega), fun h => ld_ok h3 (by omega) h (by omega), fun h => ld_ok h4 (by omega) h (by omega), fun h => ld_ok h5 (by omega) h (by omega), fun h => ldl_ok h6 h (by omega)⟩
set_option maxRecDepth 4000 in
theorem rb_st {a : Nat} (ha : a ∈ RB) (m : Nat → Nat → Int32) (q : Nat → Nat → Int64) {j : Nat} {x : Int32} : (j < 400 → mk_st 100 (KS, m, q) (a + 1) (nI j) x = some (KS, mk_u2 m (a + 1) j x, q)) ∧ (j < 400 → mk_st 100 (KS, m, q) (a + 2) (nI j) x = some (KS, mk_u2 m (a + 2) j x, q)) ∧ (j < 12 → mk_st 100 (KS, m, q) (a + 3) (nI j) x = some (KS, mk_u2 m (a + 3) j x, q)) ∧ (j < 12 → mk_st 100 (KS, m, q) (a + 4) (nI j) x = some (KS, mk_u2 m (a + 4) j x, q)) ∧ (j < 12 → mk_st 100 (KS, m, q) (a + 5) (nI j) x = some (KS, mk_u2 m (a + 5) j x, q)) := by
  obtain ⟨h0, h1, h2, h3, h4, h5, h6⟩ := rb_all ha
  have hl := rb_lt ha
  exact ⟨fun h => st_ok h1 h (by omega), fun h => st_ok h2 h (by omega), fun h => st_ok h3 h (by omega), fun h => st_ok h4 h (by omega), fun h => st_ok h5 h (by omega)⟩
set_option maxRecDepth 4000 in
theorem rb_sl {a : Nat} (ha : a ∈ RB) (m : Nat → Nat → Int32) (q : Nat → Nat → Int64) {j : Nat} {y : Int64} (h : j < 60) : mk_stl (KS, m, q) (a + 6) (nI j) y = some (KS, m, mk_u2 q (a + 6) j y) := stl_ok (rb_all ha).2.2.2.2.2.2 h (by omega)
set_option maxRecDepth 4000 in
theorem isWord_T {n : Nat} (h : n < 12) (t : mk_S) : F_X5_isWord (nI (300 + n)) t = some (nI 1, t) := by
  unfold F_X5_isWord
  simp (disch := omega) only [lit, lt_F, le_F, reduceIte]
  rfl
set_option maxRecDepth 4000 in
theorem isWord_F {n : Nat} (h : n < 300 ∨ 312 ≤ n) (hn : n < 1000) (t : mk_S) : F_X5_isWord (nI n) t = some (nI 0, t) := by
  unfold F_X5_isWord
  by_cases h1 : n < 300
  · simp (disch := omega) only [lit, lt_T, reduceIte]
    rfl
  · simp (disch := omega) only [lit, lt_F, le_T, reduceIte]
    rfl
/-- the class's code from o on -/
def SegC (m : Nat → Nat → Int32) (b o : Nat) : List (Nat × Nat) → Prop
  | [] => True
  | e :: cs => m (b + 1) o = nI (sgn e) ∧ (e.1 = 0 → m (b + 2) o = nI e.2) ∧ SegC m b (o + 1) cs
set_option maxRecDepth 4000 in
theorem sub1 {n : Nat} (h : 0 < n) : nI n - nI 1 = nI (n - 1) := pk_sub h
set_option maxRecDepth 4000 in
theorem sgn_join {e : Nat × Nat} (hk : e.1 ∈ [2, 3, 4, 5, 6, 7, 8, 10, 11, 13, 14, 15]) : (sgn e < 300 ∨ 312 ≤ sgn e) ∧ sgn e < 1000 ∧ sgn e ≠ 256 ∧ sgn e ≠ 315 := by
  obtain ⟨k, n⟩ := e
  simp at hk
  rcases hk with h | h | h | h | h | h | h | h | h | h | h | h <;> subst h <;> simp [sgn]
set_option maxRecDepth 4000 in
theorem worth_loop {m : Nat → Nat → Int32} {b : Nat} (hb : b ∈ RB) (w : Nat → Int64) {tl1 : List Bool} : ∀ (cs : List (Nat × Nat)) (o f : Nat) (s : List Int64) (tl : List Bool) (q : Nat → Nat → Int64), SegC m b o cs → o + cs.length ≤ 400 → tys cs tl = some tl1 → VT s tl → PL (q (b + 6)) s → s.length + pushes cs ≤ 60 → cs.length < f → (∀ k, k < 12 → q 199 k = w k) →
    ∃ q1, B_X5_worth_6 f b (nI (o + cs.length)) 199 (nI s.length) (nI o) (KS, m, q) = B_X5_worth_173 b (nI (evl w s cs).length) (KS, m, q1) ∧ VT (evl w s cs) tl1 ∧ PL (q1 (b + 6)) (evl w s cs) ∧ (∀ k, k < 12 → q1 199 k = w k) := by
  have hl := rb_lt hb
  intro cs
  induction cs with
  | nil =>
    intro o f s tl q hs ho ht hv hp hn hf hw
    obtain ⟨f, rfl⟩ : ∃ g, f = g + 1 := ⟨f - 1, by omega⟩
    simp only [tys, Option.some.injEq] at ht
    subst ht
    refine ⟨q, ?_, hv, hp, hw⟩
    rw [B_X5_worth_6]
    simp only [List.length_nil] at ho ⊢
    simp (disch := omega) only [lit, le_T, reduceIte]
    rfl
  | cons e cs ih =>
    intro o f s tl q hs ho ht hv hp hn hf hw
    obtain ⟨f, rfl⟩ : ∃ g, f = g + 1 := ⟨f - 1, by omega⟩
    obtain ⟨h1, h2, h3⟩ := hs
    simp only [tys, Option.bind_eq_some_iff] at ht
    obtain ⟨tl2, ht1, ht2⟩ := ht
    simp only [List.length_cons] at ho hf
    simp only [pushes] at hn
    have e0 : evl w s (e :: cs) = evl w (stp w s e) cs := rfl
    have elen : o + (e :: cs).length = (o + 1) + cs.length := by simp only [List.length_cons]; omega
    rw [e0, elen]
    rw [B_X5_worth_6]
    rcases tstp_cases ht1 with ⟨k1, k2, k3⟩ | ⟨k1, k2, k3⟩ | ⟨k1, t, k2, k3⟩ | ⟨k1, x, y, t, k2, k3, k4⟩
    · rw [if_pos (by omega)] at hn
      have es : stp w s e = (nI e.2).toInt64 :: s := by simp only [stp, k1]
      have eg : sgn e = 256 := by simp only [sgn, k1]
      have hx := h2 k1
      rw [es]
      obtain ⟨q1, z1, z2, z3, z4⟩ := ih (o + 1) f ((nI e.2).toInt64 :: s) tl2 (mk_u2 q (b + 6) s.length (nI e.2).toInt64) h3 (by omega) ht2 (by rw [k3]; exact ⟨fun h => absurd h (by simp), hv⟩) ⟨u2_s, hp.congr (fun j hj => u2_b (by omega))⟩ (by simp only [List.length_cons]; omega) (by omega) (fun k hk => by rw [u2_a (by omega)]; exact hw k hk)
      refine ⟨q1, ?_, z2, z3, z4⟩
      rw [← z1]
      simp (disch := omega) only [lit, le_T, le_F, lt_T, lt_F, eq_T, eq_F, nI_add, rb_g hb, rb_ld hb, rb_sl hb, h1, eg, hx, reduceIte, ob_some, B_X5_worth_45, B_X5_worth_85, B_X5_worth_167, List.length_cons]
    · rw [if_pos (by omega)] at hn
      have es : stp w s e = w e.2 :: s := by simp only [stp, k1]
      have eg : sgn e = 300 + e.2 := by simp only [sgn, k1]
      rw [es]
      obtain ⟨q1, z1, z2, z3, z4⟩ := ih (o + 1) f (w e.2 :: s) tl2 (mk_u2 q (b + 6) s.length (w e.2)) h3 (by omega) ht2 (by rw [k3]; exact ⟨fun h => absurd h (by simp), hv⟩) ⟨u2_s, hp.congr (fun j hj => u2_b (by omega))⟩ (by simp only [List.length_cons]; omega) (by omega) (fun k hk => by rw [u2_a (by omega)]; exact hw k hk)
      refine ⟨q1, ?_, z2, z3, z4⟩
      rw [← z1]
      have ew : nI (300 + e.2) - nI 300 = nI e.2 := by rw [pk_sub (by omega), Nat.add_sub_cancel_left]
      simp (disch := omega) only [lit, le_T, le_F, lt_T, lt_F, eq_T, eq_F, nI_add, rb_g hb, rb_ld hb, rb_sl hb, h1, eg, isWord_T, ew, ldc_199, hw, reduceIte, ob_some, B_X5_worth_45, B_X5_worth_85, B_X5_worth_167, List.length_cons]
    · rw [if_neg (by omega)] at hn
      subst k2
      match s, hv, hp, hn with
      | v :: s, hv, hp, hn =>
        have es : stp w (v :: s) e = (1 - v) :: s := by simp only [stp, k1]
        have eg : sgn e = 315 := by simp only [sgn, k1]
        rw [es]
        simp only [List.length_cons] at hn
        obtain ⟨q1, z1, z2, z3, z4⟩ := ih (o + 1) f ((1 - v) :: s) tl2 (mk_u2 q (b + 6) s.length (1 - v)) h3 (by omega) ht2 (by rw [k3]; exact ⟨fun _ => by rcases hv.1 rfl with h | h <;> subst h <;> decide, hv.2⟩) ⟨u2_s, hp.2.congr (fun j hj => u2_b (by omega))⟩ (by simp only [List.length_cons]; omega) (by omega) (fun k hk => by rw [u2_a (by omega)]; exact hw k hk)
        refine ⟨q1, ?_, z2, z3, z4⟩
        rw [← z1]
        have hv0 : q (b + 6) s.length = v := hp.1
        simp (disch := omega) only [lit, le_T, le_F, lt_T, lt_F, eq_T, eq_F, nI_add, rb_g hb, rb_ld hb, rb_sl hb, h1, eg, isWord_F, reduceIte, ob_some, B_X5_worth_167, List.length_cons, sub1, Nat.add_sub_cancel, hv0]
    · have hsg := sgn_join k1
      have hne : ¬ e.1 ≤ 1 := by
        intro h
        have : e.1 = 0 ∨ e.1 = 1 := by omega
        rcases this with h | h <;> rw [h] at k1 <;> simp at k1
      rw [if_neg hne] at hn
      subst k2
      match s, hv, hp, hn with
      | v :: u :: s, hv, hp, hn =>
        have es : stp w (v :: u :: s) e = opv e.1 u v :: s := stp_join k1
        rw [es]
        simp only [List.length_cons] at hn
        have hv1 : q (b + 6) (s.length + 1) = v := hp.1
        have hv2 : q (b + 6) s.length = u := hp.2.1
        obtain ⟨q1, z1, z2, z3, z4⟩ := ih (o + 1) f (opv e.1 u v :: s) tl2 (mk_u2 q (b + 6) s.length (opv e.1 u v)) h3 (by omega) ht2 (by
          rw [k3]
          refine ⟨fun hy => opv01 ?_, hv.2.2⟩
          rcases k4 hy with h | ⟨h, hx⟩
          · exact .inl h
          · exact .inr ⟨h, hv.2.1 hx, hv.1 hx⟩) ⟨u2_s, hp.2.2.congr (fun j hj => u2_b (by omega))⟩ (by simp only [List.length_cons]; omega) (by omega) (fun k hk => by rw [u2_a (by omega)]; exact hw k hk)
        refine ⟨q1, ?_, z2, z3, z4⟩
        rw [← z1]
        have hj := joined_ok (a := u) (b := v) (t := (KS, m, q)) (n := e.2) k1
        have e1 : (e.1, e.2) = e := rfl
        rw [e1] at hj
        obtain ⟨g1, g2, g3, g4⟩ := hsg
        simp (disch := omega) only [lit, le_T, le_F, lt_T, lt_F, eq_T, eq_F, nI_add, rb_g hb, rb_ld hb, rb_sl hb, h1, isWord_F g1 g2, reduceIte, ob_some, B_X5_worth_167, List.length_cons, neg1, ad_m1, sub1, Nat.add_sub_cancel, hv1, hv2, hj]
