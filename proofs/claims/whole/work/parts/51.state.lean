/-! numbers -/
theorem mk_fu_eq : mk_fu = 100000 := rfl
theorem n6 : (6 : Int32) = nI 6 := rfl
theorem n36 : (36 : Int32) = nI 36 := rfl
def mn99 (x : Int32) : Int32 := if x < (99 : Int32) then x else (99 : Int32)
theorem nI_lt0 {n : Nat} (h : n < 2 ^ 31) : (nI n < 0) = False := eq_false (nI_pos h)
/-! arrays -/
theorem cp_ok {m : Nat → Nat → Int32} {q : Nat → Nat → Int64} {a b n1 n2 n : Nat} {R1 R2 : List (Option Nat)} {x : Int32} (hK : KS[a]? = some (100, n1, R1)) (hJ : KS[b]? = some (100, n2, R2)) (hx : x = nI n) (hn1 : n ≤ n1) (hn2 : n ≤ n2) (hb : n ≤ 100000) : mk_cp (KS, m, q) a 0 b 0 x = some (KS, va_up m b (fun k => if k < n then m a k else m b k), q) := by
  subst hx
  unfold mk_cp
  simp only [hK, hJ]
  have e : (nI n).toNatClampNeg = n := nI_clamp (by omega)
  have e0 : (0 : Int32).toNatClampNeg = 0 := rfl
  rw [if_pos ⟨trivial, trivial, by decide, by decide, nI_pos (by omega), by rw [e, e0]; omega, by rw [e, e0]; omega⟩, e, e0]
  congr 3
  funext i
  unfold va_up
  by_cases h : i = b
  · rw [if_pos h, if_pos h]
    funext k
    unfold va_cpy
    by_cases hk : k < n
    · rw [if_pos ⟨Nat.zero_le _, by omega⟩, if_pos hk]
      congr 1
      omega
    · rw [if_neg (by omega), if_neg hk]
  · rw [if_neg h, if_neg h]
theorem len_ok {m : Nat → Nat → Int32} {q : Nat → Nat → Int64} {a n tag : Nat} {R : List (Option Nat)} (h : KS[a]? = some (tag, n, R)) (h1 : 100 ≤ tag ∧ tag < 108) (ha : a < 2000000) : mk_len (KS, m, q) a = some (nI n) := by
  unfold mk_len
  rw [if_neg (by omega)]
  simp only [h]
  rw [if_pos h1]
  rfl
theorem sum_loop {m : Nat → Nat → Int32} {q : Nat → Nat → Int64} {a n : Nat} {R : List (Option Nat)} (h : KS[a]? = some (100, n, R)) (ha : a < 2000000) (hb : n ≤ 100000) : ∀ (f i : Nat), i ≤ n → n - i < f → B_X7_sum_10 f (bx_sum (m a) i) a (nI n) (nI i) (KS, m, q) = some (bx_sum (m a) n, (KS, m, q)) := by
  intro f
  induction f with
  | zero => intro i h1 h2; omega
  | succ f ih =>
    intro i hi hf
    rw [B_X7_sum_10]
    by_cases e : i = n
    · subst e
      rw [if_pos (nI_le (Nat.le_refl _) (by omega))]
    · rw [if_neg (nI_ge (by omega) (by omega)), ld_ok h ha (by omega) hb, Option.bind_some, nI_1]
      exact ih (i + 1) (by omega) (by omega)
theorem sum_ok {m : Nat → Nat → Int32} {q : Nat → Nat → Int64} {a n : Nat} {R : List (Option Nat)} (h : KS[a]? = some (100, n, R)) (ha : a < 2000000) (hb : n ≤ 1000) : F_X7_sum a (KS, m, q) = some (bx_sum (m a) n, (KS, m, q)) := by
  unfold F_X7_sum
  rw [len_ok h (by omega) ha, Option.bind_some]
  exact sum_loop h ha (by omega) mk_fu 0 (by omega) (by rw [mk_fu_eq]; omega)
theorem fill_loop {q : Nat → Nat → Int64} {a n : Nat} {R : List (Option Nat)} {x : Int32} (h : KS[a]? = some (100, n, R)) (hb : n ≤ 100000) : ∀ (f i : Nat) (m : Nat → Nat → Int32), i ≤ n → n - i < f → B_J7_fill_53178_5 f a x (nI i) (nI n) (KS, m, q) = some ((), (KS, va_up m a (fun k => if i ≤ k ∧ k < n then x else m a k), q)) := by
  intro f
  induction f with
  | zero => intro i m h1 h2; omega
  | succ f ih =>
    intro i m hi hf
    rw [B_J7_fill_53178_5]
    by_cases e : i = n
    · subst e
      rw [if_pos (nI_le (Nat.le_refl _) (by omega))]
      congr 4
      funext j
      unfold va_up
      by_cases hj : j = a
      · subst hj
        rw [if_pos rfl]
        funext k
        rw [if_neg (by omega)]
      · rw [if_neg hj]
    · rw [if_neg (nI_ge (by omega) (by omega)), st_ok h (by omega) hb, Option.bind_some, nI_1, ih (i + 1) _ (by omega) (by omega)]
      congr 4
      unfold mk_u2
      rw [bx_uu]
      congr 1
      funext k
      rw [va_up_self]
      unfold va_up mk_nar
      by_cases hk : k = i
      · subst hk
        have c1 : ¬ (k + 1 ≤ k ∧ k < n) := by omega
        have c2 : k ≤ k ∧ k < n := by omega
        simp [c1, c2]
      · by_cases h3 : i ≤ k ∧ k < n
        · rw [if_pos (by omega), if_pos h3]
        · rw [if_neg (by omega), if_neg hk, if_neg h3]
theorem fill_ok {m : Nat → Nat → Int32} {q : Nat → Nat → Int64} {a n : Nat} {R : List (Option Nat)} {x : Int32} (h : KS[a]? = some (100, n, R)) (ha : a < 2000000) (hb : n ≤ 1000) : F_J7_fill_53178 a x (KS, m, q) = some ((), (KS, va_up m a (fun k => if k < n then x else m a k), q)) := by
  unfold F_J7_fill_53178
  rw [len_ok h (by omega) ha, Option.bind_some]
  rw [show (0 : Int32) = nI 0 from rfl, fill_loop h (by omega) mk_fu 0 m (by omega) (by rw [mk_fu_eq]; omega)]
  congr 4
  simp
/-! a State of the class at a: cells a .. a+7 -/
theorem sb_lt {a : Nat} (h : a ∈ SB) : a + 8 ≤ 1000 := by
  have e : SB.all (fun a => decide (a + 8 ≤ 1000)) = true := by decide +kernel
  simpa using List.all_eq_true.mp e a h
theorem sb_apart {a b : Nat} (ha : a ∈ SB) (hb : b ∈ SB) : a = b ∨ a + 8 ≤ b ∨ b + 8 ≤ a := by
  have e : SB.all (fun a => SB.all (fun b => decide (a = b ∨ a + 8 ≤ b ∨ b + 8 ≤ a))) = true := by decide +kernel
  have e1 := List.all_eq_true.mp (List.all_eq_true.mp e a ha) b hb
  simpa using e1
/-! what reads of the families give -/
theorem sb_g {a : Nat} (ha : a ∈ SB) (m : Nat → Nat → Int32) (q : Nat → Nat → Int64) : (mk_ga (KS, m, q) a 6 0 = some (a + 1)) ∧ (mk_ga (KS, m, q) a 6 1 = some (a + 2)) ∧ (mk_ga (KS, m, q) a 6 2 = some (a + 3)) ∧ (mk_ga (KS, m, q) a 6 3 = some (a + 4)) ∧ (mk_ga (KS, m, q) a 6 4 = some (a + 5)) ∧ (mk_ga (KS, m, q) a 6 5 = some (a + 6)) ∧ (mk_ga (KS, m, q) a 6 6 = some (a + 7)) ∧ (mk_gi (KS, m, q) a 6 7 = some (m a 7)) ∧ (mk_gi (KS, m, q) a 6 8 = some (m a 8)) := by
  obtain ⟨h0, -⟩ := sb_all ha
  exact ⟨ga_ok h0 rfl (Nat.le_of_ble_eq_true rfl) rfl, ga_ok h0 rfl (Nat.le_of_ble_eq_true rfl) rfl, ga_ok h0 rfl (Nat.le_of_ble_eq_true rfl) rfl, ga_ok h0 rfl (Nat.le_of_ble_eq_true rfl) rfl, ga_ok h0 rfl (Nat.le_of_ble_eq_true rfl) rfl, ga_ok h0 rfl (Nat.le_of_ble_eq_true rfl) rfl, ga_ok h0 rfl (Nat.le_of_ble_eq_true rfl) rfl, gi_ok h0 rfl (Nat.le_of_ble_eq_true rfl), gi_ok h0 rfl (Nat.le_of_ble_eq_true rfl)⟩
theorem sb_gd {β : Type} {a : Nat} (ha : a ∈ SB) (m : Nat → Nat → Int32) (q : Nat → Nat → Int64) (o : Option β) : mk_gd (KS, m, q) a 6 o = o := gd_ok (sb_all ha).1 rfl
theorem sb_pi {a : Nat} (ha : a ∈ SB) (m : Nat → Nat → Int32) (q : Nat → Nat → Int64) (v : Int32) : (mk_pi (KS, m, q) a 6 7 v = some (KS, mk_u2 m a 7 v, q)) ∧ (mk_pi (KS, m, q) a 6 8 v = some (KS, mk_u2 m a 8 v, q)) := ⟨pi_ok (sb_all ha).1 rfl (Nat.le_of_ble_eq_true rfl), pi_ok (sb_all ha).1 rfl (Nat.le_of_ble_eq_true rfl)⟩
theorem s_windAt {m : Nat → Nat → Int32} {q : Nat → Nat → Int64} {a c : Nat} (ha : a ∈ SB) (hc : c < 36) : F_X7_windAt a (nI c) (KS, m, q) = some (m (a + 7) c, (KS, m, q)) := by
  obtain ⟨h0, h1, h2, h3, h4, h5, h6, h7⟩ := sb_all ha
  have hl := sb_lt ha
  unfold F_X7_windAt
  rw [sb_gd ha, if_neg (nI_pos (by omega)), if_neg (show ¬ (36 : Int32) ≤ nI c from nI_ge (b := 36) hc (by omega))]
  simp only [sb_g ha, Option.bind_some]
  rw [ld_ok h7 (by omega) hc (by omega), Option.bind_some]
theorem s_urgeOn {m : Nat → Nat → Int32} {q : Nat → Nat → Int64} {a p : Nat} {x : Int32} (ha : a ∈ SB) (hp : p < 6) : F_X7_urgeOn a (nI p) x (KS, m, q) = some ((), (KS, mk_u2 m (a + 3) p (mn99 (m (a + 3) p + x)), q)) := by
  obtain ⟨h0, h1, h2, h3, h4, h5, h6, h7⟩ := sb_all ha
  have hl := sb_lt ha
  unfold F_X7_urgeOn
  rw [sb_gd ha, if_neg (nI_pos (by omega)), if_neg (show ¬ (6 : Int32) ≤ nI p from nI_ge (b := 6) hp (by omega))]
  simp only [sb_g ha, Option.bind_some]
  rw [ld_ok h3 (by omega) hp (by omega), Option.bind_some, st_ok h3 hp (by omega), Option.bind_some]
  rfl
theorem s_ground {m : Nat → Nat → Int32} {q : Nat → Nat → Int64} {a : Nat} (ha : a ∈ SB) : F_X7_groundInAll a (KS, m, q) = some (bx_sum (m (a + 6)) 4, (KS, m, q)) := by
  obtain ⟨h0, h1, h2, h3, h4, h5, h6, h7⟩ := sb_all ha
  have hl := sb_lt ha
  unfold F_X7_groundInAll
  rw [sb_gd ha]
  simp only [sb_g ha, Option.bind_some]
  rw [sum_ok h6 (by omega) (by omega), Option.bind_some]
theorem s_wind {m : Nat → Nat → Int32} {q : Nat → Nat → Int64} {a : Nat} (ha : a ∈ SB) : F_X7_windInAll a (KS, m, q) = some (bx_sum (m (a + 7)) 36, (KS, m, q)) := by
  obtain ⟨h0, h1, h2, h3, h4, h5, h6, h7⟩ := sb_all ha
  have hl := sb_lt ha
  unfold F_X7_windInAll
  rw [sb_gd ha]
  simp only [sb_g ha, Option.bind_some]
  rw [sum_ok h7 (by omega) (by omega), Option.bind_some]
theorem s_acted {m : Nat → Nat → Int32} {q : Nat → Nat → Int64} {a : Nat} (ha : a ∈ SB) : F_X7_actedInAll a (KS, m, q) = some (bx_sum (m (a + 4)) 6, (KS, m, q)) := by
  obtain ⟨h0, h1, h2, h3, h4, h5, h6, h7⟩ := sb_all ha
  have hl := sb_lt ha
  unfold F_X7_actedInAll
  rw [sb_gd ha]
  simp only [sb_g ha, Option.bind_some]
  rw [sum_ok h4 (by omega) (by omega), Option.bind_some]
/-- two States hold the same, as far as they reach -/
def SEq (s u : Nat → Nat → Int32) : Prop := (∀ k, k < 6 → s 1 k = u 1 k ∧ s 2 k = u 2 k ∧ s 3 k = u 3 k ∧ s 4 k = u 4 k ∧ s 5 k = u 5 k) ∧ (∀ k, k < 4 → s 6 k = u 6 k) ∧ (∀ k, k < 36 → s 7 k = u 7 k) ∧ s 0 7 = u 0 7 ∧ s 0 8 = u 0 8
theorem SEq.rf {s : Nat → Nat → Int32} : SEq s s := ⟨fun _ _ => ⟨rfl, rfl, rfl, rfl, rfl⟩, fun _ _ => rfl, fun _ _ => rfl, rfl, rfl⟩
theorem SEq.symm {s u : Nat → Nat → Int32} (h : SEq s u) : SEq u s := ⟨fun k hk => by obtain ⟨a, b, c, d, e⟩ := h.1 k hk; exact ⟨a.symm, b.symm, c.symm, d.symm, e.symm⟩, fun k hk => (h.2.1 k hk).symm, fun k hk => (h.2.2.1 k hk).symm, h.2.2.2.1.symm, h.2.2.2.2.symm⟩
theorem SEq.trans {s u v : Nat → Nat → Int32} (h : SEq s u) (h2 : SEq u v) : SEq s v := ⟨fun k hk => by obtain ⟨a, b, c, d, e⟩ := h.1 k hk; obtain ⟨a2, b2, c2, d2, e2⟩ := h2.1 k hk; exact ⟨a.trans a2, b.trans b2, c.trans c2, d.trans d2, e.trans e2⟩, fun k hk => (h.2.1 k hk).trans (h2.2.1 k hk), fun k hk => (h.2.2.1 k hk).trans (h2.2.2.1 k hk), h.2.2.2.1.trans h2.2.2.2.1, h.2.2.2.2.trans h2.2.2.2.2⟩
/-- the block that begins at a -/
def blk (m : Nat → Nat → Int32) (a : Nat) : Nat → Nat → Int32 := fun j k => m (a + j) k
/-- nothing outside [a, b) has changed -/
def Out (m m1 : Nat → Nat → Int32) (a b : Nat) : Prop := ∀ i, i < a ∨ b ≤ i → m1 i = m i
theorem u2_at {f : Nat → Nat → Int32} {a k i j : Nat} {v : Int32} : mk_u2 f a k v i j = if i = a ∧ j = k then v else f i j := by
  unfold mk_u2 va_up
  by_cases h : i = a
  · subst h
    by_cases h2 : j = k <;> simp [h2]
  · simp [h]
theorem s_copyFrom {m : Nat → Nat → Int32} {q : Nat → Nat → Int64} {a b : Nat} (ha : a ∈ SB) (hb : b ∈ SB) (hne : a ≠ b) : ∃ m1, F_X7_copyFrom a b (KS, m, q) = some ((), (KS, m1, q)) ∧ Out m m1 a (a + 8) ∧ SEq (blk m1 a) (blk m b) := by
  obtain ⟨h0, h1, h2, h3, h4, h5, h6, h7⟩ := sb_all ha
  obtain ⟨g0, g1, g2, g3, g4, g5, g6, g7⟩ := sb_all hb
  have hap : a + 8 ≤ b ∨ b + 8 ≤ a := (sb_apart ha hb).resolve_left hne
  unfold F_X7_copyFrom
  simp only [sb_gd ha, sb_g ha, sb_g hb, Option.bind_some]
  rw [cp_ok (n := 6) (x := 6) g1 h1 rfl (by omega) (by omega) (by omega)]
  simp only [sb_g ha, sb_g hb, sb_pi ha, Option.bind_some]
  rw [cp_ok (n := 6) (x := 6) g2 h2 rfl (by omega) (by omega) (by omega)]
  simp only [sb_g ha, sb_g hb, sb_pi ha, Option.bind_some]
  rw [cp_ok (n := 6) (x := 6) g3 h3 rfl (by omega) (by omega) (by omega)]
  simp only [sb_g ha, sb_g hb, sb_pi ha, Option.bind_some]
  rw [cp_ok (n := 6) (x := 6) g4 h4 rfl (by omega) (by omega) (by omega)]
  simp only [sb_g ha, sb_g hb, sb_pi ha, Option.bind_some]
  rw [cp_ok (n := 6) (x := 6) g5 h5 rfl (by omega) (by omega) (by omega)]
  simp only [sb_g ha, sb_g hb, sb_pi ha, Option.bind_some]
  rw [cp_ok (n := 4) (x := 4) g6 h6 rfl (by omega) (by omega) (by omega)]
  simp only [sb_g ha, sb_g hb, sb_pi ha, Option.bind_some]
  rw [cp_ok (n := 36) (x := 36) g7 h7 rfl (by omega) (by omega) (by omega)]
  simp only [sb_g ha, sb_g hb, sb_pi ha, Option.bind_some]
  refine ⟨_, rfl, fun i hi => ?_, ⟨fun k hk => ?_, fun k hk => ?_, fun k hk => ?_, ?_, ?_⟩⟩
  · funext j
    have e : ∀ x, x < 8 → ¬ i = a + x := fun x hx => by omega
    simp only [u2_at, va_up, e 1 (by omega), e 2 (by omega), e 3 (by omega), e 4 (by omega), e 5 (by omega), e 6 (by omega), e 7 (by omega), if_false]
    have e0 : ¬ i = a := by omega
    simp only [e0, false_and, if_false]
  · have d : ∀ x y, x < 8 → y < 8 → ¬ b + x = a + y := fun x y hx hy => by omega
    have d0 : ∀ x, x < 8 → 0 < x → ¬ a + x = a := fun x hx h => by omega
    refine ⟨?_, ?_, ?_, ?_, ?_⟩ <;> simp only [blk, u2_at, va_up, hk] <;> simp (config := { decide := true }) [hk, d]
  · have d : ∀ x y, x < 8 → y < 8 → ¬ b + x = a + y := fun x y hx hy => by omega
    simp only [blk, u2_at, va_up, hk] <;> simp (config := { decide := true }) [hk, d]
  · have d : ∀ x y, x < 8 → y < 8 → ¬ b + x = a + y := fun x y hx hy => by omega
    simp only [blk, u2_at, va_up, hk] <;> simp (config := { decide := true }) [hk, d]
  · have d : ∀ x y, x < 8 → y < 8 → ¬ b + x = a + y := fun x y hx hy => by omega
    have d1 : ∀ y, y < 8 → ¬ b = a + y := fun y hy => by omega
    have d2 : ¬ b = a := by omega
    simp (config := { decide := true }) [blk, u2_at, va_up, d1, d2]
  · have d1 : ∀ y, y < 8 → ¬ b = a + y := fun y hy => by omega
    have d2 : ¬ b = a := by omega
    simp (config := { decide := true }) [blk, u2_at, va_up, d1, d2]
