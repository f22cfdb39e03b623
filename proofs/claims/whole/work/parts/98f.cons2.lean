/-! the start: rows of objects -/
set_option maxRecDepth 4000 in
theorem S7l (n : Nat) : (S7 n).length = 8 := rfl
set_option maxRecDepth 4000 in
theorem S3l (n : Nat) : (S3 n).length = 8 := rfl
set_option maxRecDepth 4000 in
theorem S1l (n : Nat) : (S1 n).length = 4 := rfl
set_option maxRecDepth 4000 in
theorem S9l (n : Nat) : (S9 n).length = 2 := rfl
set_option maxRecDepth 4000 in
theorem S5l (n : Nat) : (S5 n).length = 7 := rfl
set_option maxRecDepth 4000 in
theorem S6l (n : Nat) : (S6 n).length = 2 := rfl
set_option maxRecDepth 4000 in
theorem S8l (n : Nat) : (S8 n).length = 2 := rfl
def OB (S : Nat → List mk_K) (st b : Nat) : Nat → List mk_K
  | 0 => []
  | i + 1 => OB S st b i ++ S (b + st * i)
set_option maxRecDepth 4000 in
theorem OBl {S : Nat → List mk_K} {st b : Nat} (h : ∀ n, (S n).length = st) : ∀ i, (OB S st b i).length = st * i
  | 0 => rfl
  | i + 1 => by
    show (OB S st b i ++ S (b + st * i)).length = _
    rw [List.length_append, OBl h i, h, Nat.mul_succ]
def rfK (K st b i : Nat) : List (Option Nat) := (List.range K).map (fun j => if j < i then some (b + st * j) else none)
set_option maxRecDepth 4000 in
theorem rfK_l {K st b i : Nat} : (rfK K st b i).length = K := by simp [rfK]
set_option maxRecDepth 4000 in
theorem rfK_0 {K st b : Nat} : rfK K st b 0 = List.replicate K none := by
  apply List.ext_getElem
  · simp [rfK]
  · intro j h1 h2
    simp [rfK]
set_option maxRecDepth 4000 in
theorem rfK_s {K st b i : Nat} : (rfK K st b i).set i (some (b + st * i)) = rfK K st b (i + 1) := by
  apply List.ext_getElem
  · simp [rfK]
  · intro j h1 h2
    simp only [rfK, List.getElem_set, List.getElem_map, List.getElem_range]
    by_cases c : i = j
    · subst c
      rw [if_pos rfl, if_pos (by omega)]
    · rw [if_neg c]
      by_cases d : j < i
      · rw [if_pos d, if_pos (by omega)]
      · rw [if_neg d, if_neg (by omega)]
set_option maxRecDepth 4000 in
theorem staS {pre rest : List mk_K} {tag N i b ci : Nat} {l : List (Option Nat)} {J : mk_K} {m : Nat → Nat → Int32} {q : Nat → Nat → Int64} (hi : i < N) (hl : l.length = N) (hN : N ≤ 1000) (hJ : (pre ++ (tag, N, l) :: rest)[b]? = some J) (hc : J.1 = ci) : mk_sta tag ci (pre ++ (tag, N, l) :: rest, m, q) pre.length (nI i) b = some (pre ++ (tag, N, l.set i (some b)) :: rest, m, q) := by
  have e : (nI i).toNatClampNeg = i := nI_clamp (by omega)
  have e2 : ¬ (nI i < 0 ∨ N ≤ (nI i).toNatClampNeg) := by
    rw [e]
    rintro (c | c)
    · exact nI_pos (by omega) c
    · omega
  unfold mk_sta
  simp only [hJ, List.getElem?_append_right (Nat.le_refl _), Nat.sub_self, List.getElem?_cons_zero]
  rw [if_pos ⟨trivial, hc, e2, by rw [e, hl]; exact hi⟩, setS, e]
set_option maxRecDepth 4000 in
theorem OU.nil {n : Nat} {m : Nat → Nat → Int32} : OU n 0 m m := fun _ _ => rfl
set_option maxRecDepth 4000 in
theorem ZA.nil {n : Nat} {m : Nat → Nat → Int32} : ZA n 0 m m := ⟨OU.nil, fun a k h1 h2 => by omega⟩
set_option maxRecDepth 4000 in
theorem OU.c2 {n sz sz2 : Nat} {m m1 m2 : Nat → Nat → Int32} (h : OU n sz (mk_z0 m n 1 0) m1) (hs : 1 ≤ sz) (h2 : OU (n + sz) sz2 m1 m2) : OU n (sz + sz2) m m2 := fun a ha => (h2 a (by omega)).trans ((h a (by omega)).trans (mk_z0_old (by omega)))
set_option maxRecDepth 4000 in
theorem ZA.c2 {n sz sz2 : Nat} {m m1 m2 : Nat → Nat → Int32} (h : ZA n sz (mk_z0 m n 1 0) m1) (hs : 1 ≤ sz) (h2 : ZA (n + sz) sz2 m1 m2) : ZA n (sz + sz2) m m2 := ⟨h.1.c2 hs h2.1, fun a k h4 h5 => by
  by_cases c : a < n + sz
  · rw [h2.1 a (by omega)]; exact h.2 a k h4 c
  · exact h2.2 a k (by omega) (by omega)⟩
set_option maxRecDepth 4000 in
theorem at_end {L : List mk_K} {x : mk_K} {r : List mk_K} {b : Nat} (h : L.length = b) : (L ++ x :: r)[b]? = some x := by
  rw [← h, List.getElem?_append_right (Nat.le_refl _), Nat.sub_self, List.getElem?_cons_zero]
set_option maxRecDepth 4000 in
theorem l_X0 {A R0 : List mk_K} {n b : Nat} (hga : ∀ rest m q, mk_ga (A ++ rest, m, q) n 0 0 = some A.length) (hb : b = A.length + 1 + R0.length) (hbl : b < 10000) : ∀ (d i f : Nat) (m : Nat → Nat → Int32) (q : Nat → Nat → Int64), i + d = 20 → d < f → ∃ m1 q1, B_X0_init_25 f n (nI i) (A ++ (104, 20, rfK 20 8 b i) :: (R0 ++ OB S7 8 b i), m, q) = some ((), (A ++ (104, 20, rfK 20 8 b 20) :: (R0 ++ OB S7 8 b 20), m1, q1)) ∧ ZA (b + 8 * i) (8 * d) m m1 := by
  intro d
  induction d with
  | zero =>
    intro i f m q hi hf
    obtain ⟨f, rfl⟩ : ∃ g, f = g + 1 := ⟨f - 1, by omega⟩
    have e : i = 20 := by omega
    subst e
    refine ⟨m, q, ?_, ZA.nil⟩
    rw [B_X0_init_25]
    simp (disch := omega) only [lit, le_T, reduceIte]
  | succ d ih =>
    intro i f m q hi hf
    obtain ⟨f, rfl⟩ : ∃ g, f = g + 1 := ⟨f - 1, by omega⟩
    have hL : (A ++ (104, 20, rfK 20 8 b i) :: (R0 ++ OB S7 8 b i)).length = b + 8 * i := by
      rw [List.length_append, List.length_cons, List.length_append, OBl S7l i]; omega
    obtain ⟨m1, q1, a1, a2⟩ := i_X7 (A ++ (104, 20, rfK 20 8 b i) :: (R0 ++ OB S7 8 b i)) (mk_z0 m (b + 8 * i) 1 0) (mk_z0 q (b + 8 * i) 1 0) (by rw [hL]; omega) (fun k => by rw [hL]; exact z0n k)
    rw [hL] at a1 a2
    have eL : A ++ (104, 20, rfK 20 8 b i) :: (R0 ++ OB S7 8 b i) ++ S7 (b + 8 * i) = A ++ (104, 20, rfK 20 8 b i) :: (R0 ++ OB S7 8 b (i + 1)) := by
      rw [List.append_assoc, List.cons_append, List.append_assoc]
      rfl
    rw [eL] at a1
    have hJ : ∃ J, (A ++ (104, 20, rfK 20 8 b i) :: (R0 ++ OB S7 8 b (i + 1)))[b + 8 * i]? = some J ∧ J.1 = 6 := by
      rw [← eL]
      exact ⟨_, at_end hL, rfl⟩
    obtain ⟨J, hJ, hJ1⟩ := hJ
    have hnew := newL (L := A ++ (104, 20, rfK 20 8 b i) :: (R0 ++ OB S7 8 b i)) (m := m) (q := q) (ci := 6) (N := 9) (by rw [hL]; omega)
    rw [hL] at hnew
    simp only [lit] at a1 hnew
    have hst := staS (m := m1) (q := q1) (pre := A) (i := i) (by omega) rfK_l (by omega) hJ hJ1
    rw [rfK_s] at hst
    obtain ⟨m2, q2, b1, b2⟩ := ih (i + 1) f m1 q1 (by omega) (by omega)
    refine ⟨m2, q2, ?_, ?_⟩
    · rw [← b1, B_X0_init_25]
      simp (disch := omega) only [lit, le_F, reduceIte, hga, ob_some, hnew, a1, hst, nI_add, Nat.reduceAdd]
    · have e1 : 8 * (d + 1) = 8 + 8 * d := by omega
      have e2 : b + 8 * (i + 1) = b + 8 * i + 8 := by omega
      rw [e1]
      rw [e2] at b2
      exact ZA.c2 a2 (by omega) b2
set_option maxRecDepth 4000 in
theorem l_X2 {A R0 : List mk_K} {n b : Nat} (hga : ∀ rest m q, mk_ga (A ++ rest, m, q) n 2 1 = some A.length) (hb : b = A.length + 1 + R0.length) (hbl : b < 10000) : ∀ (d i f : Nat) (m : Nat → Nat → Int32) (q : Nat → Nat → Int64), i + d = 6 → d < f → ∃ m1 q1, B_X2_init_117 f n (nI i) (A ++ (105, 6, rfK 6 7 b i) :: (R0 ++ OB S5 7 b i), m, q) = some ((), (A ++ (105, 6, rfK 6 7 b 6) :: (R0 ++ OB S5 7 b 6), m1, q1)) ∧ ZA (b + 7 * i) (7 * d) m m1 := by
  intro d
  induction d with
  | zero =>
    intro i f m q hi hf
    obtain ⟨f, rfl⟩ : ∃ g, f = g + 1 := ⟨f - 1, by omega⟩
    have e : i = 6 := by omega
    subst e
    refine ⟨m, q, ?_, ZA.nil⟩
    rw [B_X2_init_117]
    simp (disch := omega) only [lit, le_T, reduceIte]
  | succ d ih =>
    intro i f m q hi hf
    obtain ⟨f, rfl⟩ : ∃ g, f = g + 1 := ⟨f - 1, by omega⟩
    have hL : (A ++ (105, 6, rfK 6 7 b i) :: (R0 ++ OB S5 7 b i)).length = b + 7 * i := by
      rw [List.length_append, List.length_cons, List.length_append, OBl S5l i]; omega
    obtain ⟨m1, q1, a1, a2⟩ := i_X5 (A ++ (105, 6, rfK 6 7 b i) :: (R0 ++ OB S5 7 b i)) (mk_z0 m (b + 7 * i) 1 0) (mk_z0 q (b + 7 * i) 1 0) (by rw [hL]; omega) (fun k => by rw [hL]; exact z0n k)
    rw [hL] at a1 a2
    have eL : A ++ (105, 6, rfK 6 7 b i) :: (R0 ++ OB S5 7 b i) ++ S5 (b + 7 * i) = A ++ (105, 6, rfK 6 7 b i) :: (R0 ++ OB S5 7 b (i + 1)) := by
      rw [List.append_assoc, List.cons_append, List.append_assoc]
      rfl
    rw [eL] at a1
    have hJ : ∃ J, (A ++ (105, 6, rfK 6 7 b i) :: (R0 ++ OB S5 7 b (i + 1)))[b + 7 * i]? = some J ∧ J.1 = 4 := by
      rw [← eL]
      exact ⟨_, at_end hL, rfl⟩
    obtain ⟨J, hJ, hJ1⟩ := hJ
    have hnew := newL (L := A ++ (105, 6, rfK 6 7 b i) :: (R0 ++ OB S5 7 b i)) (m := m) (q := q) (ci := 4) (N := 8) (by rw [hL]; omega)
    rw [hL] at hnew
    simp only [lit] at a1 hnew
    have hst := staS (m := m1) (q := q1) (pre := A) (i := i) (by omega) rfK_l (by omega) hJ hJ1
    rw [rfK_s] at hst
    obtain ⟨m2, q2, b1, b2⟩ := ih (i + 1) f m1 q1 (by omega) (by omega)
    refine ⟨m2, q2, ?_, ?_⟩
    · rw [← b1, B_X2_init_117]
      simp (disch := omega) only [lit, le_F, reduceIte, hga, ob_some, hnew, a1, hst, nI_add, Nat.reduceAdd]
    · have e1 : 7 * (d + 1) = 7 + 7 * d := by omega
      have e2 : b + 7 * (i + 1) = b + 7 * i + 7 := by omega
      rw [e1]
      rw [e2] at b2
      exact ZA.c2 a2 (by omega) b2
/-- how it was ahead of the last acts -/
def H0 (n : Nat) : List mk_K := (0, 3, [some (n + 1), none, none]) :: (104, 20, rfK 20 8 (n + 2) 20) :: OB S7 8 (n + 2) 20
set_option maxRecDepth 4000 in
theorem H0l (n : Nat) : (H0 n).length = 162 := by
  show (OB S7 8 (n + 2) 20).length + 1 + 1 = 162
  rw [OBl S7l]
set_option maxRecDepth 4000 in
theorem i_X0 (pre : List mk_K) (m : Nat → Nat → Int32) (q : Nat → Nat → Int64) (hl : pre.length < 5000) (hz : ∀ k, m pre.length k = 0) : ∃ m1 q1, F_X0_init pre.length (pre ++ [(0, 3, List.replicate 3 none)], m, q) = some ((), (pre ++ H0 pre.length, m1, q1)) ∧ ZA pre.length 162 m m1 := by
  have hr : (List.replicate 3 none : List (Option Nat)) = [none, none, none] := rfl
  obtain ⟨m1, q1, a1, a2⟩ := l_X0 (A := pre ++ [(0, 3, [some (pre.length + 1), none, none])]) (R0 := []) (n := pre.length) (b := pre.length + 2) (fun rest m q => by rw [List.append_assoc, List.cons_append, gaS (by omega)]; simp only [List.length_append, List.length_cons, List.length_nil, List.getD_cons_zero, Nat.zero_add]) (by simp only [List.length_append, List.length_cons, List.length_nil]) (by omega) 20 0 mk_fu (mk_u2 (mk_u2 (mk_z0 m (pre.length + 1) 1 0) pre.length 1 (nI 0)) pre.length 2 (nI 0)) (mk_z0 q (pre.length + 1) 1 0) (by omega) (by rw [mk_fu_eq]; omega)
  rw [rfK_0] at a1
  refine ⟨m1, q1, ?_, ?_⟩
  · rw [hr]
    unfold F_X0_init
    simp (config := {maxSteps := 5000000}) (disch := first | omega | with_unfolding_all rfl) only [ob_some, lit, naS, gdS, paS, piS, List.length_append, List.length_cons, List.length_nil, List.append_assoc, List.cons_append, List.nil_append, Nat.zero_add, Nat.reduceAdd, Nat.add_assoc, ltT, if_true, List.set_cons_zero, Nat.reduceLT, if_false]
    have e0 : OB S7 8 (pre.length + 2) 0 = [] := rfl
    simp only [List.append_assoc, List.cons_append, List.nil_append, lit, e0] at a1
    unfold H0
    exact a1
  · have z2 : ZA pre.length 2 m (mk_u2 (mk_u2 (mk_z0 m (pre.length + 1) 1 0) pre.length 1 (nI 0)) pre.length 2 (nI 0)) := (((ZA.b hz).z).u (by omega) (by omega)).u (by omega) (by omega)
    refine ⟨z2.1.c a2.1, fun a k h1 h2 => ?_⟩
    by_cases c : a < pre.length + 2
    · rw [a2.1 a (by omega)]; exact z2.2 a k h1 c
    · exact a2.2 a k (by omega) (by omega)
def W10 (n : Nat) : List mk_K := (9, 6, [some (n + 1), some (n + 9), some (n + 17), some (n + 179), none, none]) :: (S3 (n + 1) ++ (S7 (n + 9) ++ (H0 (n + 17) ++ S1 (n + 179))))
set_option maxRecDepth 4000 in
theorem W10l (n : Nat) : (W10 n).length = 183 := by
  show (S3 (n + 1) ++ (S7 (n + 9) ++ (H0 (n + 17) ++ S1 (n + 179)))).length + 1 = 183
  rw [List.length_append, List.length_append, List.length_append, S3l, S7l, H0l, S1l]
set_option maxRecDepth 4000 in
theorem i_X10 (pre : List mk_K) (m : Nat → Nat → Int32) (q : Nat → Nat → Int64) (hl : pre.length < 4000) (hz : ∀ k, m pre.length k = 0) : ∃ m1 q1, F_X10_init pre.length (pre ++ [(9, 6, List.replicate 6 none)], m, q) = some ((), (pre ++ W10 pre.length, m1, q1)) ∧ OU pre.length 183 m m1 ∧ (∀ a k, pre.length < a → a < pre.length + 183 → m1 a k = 0) ∧ m1 pre.length 4 = -nI 1 ∧ m1 pre.length 5 = nI 0 := by
  have hr : (List.replicate 6 none : List (Option Nat)) = [none, none, none, none, none, none] := rfl
  obtain ⟨ma, qa, a1, a2⟩ := i_X3 (pre ++ [(9, 6, [none, none, none, none, none, none])]) (mk_z0 m (pre.length + 1) 1 0) (mk_z0 q (pre.length + 1) 1 0) (by simp only [List.length_append, List.length_cons, List.length_nil]; omega) (fun k => by simp only [List.length_append, List.length_cons, List.length_nil, Nat.zero_add]; exact z0n k)
  simp only [List.length_append, List.length_cons, List.length_nil, List.append_assoc, List.cons_append, List.nil_append, Nat.zero_add, Nat.reduceAdd, Nat.add_assoc, S7l, S3l, S1l, S9l, S5l, S6l, S8l] at a1 a2
  simp only [lit] at a1
  obtain ⟨mb, qb, b1, b2⟩ := i_X7 (pre ++ (9, 6, [some (pre.length + 1), none, none, none, none, none]) :: S3 (pre.length + 1)) (mk_z0 ma (pre.length + 9) 1 0) (mk_z0 qa (pre.length + 9) 1 0) (by simp only [List.length_append, List.length_cons, List.length_nil, List.append_assoc, List.cons_append, List.nil_append, Nat.zero_add, Nat.reduceAdd, Nat.add_assoc, S7l, S3l, S1l, S9l, S5l, S6l, S8l]; omega) (fun k => by simp only [List.length_append, List.length_cons, List.length_nil, List.append_assoc, List.cons_append, List.nil_append, Nat.zero_add, Nat.reduceAdd, Nat.add_assoc, S7l, S3l, S1l, S9l, S5l, S6l, S8l]; exact z0n k)
  simp only [List.length_append, List.length_cons, List.length_nil, List.append_assoc, List.cons_append, List.nil_append, Nat.zero_add, Nat.reduceAdd, Nat.add_assoc, S7l, S3l, S1l, S9l, S5l, S6l, S8l] at b1 b2
  simp only [lit] at b1
  obtain ⟨mc, qc, c1, c2⟩ := i_X0 (pre ++ (9, 6, [some (pre.length + 1), some (pre.length + 9), none, none, none, none]) :: (S3 (pre.length + 1) ++ S7 (pre.length + 9))) (mk_z0 mb (pre.length + 17) 1 0) (mk_z0 qb (pre.length + 17) 1 0) (by simp only [List.length_append, List.length_cons, List.length_nil, List.append_assoc, List.cons_append, List.nil_append, Nat.zero_add, Nat.reduceAdd, Nat.add_assoc, S7l, S3l, S1l, S9l, S5l, S6l, S8l]; omega) (fun k => by simp only [List.length_append, List.length_cons, List.length_nil, List.append_assoc, List.cons_append, List.nil_append, Nat.zero_add, Nat.reduceAdd, Nat.add_assoc, S7l, S3l, S1l, S9l, S5l, S6l, S8l]; exact z0n k)
  simp only [List.length_append, List.length_cons, List.length_nil, List.append_assoc, List.cons_append, List.nil_append, Nat.zero_add, Nat.reduceAdd, Nat.add_assoc, S7l, S3l, S1l, S9l, S5l, S6l, S8l] at c1 c2
  simp only [lit] at c1
  obtain ⟨md, qd, d1, d2⟩ := i_X1 (pre ++ (9, 6, [some (pre.length + 1), some (pre.length + 9), some (pre.length + 17), none, none, none]) :: (S3 (pre.length + 1) ++ (S7 (pre.length + 9) ++ H0 (pre.length + 17)))) (mk_z0 mc (pre.length + 179) 1 0) (mk_z0 qc (pre.length + 179) 1 0) (by simp only [List.length_append, List.length_cons, List.length_nil, List.append_assoc, List.cons_append, List.nil_append, Nat.zero_add, Nat.reduceAdd, Nat.add_assoc, S7l, S3l, S1l, S9l, S5l, S6l, S8l, H0l]; omega) (fun k => by simp only [List.length_append, List.length_cons, List.length_nil, List.append_assoc, List.cons_append, List.nil_append, Nat.zero_add, Nat.reduceAdd, Nat.add_assoc, S7l, S3l, S1l, S9l, S5l, S6l, S8l, H0l]; exact z0n k)
  simp only [List.length_append, List.length_cons, List.length_nil, List.append_assoc, List.cons_append, List.nil_append, Nat.zero_add, Nat.reduceAdd, Nat.add_assoc, S7l, S3l, S1l, S9l, S5l, S6l, S8l, H0l] at d1 d2
  simp only [lit] at d1
  have za := ((ZA.b hz).c a2 (by omega)).c b2 (by omega)
  have zb := (za.c c2 (by omega)).c d2 (by omega)
  have zb : ZA pre.length 183 m md := zb
  refine ⟨mk_u2 (mk_u2 md pre.length 4 (-nI 1)) pre.length 5 (nI 0), qd, ?_, (zb.1.u (by omega) (by omega)).u (by omega) (by omega), fun a k h1 h2 => ?_, ?_, u2_s⟩
  · rw [hr]
    unfold F_X10_init W10
    simp (config := {maxSteps := 5000000}) (disch := first | omega | (simp only [List.length_append, List.length_cons, List.length_nil, List.append_assoc, List.cons_append, List.nil_append, Nat.zero_add, Nat.reduceAdd, Nat.add_assoc, S7l, S3l, S1l, S9l, S5l, S6l, S8l, H0l] <;> with_unfolding_all rfl) | with_unfolding_all rfl) only [ob_some, lit, newS, gdS, paS, piS, List.length_append, List.length_cons, List.length_nil, List.append_assoc, List.cons_append, List.nil_append, Nat.zero_add, Nat.reduceAdd, Nat.add_assoc, S7l, S3l, S1l, S9l, S5l, S6l, S8l, H0l, ltT, if_true, List.set_cons_zero, List.set_cons_succ, a1, b1, c1, d1]
  · rw [u2_a (by omega), u2_a (by omega)]; exact zb.2 a k (by omega) (by omega)
  · rw [u2_b (by omega), u2_s]
