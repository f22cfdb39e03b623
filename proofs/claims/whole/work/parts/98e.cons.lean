/-! the start: what the constructors lay -/
set_option maxRecDepth 4000 in
theorem gdS {β : Type} {pre rest : List mk_K} {c N : Nat} {l : List (Option Nat)} {m : Nat → Nat → Int32} {q : Nat → Nat → Int64} {o : Option β} : mk_gd (pre ++ (c, N, l) :: rest, m, q) pre.length c o = o := by
  unfold mk_gd
  simp only [List.getElem?_append_right (Nat.le_refl _), Nat.sub_self, List.getElem?_cons_zero, if_true]
set_option maxRecDepth 4000 in
theorem setS {pre rest : List mk_K} {x y : mk_K} : (pre ++ x :: rest).set pre.length y = pre ++ y :: rest := by
  rw [List.set_append_right _ _ (Nat.le_refl _), Nat.sub_self]
  rfl
set_option maxRecDepth 4000 in
theorem paS {pre rest : List mk_K} {c N k b : Nat} {l : List (Option Nat)} {m : Nat → Nat → Int32} {q : Nat → Nat → Int64} (h : k < N) (h2 : l.length = N) : mk_pa (pre ++ (c, N, l) :: rest, m, q) pre.length c k b = some (pre ++ (c, N, l.set k (some b)) :: rest, m, q) := by
  have h3 : k < l.length := by rw [h2]; exact h
  unfold mk_pa
  simp only [List.getElem?_append_right (Nat.le_refl _), Nat.sub_self, List.getElem?_cons_zero, h, h3, true_and, if_true, setS]
set_option maxRecDepth 4000 in
theorem piS {pre rest : List mk_K} {c N k : Nat} {l : List (Option Nat)} {m : Nat → Nat → Int32} {q : Nat → Nat → Int64} {v : Int32} (h : k < N) : mk_pi (pre ++ (c, N, l) :: rest, m, q) pre.length c k v = some (pre ++ (c, N, l) :: rest, mk_u2 m pre.length k v, q) := by
  unfold mk_pi
  simp only [List.getElem?_append_right (Nat.le_refl _), Nat.sub_self, List.getElem?_cons_zero, h, true_and, if_true]
set_option maxRecDepth 4000 in
theorem gaS {pre rest : List mk_K} {c N k : Nat} {l : List (Option Nat)} {m : Nat → Nat → Int32} {q : Nat → Nat → Int64} (h : k < N) : mk_ga (pre ++ (c, N, l) :: rest, m, q) pre.length c k = l.getD k none := by
  unfold mk_ga
  simp only [List.getElem?_append_right (Nat.le_refl _), Nat.sub_self, List.getElem?_cons_zero, h, true_and, if_true]
set_option maxRecDepth 4000 in
theorem naS {pre rest : List mk_K} {x : mk_K} {m : Nat → Nat → Int32} {q : Nat → Nat → Int64} {tag s : Nat} (h : pre.length < 800000) (h2 : Nat.ble rest.length 90000 = true) (hs : s ≤ 1000000) : mk_na tag (pre ++ x :: rest, m, q) (nI s) = some (pre.length + (rest.length + 1), (pre ++ x :: (rest ++ [(tag, s, if tag < 104 then [] else List.replicate s none)]), mk_z0 m (pre.length + (rest.length + 1)) 1 0, mk_z0 q (pre.length + (rest.length + 1)) 1 0)) := by
  have h3 : rest.length ≤ 90000 := Nat.le_of_ble_eq_true h2
  have e : (nI s).toNatClampNeg = s := nI_clamp (by omega)
  have el : (pre ++ x :: rest).length = pre.length + (rest.length + 1) := by rw [List.length_append, List.length_cons]
  unfold mk_na mk_add
  show (if (pre ++ x :: rest).length < 900000 ∧ _ then _ else _) = _
  rw [el, if_pos ⟨by omega, nI_pos (by omega), by rw [e]; exact hs⟩, e, List.append_assoc, List.cons_append]
  rfl
set_option maxRecDepth 4000 in
theorem newS {pre rest : List mk_K} {x : mk_K} {m : Nat → Nat → Int32} {q : Nat → Nat → Int64} {ci N : Nat} (h : pre.length < 800000) (h2 : Nat.ble rest.length 90000 = true) : mk_new (pre ++ x :: rest, m, q) ci N = some (pre.length + (rest.length + 1), (pre ++ x :: (rest ++ [(ci, N, List.replicate N none)]), mk_z0 m (pre.length + (rest.length + 1)) 1 0, mk_z0 q (pre.length + (rest.length + 1)) 1 0)) := by
  have h3 : rest.length ≤ 90000 := Nat.le_of_ble_eq_true h2
  have el : (pre ++ x :: rest).length = pre.length + (rest.length + 1) := by rw [List.length_append, List.length_cons]
  unfold mk_new mk_add
  show (if (pre ++ x :: rest).length < 900000 then _ else _) = _
  rw [el, if_pos (by omega), List.append_assoc, List.cons_append]
  rfl
set_option maxRecDepth 4000 in
theorem newL {L : List mk_K} {m : Nat → Nat → Int32} {q : Nat → Nat → Int64} {ci N : Nat} (h : L.length < 900000) : mk_new (L, m, q) ci N = some (L.length, (L ++ [(ci, N, List.replicate N none)], mk_z0 m L.length 1 0, mk_z0 q L.length 1 0)) := by
  unfold mk_new mk_add
  rw [if_pos h]
  rfl
/-- nothing but n .. n + sz is changed -/
def OU (n sz : Nat) (m m1 : Nat → Nat → Int32) : Prop := ∀ a, a < n ∨ n + sz ≤ a → m1 a = m a
set_option maxRecDepth 4000 in
theorem OU.rf {n sz : Nat} {m : Nat → Nat → Int32} : OU n sz m m := fun _ _ => rfl
set_option maxRecDepth 4000 in
theorem OU.z {n sz : Nat} {m m1 : Nat → Nat → Int32} (h : OU n sz m m1) : OU n (sz + 1) m (mk_z0 m1 (n + sz) 1 0) := fun a ha => (mk_z0_old (by omega)).trans (h a (by omega))
set_option maxRecDepth 4000 in
theorem OU.u {n sz a k : Nat} {m m1 : Nat → Nat → Int32} {v : Int32} (h : OU n sz m m1) (h1 : n ≤ a) (h2 : a < n + sz) : OU n sz m (mk_u2 m1 a k v) := fun b hb => (mk_u2_ne (by omega)).trans (h b hb)
set_option maxRecDepth 4000 in
theorem OU.c {n sz sz2 : Nat} {m m1 m2 : Nat → Nat → Int32} (h : OU n sz m m1) (h2 : OU (n + sz) sz2 m1 m2) : OU n (sz + sz2) m m2 := fun a ha => (h2 a (by omega)).trans (h a (by omega))
set_option maxRecDepth 4000 in
theorem OU.le {n sz sz2 : Nat} {m m1 : Nat → Nat → Int32} (h : OU n sz m m1) (h2 : sz ≤ sz2) : OU n sz2 m m1 := fun a ha => h a (by omega)
/-- and there all is 0 -/
def ZA (n sz : Nat) (m m1 : Nat → Nat → Int32) : Prop := OU n sz m m1 ∧ ∀ a k, n ≤ a → a < n + sz → m1 a k = 0
set_option maxRecDepth 4000 in
theorem ZA.b {n : Nat} {m : Nat → Nat → Int32} (hz : ∀ k, m n k = 0) : ZA n 1 m m := ⟨OU.rf, fun a k h1 h2 => by
  have e : a = n := by omega
  rw [e]; exact hz k⟩
set_option maxRecDepth 4000 in
theorem ZA.z {n sz : Nat} {m m1 : Nat → Nat → Int32} (h : ZA n sz m m1) : ZA n (sz + 1) m (mk_z0 m1 (n + sz) 1 0) := ⟨h.1.z, fun a k h1 h2 => by
  by_cases c : a = n + sz
  · rw [mk_z0_new (by omega) (by omega)]
  · rw [mk_z0_old (by omega)]; exact h.2 a k h1 (by omega)⟩
set_option maxRecDepth 4000 in
theorem ZA.u {n sz a k : Nat} {m m1 : Nat → Nat → Int32} (h : ZA n sz m m1) (h1 : n ≤ a) (h2 : a < n + sz) : ZA n sz m (mk_u2 m1 a k (nI 0)) := ⟨h.1.u h1 h2, fun b j h3 h4 => by
  rw [u2_at]
  split
  · rfl
  · exact h.2 b j h3 h4⟩
set_option maxRecDepth 4000 in
theorem ZA.c {n sz sz2 : Nat} {m m1 m2 : Nat → Nat → Int32} (h : ZA n sz m m1) (h2 : ZA (n + sz) sz2 (mk_z0 m1 (n + sz) 1 0) m2) (h3 : 1 ≤ sz2) : ZA n (sz + sz2) m m2 := ⟨fun a ha => (h2.1 a (by omega)).trans ((mk_z0_old (by omega)).trans (h.1 a (by omega))), fun a k h4 h5 => by
  by_cases c : a < n + sz
  · rw [h2.1 a (by omega), mk_z0_old (by omega)]; exact h.2 a k h4 c
  · exact h2.2 a k (by omega) (by omega)⟩
set_option maxRecDepth 4000 in
theorem ltT {a b : Nat} (h : a < b) : (a < b) = True := eq_true h
set_option maxRecDepth 4000 in
theorem z0n {m : Nat → Nat → Int32} {n : Nat} (k : Nat) : mk_z0 m n 1 0 n k = 0 := by rw [mk_z0_new (Nat.le_refl _) (by omega)]
def S7 (n : Nat) : List mk_K := (6, 9, [some (n + 1), some (n + 2), some (n + 3), some (n + 4), some (n + 5), some (n + 6), some (n + 7), none, none]) :: [(100, 6, []), (100, 6, []), (100, 6, []), (100, 6, []), (100, 6, []), (100, 4, []), (100, 36, [])]
set_option maxRecDepth 4000 in
theorem i_X7 (pre : List mk_K) (m : Nat → Nat → Int32) (q : Nat → Nat → Int64) (hl : pre.length < 800000) (hz : ∀ k, m pre.length k = 0) : ∃ m1 q1, F_X7_init pre.length (pre ++ [(6, 9, List.replicate 9 none)], m, q) = some ((), (pre ++ S7 pre.length, m1, q1)) ∧ ZA pre.length 8 m m1 := by
  refine ⟨(mk_u2 (mk_u2 (mk_z0 (mk_z0 (mk_z0 (mk_z0 (mk_z0 (mk_z0 (mk_z0 m (pre.length + 1) 1 0) (pre.length + 2) 1 0) (pre.length + 3) 1 0) (pre.length + 4) 1 0) (pre.length + 5) 1 0) (pre.length + 6) 1 0) (pre.length + 7) 1 0) pre.length 7 (nI 0)) pre.length 8 (nI 0)), (mk_z0 (mk_z0 (mk_z0 (mk_z0 (mk_z0 (mk_z0 (mk_z0 q (pre.length + 1) 1 0) (pre.length + 2) 1 0) (pre.length + 3) 1 0) (pre.length + 4) 1 0) (pre.length + 5) 1 0) (pre.length + 6) 1 0) (pre.length + 7) 1 0), ?_, (((ZA.b hz).z.z.z.z.z.z.z.u (k := 7) (by omega) (by omega)).u (k := 8) (by omega) (by omega))⟩
  have hr : (List.replicate 9 none : List (Option Nat)) = [none, none, none, none, none, none, none, none, none] := rfl
  rw [hr]
  unfold F_X7_init S7
  simp (config := {maxSteps := 5000000}) (disch := first | omega | with_unfolding_all rfl) only [ob_some, lit, naS, newS, gdS, paS, piS, List.length_append, List.length_cons, List.length_nil, List.append_assoc, List.cons_append, List.nil_append, Nat.zero_add, Nat.reduceAdd, Nat.add_assoc, ltT, reduceIte, if_true, List.set_cons_zero, List.set_cons_succ, Nat.reduceLT, if_false]
def S3 (n : Nat) : List mk_K := (3, 12, [none, none, none, none, none, some (n + 1), some (n + 2), some (n + 3), some (n + 4), some (n + 5), some (n + 6), some (n + 7)]) :: [(100, 6, []), (100, 6, []), (100, 6, []), (100, 4, []), (100, 4, []), (100, 4, []), (100, 4, [])]
set_option maxRecDepth 4000 in
theorem i_X3 (pre : List mk_K) (m : Nat → Nat → Int32) (q : Nat → Nat → Int64) (hl : pre.length < 800000) (hz : ∀ k, m pre.length k = 0) : ∃ m1 q1, F_X3_init pre.length (pre ++ [(3, 12, List.replicate 12 none)], m, q) = some ((), (pre ++ S3 pre.length, m1, q1)) ∧ ZA pre.length 8 m m1 := by
  refine ⟨(mk_z0 (mk_z0 (mk_z0 (mk_z0 (mk_z0 (mk_z0 (mk_z0 (mk_u2 (mk_u2 (mk_u2 (mk_u2 (mk_u2 m pre.length 0 (nI 0)) pre.length 1 (nI 0)) pre.length 2 (nI 0)) pre.length 3 (nI 0)) pre.length 4 (nI 0)) (pre.length + 1) 1 0) (pre.length + 2) 1 0) (pre.length + 3) 1 0) (pre.length + 4) 1 0) (pre.length + 5) 1 0) (pre.length + 6) 1 0) (pre.length + 7) 1 0), (mk_z0 (mk_z0 (mk_z0 (mk_z0 (mk_z0 (mk_z0 (mk_z0 q (pre.length + 1) 1 0) (pre.length + 2) 1 0) (pre.length + 3) 1 0) (pre.length + 4) 1 0) (pre.length + 5) 1 0) (pre.length + 6) 1 0) (pre.length + 7) 1 0), ?_, ((((((ZA.b hz).u (k := 0) (by omega) (by omega)).u (k := 1) (by omega) (by omega)).u (k := 2) (by omega) (by omega)).u (k := 3) (by omega) (by omega)).u (k := 4) (by omega) (by omega)).z.z.z.z.z.z.z⟩
  have hr : (List.replicate 12 none : List (Option Nat)) = [none, none, none, none, none, none, none, none, none, none, none, none] := rfl
  rw [hr]
  unfold F_X3_init S3
  simp (config := {maxSteps := 5000000}) (disch := first | omega | with_unfolding_all rfl) only [ob_some, lit, naS, newS, gdS, paS, piS, List.length_append, List.length_cons, List.length_nil, List.append_assoc, List.cons_append, List.nil_append, Nat.zero_add, Nat.reduceAdd, Nat.add_assoc, ltT, reduceIte, if_true, List.set_cons_zero, List.set_cons_succ, Nat.reduceLT, if_false]
def S1 (n : Nat) : List mk_K := (1, 4, [some (n + 1), some (n + 2), some (n + 3), none]) :: [(100, 10, []), (100, 10, []), (100, 10, [])]
set_option maxRecDepth 4000 in
theorem i_X1 (pre : List mk_K) (m : Nat → Nat → Int32) (q : Nat → Nat → Int64) (hl : pre.length < 800000) (hz : ∀ k, m pre.length k = 0) : ∃ m1 q1, F_X1_init pre.length (pre ++ [(1, 4, List.replicate 4 none)], m, q) = some ((), (pre ++ S1 pre.length, m1, q1)) ∧ ZA pre.length 4 m m1 := by
  refine ⟨(mk_u2 (mk_z0 (mk_z0 (mk_z0 m (pre.length + 1) 1 0) (pre.length + 2) 1 0) (pre.length + 3) 1 0) pre.length 3 (nI 0)), (mk_z0 (mk_z0 (mk_z0 q (pre.length + 1) 1 0) (pre.length + 2) 1 0) (pre.length + 3) 1 0), ?_, ((ZA.b hz).z.z.z.u (k := 3) (by omega) (by omega))⟩
  have hr : (List.replicate 4 none : List (Option Nat)) = [none, none, none, none] := rfl
  rw [hr]
  unfold F_X1_init S1
  simp (config := {maxSteps := 5000000}) (disch := first | omega | with_unfolding_all rfl) only [ob_some, lit, naS, newS, gdS, paS, piS, List.length_append, List.length_cons, List.length_nil, List.append_assoc, List.cons_append, List.nil_append, Nat.zero_add, Nat.reduceAdd, Nat.add_assoc, ltT, reduceIte, if_true, List.set_cons_zero, List.set_cons_succ, Nat.reduceLT, if_false]
def S9 (n : Nat) : List mk_K := (8, 1, [some (n + 1)]) :: [(101, 12, [])]
set_option maxRecDepth 4000 in
theorem i_X9 (pre : List mk_K) (m : Nat → Nat → Int32) (q : Nat → Nat → Int64) (hl : pre.length < 800000) (hz : ∀ k, m pre.length k = 0) : ∃ m1 q1, F_X9_init pre.length (pre ++ [(8, 1, List.replicate 1 none)], m, q) = some ((), (pre ++ S9 pre.length, m1, q1)) ∧ ZA pre.length 2 m m1 := by
  refine ⟨(mk_z0 m (pre.length + 1) 1 0), (mk_z0 q (pre.length + 1) 1 0), ?_, (ZA.b hz).z⟩
  have hr : (List.replicate 1 none : List (Option Nat)) = [none] := rfl
  rw [hr]
  unfold F_X9_init S9
  simp (config := {maxSteps := 5000000}) (disch := first | omega | with_unfolding_all rfl) only [ob_some, lit, naS, newS, gdS, paS, piS, List.length_append, List.length_cons, List.length_nil, List.append_assoc, List.cons_append, List.nil_append, Nat.zero_add, Nat.reduceAdd, Nat.add_assoc, ltT, reduceIte, if_true, List.set_cons_zero, List.set_cons_succ, Nat.reduceLT, if_false]
def S5 (n : Nat) : List mk_K := (4, 8, [some (n + 1), some (n + 2), none, none, some (n + 3), some (n + 4), some (n + 5), some (n + 6)]) :: [(100, 400, []), (100, 400, []), (100, 12, []), (100, 12, []), (100, 12, []), (101, 60, [])]
set_option maxRecDepth 4000 in
theorem i_X5 (pre : List mk_K) (m : Nat → Nat → Int32) (q : Nat → Nat → Int64) (hl : pre.length < 800000) (hz : ∀ k, m pre.length k = 0) : ∃ m1 q1, F_X5_init pre.length (pre ++ [(4, 8, List.replicate 8 none)], m, q) = some ((), (pre ++ S5 pre.length, m1, q1)) ∧ ZA pre.length 7 m m1 := by
  refine ⟨(mk_z0 (mk_z0 (mk_z0 (mk_z0 (mk_u2 (mk_u2 (mk_z0 (mk_z0 m (pre.length + 1) 1 0) (pre.length + 2) 1 0) pre.length 2 (nI 0)) pre.length 3 (nI 0)) (pre.length + 3) 1 0) (pre.length + 4) 1 0) (pre.length + 5) 1 0) (pre.length + 6) 1 0), (mk_z0 (mk_z0 (mk_z0 (mk_z0 (mk_z0 (mk_z0 q (pre.length + 1) 1 0) (pre.length + 2) 1 0) (pre.length + 3) 1 0) (pre.length + 4) 1 0) (pre.length + 5) 1 0) (pre.length + 6) 1 0), ?_, (((ZA.b hz).z.z.u (k := 2) (by omega) (by omega)).u (k := 3) (by omega) (by omega)).z.z.z.z⟩
  have hr : (List.replicate 8 none : List (Option Nat)) = [none, none, none, none, none, none, none, none] := rfl
  rw [hr]
  unfold F_X5_init S5
  simp (config := {maxSteps := 5000000}) (disch := first | omega | with_unfolding_all rfl) only [ob_some, lit, naS, newS, gdS, paS, piS, List.length_append, List.length_cons, List.length_nil, List.append_assoc, List.cons_append, List.nil_append, Nat.zero_add, Nat.reduceAdd, Nat.add_assoc, ltT, reduceIte, if_true, List.set_cons_zero, List.set_cons_succ, Nat.reduceLT, if_false]
def S6 (n : Nat) : List mk_K := (5, 8, [some (n + 1), none, none, none, none, none, none, none]) :: [(100, 400, [])]
set_option maxRecDepth 4000 in
theorem i_X6 (pre : List mk_K) (m : Nat → Nat → Int32) (q : Nat → Nat → Int64) (hl : pre.length < 800000) (hz : ∀ k, m pre.length k = 0) : ∃ m1 q1, F_X6_init pre.length (pre ++ [(5, 8, List.replicate 8 none)], m, q) = some ((), (pre ++ S6 pre.length, m1, q1)) ∧ ZA pre.length 2 m m1 := by
  refine ⟨(mk_u2 (mk_u2 (mk_u2 (mk_u2 (mk_u2 (mk_u2 (mk_u2 (mk_z0 m (pre.length + 1) 1 0) pre.length 1 (nI 0)) pre.length 2 (nI 0)) pre.length 3 (nI 0)) pre.length 4 (nI 0)) pre.length 5 (nI 0)) pre.length 6 (nI 0)) pre.length 7 (nI 0)), (mk_z0 q (pre.length + 1) 1 0), ?_, ((((((((ZA.b hz).z.u (k := 1) (by omega) (by omega)).u (k := 2) (by omega) (by omega)).u (k := 3) (by omega) (by omega)).u (k := 4) (by omega) (by omega)).u (k := 5) (by omega) (by omega)).u (k := 6) (by omega) (by omega)).u (k := 7) (by omega) (by omega))⟩
  have hr : (List.replicate 8 none : List (Option Nat)) = [none, none, none, none, none, none, none, none] := rfl
  rw [hr]
  unfold F_X6_init S6
  simp (config := {maxSteps := 5000000}) (disch := first | omega | with_unfolding_all rfl) only [ob_some, lit, naS, newS, gdS, paS, piS, List.length_append, List.length_cons, List.length_nil, List.append_assoc, List.cons_append, List.nil_append, Nat.zero_add, Nat.reduceAdd, Nat.add_assoc, ltT, reduceIte, if_true, List.set_cons_zero, List.set_cons_succ, Nat.reduceLT, if_false]
def S8 (n : Nat) : List mk_K := (7, 7, [some (n + 1), none, none, none, none, none, none]) :: [(100, 400, [])]
set_option maxRecDepth 4000 in
theorem i_X8 (pre : List mk_K) (m : Nat → Nat → Int32) (q : Nat → Nat → Int64) (hl : pre.length < 800000) (hz : ∀ k, m pre.length k = 0) : ∃ m1 q1, F_X8_init pre.length (pre ++ [(7, 7, List.replicate 7 none)], m, q) = some ((), (pre ++ S8 pre.length, m1, q1)) ∧ OU pre.length 2 m m1 ∧ m1 pre.length 1 = nI 0 := by
  refine ⟨(mk_u2 (mk_u2 (mk_u2 (mk_u2 (mk_u2 (mk_u2 (mk_z0 m (pre.length + 1) 1 0) pre.length 1 (nI 0)) pre.length 2 (nI 0)) pre.length 3 (nI 0)) pre.length 4 (-nI 1)) pre.length 5 (nI 0)) pre.length 6 (nI 0)), (mk_z0 q (pre.length + 1) 1 0), ?_, (((((((OU.rf (sz := 1)).z.u (k := 1) (v := (nI 0)) (by omega) (by omega)).u (k := 2) (v := (nI 0)) (by omega) (by omega)).u (k := 3) (v := (nI 0)) (by omega) (by omega)).u (k := 4) (v := (-nI 1)) (by omega) (by omega)).u (k := 5) (v := (nI 0)) (by omega) (by omega)).u (k := 6) (v := (nI 0)) (by omega) (by omega)), by simp (disch := omega) only [u2_s, u2_b]⟩
  have hr : (List.replicate 7 none : List (Option Nat)) = [none, none, none, none, none, none, none] := rfl
  rw [hr]
  unfold F_X8_init S8
  simp (config := {maxSteps := 5000000}) (disch := first | omega | with_unfolding_all rfl) only [ob_some, lit, naS, newS, gdS, paS, piS, List.length_append, List.length_cons, List.length_nil, List.append_assoc, List.cons_append, List.nil_append, Nat.zero_add, Nat.reduceAdd, Nat.add_assoc, ltT, reduceIte, if_true, List.set_cons_zero, List.set_cons_succ, Nat.reduceLT, if_false]
