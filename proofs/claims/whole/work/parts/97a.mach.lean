/-! RULES told: reading as a machine over signs -/
def bd (s : Nat) : Nat := if s = 37 ∨ s = 42 ∨ s = 47 then 6 else if s = 43 ∨ s = 45 then 5 else if s = 60 ∨ s = 61 ∨ s = 62 ∨ s = 257 ∨ s = 258 then 4 else if s = 315 then 3 else if s = 313 then 2 else if s = 314 then 1 else 0
def ent (s : Nat) : Nat := if s = 43 then 2 else if s = 45 then 3 else if s = 60 then 4 else if s = 257 then 5 else if s = 61 then 6 else if s = 258 then 7 else if s = 62 then 8 else if s = 315 then 9 else if s = 313 then 10 else if s = 314 then 11 else if s = 91 then 12 else if s = 42 then 13 else if s = 47 then 14 else 15
def en (s : Nat) : Nat × Nat := (ent s, 0)
set_option maxRecDepth 4000 in
theorem bd_mem {s : Nat} (h : 1 ≤ bd s) : s = 37 ∨ s = 42 ∨ s = 47 ∨ s = 43 ∨ s = 45 ∨ s = 60 ∨ s = 61 ∨ s = 62 ∨ s = 257 ∨ s = 258 ∨ s = 315 ∨ s = 313 ∨ s = 314 := by
  unfold bd at h
  split at h
  · omega
  split at h
  · omega
  split at h
  · omega
  split at h
  · omega
  split at h
  · omega
  split at h
  · omega
  omega
set_option maxRecDepth 4000 in
theorem sgn_en {s : Nat} (h : 1 ≤ bd s) : sgn (en s) = s ∧ (en s).1 ≠ 0 ∧ (en s).1 ≠ 1 ∧ s < 1000 ∧ s ≠ 91 := by
  rcases bd_mem h with e | e | e | e | e | e | e | e | e | e | e | e | e <;> subst e <;> decide
set_option maxRecDepth 4000 in
theorem bd_le (s : Nat) : bd s ≤ 6 := by
  unfold bd
  split
  · omega
  split
  · omega
  split
  · omega
  split
  · omega
  split
  · omega
  split <;> omega
set_option maxRecDepth 4000 in
theorem bd_91 : bd 91 = 0 := rfl
set_option maxRecDepth 4000 in
theorem bindC {s : Nat} (hs : s ≤ 1000) (t : mk_S) : F_X6_bindingOf (sI s) t = some (nI (bd s), t) := by
  unfold F_X6_bindingOf
  by_cases h : 1 ≤ bd s
  · rcases bd_mem h with e | e | e | e | e | e | e | e | e | e | e | e | e <;> subst e <;> simp (disch := omega) only [sI_n, lit, eq_T, eq_F, reduceIte] <;> rfl
  · have h0 : bd s = 0 := by omega
    have n : ∀ c, 1 ≤ bd c → s ≠ c := fun c hc e => by subst e; omega
    have n1 := n 37 (by decide)
    have n2 := n 42 (by decide)
    have n3 := n 43 (by decide)
    have n4 := n 45 (by decide)
    have n5 := n 47 (by decide)
    have n6 := n 60 (by decide)
    have n7 := n 61 (by decide)
    have n8 := n 62 (by decide)
    have n9 := n 257 (by decide)
    have n10 := n 258 (by decide)
    have n11 := n 313 (by decide)
    have n12 := n 314 (by decide)
    have n13 := n 315 (by decide)
    rw [h0]
    simp (disch := omega) only [lit, sI_eqc, n1, n2, n3, n4, n5, n6, n7, n8, n9, n10, n11, n12, n13, reduceIte]
/-- fault, where, what may come, part, waiting signs, items, clauses, sum of this clause (in its test), code -/
abbrev RG : Type := Nat × Nat × Nat × Nat × List Nat × Nat × RT × List (Nat × Nat) × List (Nat × Nat)
def ft (f : Nat) : RG := (f, 0, 0, 0, [], 0, [], [], [])
def rl (lv : Nat) : List Nat → List (Nat × Nat) → List Nat × List (Nat × Nat)
  | [], cd => ([], cd)
  | s :: st, cd => if lv ≤ bd s then rl lv st (cd ++ [en s]) else (s :: st, cd)
def dp : List Nat → Nat
  | [] => 0
  | s :: st => dp st + (if s = 91 ∨ s = 315 then 1 else 0)
def nb : List Nat → Nat
  | [] => 0
  | s :: st => nb st + (if s = 91 then 0 else 1)
def lenR : RT → Nat
  | [] => 0
  | c :: cl => c.1.length + c.2.length + lenR cl
def vE (T : TT) (s : Nat) : Nat × Nat := if sgn1 T s = 256 then (0, nval T s (end1 T s - s)) else (1, sgn1 T s - 300)
def sC (T : TT) (s : Nat) (st : List Nat) (it : Nat) (cl : RT) : RG := if sgn1 T s = 316 then (if cl.length < 12 then (0, end1 T s, 1, 0, st, it, cl, [], []) else ft (1 + 8 * s + 4)) else ft (1 + 8 * s + 0)
def sV (T : TT) (s pt : Nat) (st : List Nat) (it : Nat) (cl : RT) (c1 cd : List (Nat × Nat)) : RG := if sgn1 T s = 256 ∨ (300 ≤ sgn1 T s ∧ sgn1 T s < 312) then (if sgn1 T s = 256 ∧ 5 < end1 T s - s then ft (1 + 8 * s + 1) else if it < 60 then (0, end1 T s, 3, pt, st, it + 1, cl, c1, cd ++ [vE T s]) else ft (1 + 8 * s + 3)) else ft (1 + 8 * s + 0)
def sF (T : TT) (s pt : Nat) (st : List Nat) (it : Nat) (cl : RT) (c1 cd : List (Nat × Nat)) : RG := if sgn1 T s = 91 ∨ sgn1 T s = 315 then (if dp st < 10 then (0, end1 T s, 2, pt, sgn1 T s :: st, it, cl, c1, cd) else ft (1 + 8 * s + 2)) else sV T s 1 st it cl c1 cd
def sE (T : TT) (s pt : Nat) (st : List Nat) (it : Nat) (cl : RT) (c1 cd : List (Nat × Nat)) : RG := if (sgn1 T s = 59 ∨ sgn1 T s = 1000) ∧ pt ≠ 1 then (if (rl 1 st cd).1 = [] then (0, end1 T s, if sgn1 T s = 59 then 0 else 4, pt, [], it, cl ++ [if pt = 0 then ((rl 1 st cd).2, []) else (c1, (rl 1 st cd).2)], [], []) else ft (1 + 8 * s + 0)) else ft (1 + 8 * s + 0)
def sB (T : TT) (s pt : Nat) (st : List Nat) (it : Nat) (cl : RT) (c1 cd : List (Nat × Nat)) : RG :=
  if 5 ≤ bd (sgn1 T s) ∧ pt ≠ 3 then (0, end1 T s, 1, pt, sgn1 T s :: (rl (bd (sgn1 T s)) st cd).1, it, cl, c1, (rl (bd (sgn1 T s)) st cd).2)
  else if bd (sgn1 T s) = 4 ∧ pt = 1 then (if it < 60 then (0, end1 T s, 1, 2, sgn1 T s :: (rl 4 st cd).1, it + 1, cl, c1, (rl 4 st cd).2) else ft (1 + 8 * s + 3))
  else if (sgn1 T s = 313 ∨ sgn1 T s = 314) ∧ 2 ≤ pt then (0, end1 T s, 2, pt, sgn1 T s :: (rl (bd (sgn1 T s)) st cd).1, it, cl, c1, (rl (bd (sgn1 T s)) st cd).2)
  else if sgn1 T s = 93 ∧ 2 ≤ pt then (if (rl 1 st cd).1 = [] then ft (1 + 8 * s + 0) else (0, end1 T s, 3, 3, (rl 1 st cd).1.tail, it, cl, c1, (rl 1 st cd).2))
  else if sgn1 T s = 312 ∧ pt = 0 then (0, end1 T s, 2, 0, (rl 1 st cd).1, it, cl, (rl 1 st cd).2, [])
  else sE T s pt st it cl c1 cd
def rst (T : TT) : RG → RG
  | (fa, a, nx, pt, st, it, cl, c1, cd) => if fa = 0 then (match nx with
    | 0 => sC T (sp isB T a) st it cl
    | 1 => sV T (sp isB T a) pt st it cl c1 cd
    | 2 => sF T (sp isB T a) pt st it cl c1 cd
    | 3 => sB T (sp isB T a) pt st it cl c1 cd
    | _ => (fa, a, nx, pt, st, it, cl, c1, cd)) else (fa, a, nx, pt, st, it, cl, c1, cd)
set_option maxRecDepth 4000 in
theorem rst_ft {T : TT} {f : Nat} (h : f ≠ 0) : rst T (ft f) = ft f := by
  unfold ft
  show (if f = 0 then _ else _) = _
  rw [if_neg h]
def itr (T : TT) : Nat → RG → RG
  | 0, x => x
  | n + 1, x => itr T n (rst T x)
set_option maxRecDepth 4000 in
theorem itr_fix {T : TT} {x : RG} (h : rst T x = x) : ∀ n, itr T n x = x
  | 0 => rfl
  | n + 1 => by unfold itr; rw [h]; exact itr_fix h n
set_option maxRecDepth 4000 in
theorem itr_add {T : TT} : ∀ n k x, itr T (n + k) x = itr T k (itr T n x)
  | 0, k, x => by rw [Nat.zero_add]; rfl
  | n + 1, k, x => by rw [show n + 1 + k = (n + k) + 1 by omega]; exact itr_add n k (rst T x)
set_option maxRecDepth 4000 in
/-- two ends are one -/
theorem itr_one {T : TT} {x y z : RG} {n k : Nat} (hy : itr T n x = y) (hz : itr T k x = z) (ey : rst T y = y) (ez : rst T z = z) : y = z := by
  have a := itr_add (T := T) n k x
  have b := itr_add (T := T) k n x
  rw [hy, itr_fix ey] at a
  rw [hz, itr_fix ez, Nat.add_comm, a] at b
  exact b
/-- at least one step leads from one to the other -/
def R1 (T : TT) (x y : RG) : Prop := ∃ n, itr T n (rst T x) = y
set_option maxRecDepth 4000 in
theorem R1.trans {T : TT} {x y z : RG} (h : R1 T x y) (h2 : R1 T y z) : R1 T x z := by
  obtain ⟨n, hn⟩ := h
  obtain ⟨k, hk⟩ := h2
  refine ⟨n + (k + 1), ?_⟩
  rw [itr_add, hn]
  exact hk
set_option maxRecDepth 4000 in
theorem R1.one {T : TT} {x y : RG} (h : rst T x = y) : R1 T x y := ⟨0, h⟩
set_option maxRecDepth 4000 in
theorem R1.of {T : TT} {x w y : RG} (e : rst T x = rst T w) (h : R1 T w y) : R1 T x y := by
  obtain ⟨n, hn⟩ := h
  exact ⟨n, by rw [e]; exact hn⟩
set_option maxRecDepth 4000 in
theorem R1.it {T : TT} {x y : RG} (h : R1 T x y) : ∃ n, itr T n x = y := by
  obtain ⟨n, hn⟩ := h
  exact ⟨n + 1, hn⟩
/-! releasing -/
set_option maxRecDepth 4000 in
theorem rl_len {lv : Nat} : ∀ (st : List Nat) (cd : List (Nat × Nat)), (rl lv st cd).1.length + (rl lv st cd).2.length = st.length + cd.length ∧ (rl lv st cd).1.length ≤ st.length ∧ cd.length ≤ (rl lv st cd).2.length := by
  intro st
  induction st with
  | nil => intro cd; exact ⟨rfl, Nat.le_refl _, Nat.le_refl _⟩
  | cons s st ih =>
    intro cd
    unfold rl
    split
    · have := ih (cd ++ [en s])
      simp only [List.length_append, List.length_cons, List.length_nil] at this ⊢
      omega
    · exact ⟨rfl, Nat.le_refl _, Nat.le_refl _⟩
set_option maxRecDepth 4000 in
theorem rl_nb {lv : Nat} (h : 1 ≤ lv) : ∀ (st : List Nat) (cd : List (Nat × Nat)), nb (rl lv st cd).1 + (rl lv st cd).2.length = nb st + cd.length := by
  intro st
  induction st with
  | nil => intro cd; rfl
  | cons s st ih =>
    intro cd
    unfold rl
    split
    · rename_i c
      have := ih (cd ++ [en s])
      simp only [List.length_append, List.length_cons, List.length_nil] at this
      have h91 := (sgn_en (s := s) (by omega)).2.2.2.2
      simp only [nb, h91, if_false]
      omega
    · rfl
set_option maxRecDepth 4000 in
theorem rl_mem {lv x : Nat} : ∀ (st : List Nat) (cd : List (Nat × Nat)), x ∈ (rl lv st cd).1 → x ∈ st := by
  intro st
  induction st with
  | nil => intro cd h; exact h
  | cons s st ih =>
    intro cd h
    unfold rl at h
    split at h
    · exact List.mem_cons_of_mem _ (ih _ h)
    · exact h
set_option maxRecDepth 4000 in
theorem nb_le : ∀ st : List Nat, nb st ≤ st.length
  | [] => Nat.le_refl _
  | s :: st => by
    have := nb_le st
    simp only [nb, List.length_cons]
    split <;> omega
set_option maxRecDepth 4000 in
theorem dp_le : ∀ st : List Nat, dp st ≤ st.length
  | [] => Nat.le_refl _
  | s :: st => by
    have := dp_le st
    simp only [dp, List.length_cons]
    split <;> omega
set_option maxRecDepth 4000 in
theorem rl_hd {lv : Nat} : ∀ (st : List Nat) (cd : List (Nat × Nat)) (x : Nat) (r : List Nat), (rl lv st cd).1 = x :: r → bd x < lv := by
  intro st
  induction st with
  | nil => intro cd x r h; simp [rl] at h
  | cons s st ih =>
    intro cd x r h
    unfold rl at h
    split at h
    · exact ih _ x r h
    · simp only [List.cons.injEq] at h
      rw [← h.1]; omega
set_option maxRecDepth 4000 in
theorem lenR_app (cl : RT) (c : List (Nat × Nat) × List (Nat × Nat)) : lenR (cl ++ [c]) = lenR cl + (c.1.length + c.2.length) := by
  induction cl with
  | nil => simp [lenR]
  | cons d cl ih => simp only [List.cons_append, lenR, ih]; omega
/-! what holds all along -/
def Gv (T : TT) : RG → Prop
  | (fa, a, nx, pt, st, it, cl, c1, cd) => fa < 100000 ∧ (fa = 0 → a ≤ T.1 ∧ lenR cl + c1.length + cd.length + st.length ≤ a ∧ 2 * (lenR cl + c1.length + cd.length + nb st) ≤ a + 2 * it + (if nx = 3 then 0 else 1) ∧ it ≤ 60 ∧ cl.length ≤ 12 ∧ (nx = 1 ∨ nx = 2 ∨ nx = 3 → cl.length < 12) ∧ (∀ s, s ∈ st → s = 91 ∨ 1 ≤ bd s) ∧ nx ≤ 4 ∧ pt ≤ 3 ∧ (nx = 0 ∨ nx = 4 → st = [] ∧ c1 = [] ∧ cd = []) ∧ ((nx = 1 ∨ nx = 3) ∧ pt = 0 → c1 = []))
set_option maxRecDepth 4000 in
theorem Gv.ft {T : TT} {f : Nat} (h : f < 100000) (h0 : f ≠ 0) : Gv T (ft f) := ⟨h, fun e => absurd e h0⟩
set_option maxRecDepth 4000 in
theorem Gv.val {T : TT} {a pt nx : Nat} {st : List Nat} {it : Nat} {cl : RT} {c1 cd : List (Nat × Nat)} (hT : T.1 ≤ 400) (hb : ∀ i, bt T i < 256 ∨ bt T i = 1000) (h : Gv T (0, a, nx, pt, st, it, cl, c1, cd)) (hn : nx = 1 ∨ nx = 2) (hc : pt = 0 → c1 = []) (hp : pt ≤ 3) : Gv T (sV T (sp isB T a) pt st it cl c1 cd) := by
  obtain ⟨g1, g2, g3, g4, g5, g6, g7, g8, g9, g10, g11⟩ := h.2 rfl
  have hs := sp_le (P := isB) (T := T) hB g1
  have hs2 := sp_ge (P := isB) (T := T) hB a
  generalize sp isB T a = s at *
  obtain ⟨e1, e2, e3⟩ := end1_le hs
  have g12 := g6 (by omega)
  rw [if_neg (by omega)] at g3
  unfold sV
  split
  · rename_i c
    have n1 : bt T s ≠ 1000 := fun h => by
      have := (sg_b (T := T) (s := s) (c := 1000) (hb s) (by omega) rfl rfl (by omega) (by omega)).mpr h
      omega
    have e3 := e3 n1
    split
    · exact Gv.ft (by omega) (by omega)
    · split
      · refine ⟨by omega, fun _ => ⟨e2, ?_, ?_, by omega, g5, fun _ => g12, g7, by omega, hp, fun h => by omega, fun h => hc h.2⟩⟩
        · simp only [List.length_append, List.length_cons, List.length_nil]; omega
        · simp only [List.length_append, List.length_cons, List.length_nil, if_true]; omega
      · exact Gv.ft (by omega) (by omega)
  · exact Gv.ft (by omega) (by omega)
set_option maxRecDepth 4000 in
theorem Gv.rst {T : TT} {x : RG} (hT : T.1 ≤ 400) (hb : ∀ i, bt T i < 256 ∨ bt T i = 1000) (h : Gv T x) : Gv T (rst T x) := by
  obtain ⟨fa, a, nx, pt, st, it, cl, c1, cd⟩ := x
  by_cases c0 : ¬ fa = 0
  · show Gv T (if fa = 0 then _ else _)
    rw [if_neg c0]; exact h
  have c0 : fa = 0 := Classical.byContradiction c0
  subst c0
  obtain ⟨g1, g2, g3, g4, g5, g6, g7, g8, g9, g10, g11⟩ := h.2 rfl
  have hs := sp_le (P := isB) (T := T) hB g1
  have hs2 := sp_ge (P := isB) (T := T) hB a
  rcases (show nx = 0 ∨ nx = 1 ∨ nx = 2 ∨ nx = 3 ∨ nx = 4 by omega) with e | e | e | e | e <;> subst e
  · show Gv T (sC T (sp isB T a) st it cl)
    generalize sp isB T a = s at *
    obtain ⟨e1, e2, e3⟩ := end1_le hs
    obtain ⟨q1, q2, q3⟩ := g10 (.inl rfl)
    subst q1 q2 q3
    unfold sC
    split
    · split
      · refine ⟨by omega, fun _ => ⟨e2, ?_, ?_, g4, g5, fun _ => by assumption, g7, by omega, by omega, fun h => by omega, fun _ => rfl⟩⟩
        · simp only [List.length_nil] at g2 ⊢; omega
        · simp only [List.length_nil] at g3 ⊢
          rw [if_neg (by omega)] at g3 ⊢; omega
      · exact Gv.ft (by omega) (by omega)
    · exact Gv.ft (by omega) (by omega)
  · exact Gv.val hT hb h (.inl rfl) (fun e => g11 ⟨.inl rfl, e⟩) g9
  · show Gv T (sF T (sp isB T a) pt st it cl c1 cd)
    have hv := Gv.val (pt := 1) hT hb (h := (⟨by omega, fun _ => ⟨g1, g2, g3, g4, g5, g6, g7, g8, by omega, g10, fun h => by omega⟩⟩ : Gv T (0, a, 2, 1, st, it, cl, c1, cd))) (.inr rfl) (fun e => by omega) (by omega)
    generalize sp isB T a = s at *
    obtain ⟨e1, e2, e3⟩ := end1_le hs
    have g12 := g6 (by omega)
    rw [if_neg (by omega)] at g3
    unfold sF
    split
    · rename_i c
      have n1 : bt T s ≠ 1000 := fun h => by
        have := (sg_b (T := T) (s := s) (c := 1000) (hb s) (by omega) rfl rfl (by omega) (by omega)).mpr h
        omega
      have e3 := e3 n1
      split
      · refine ⟨by omega, fun _ => ⟨e2, ?_, ?_, g4, g5, fun _ => g12, fun x hx => ?_, by omega, g9, fun h => by omega, fun h => by omega⟩⟩
        · simp only [List.length_cons]; omega
        · rw [if_neg (by omega)]
          rcases c with c | c
          · rw [c]; simp only [nb, if_true]; omega
          · have hw : wix T s = 15 := (sg_w (k := 15) (hb s) (by omega)).mp c
            have ee := end_w (T := T) (s := s) (by omega)
            rw [hw] at ee
            have e3 : (wd 15).length = 3 := rfl
            rw [c]
            have : nb (315 :: st) = nb st + 1 := rfl
            rw [this]; omega
        · rcases List.mem_cons.mp hx with hx | hx
          · rw [hx]
            rcases c with c | c <;> rw [c] <;> decide
          · exact g7 x hx
      · exact Gv.ft (by omega) (by omega)
    · exact hv
  · show Gv T (sB T (sp isB T a) pt st it cl c1 cd)
    generalize sp isB T a = s at *
    obtain ⟨e1, e2, e3⟩ := end1_le hs
    have g12 := g6 (by omega)
    rw [if_pos rfl] at g3
    have n1 : sgn1 T s ≠ 1000 → s < end1 T s := fun h => e3 (fun h2 => h ((sg_b (T := T) (s := s) (c := 1000) (hb s) (by omega) rfl rfl (by omega) (by omega)).mpr h2))
    have hL := fun lv => rl_len (lv := lv) st cd
    have hN := fun lv (h : 1 ≤ lv) => rl_nb h st cd
    have hM := fun lv x => rl_mem (lv := lv) (x := x) st cd
    have hbd := bd_le (sgn1 T s)
    have join : ∀ nx1 pt1 it1, it ≤ it1 → it1 ≤ 60 → nx1 = 1 ∨ nx1 = 2 → pt1 ≤ 3 → (nx1 = 1 → pt1 = 0 → c1 = []) → 1 ≤ bd (sgn1 T s) → Gv T (0, end1 T s, nx1, pt1, sgn1 T s :: (rl (bd (sgn1 T s)) st cd).1, it1, cl, c1, (rl (bd (sgn1 T s)) st cd).2) := fun nx1 pt1 it1 hi hi2 hn hp hc hg => by
      have a1 := hL (bd (sgn1 T s))
      have a2 := hN (bd (sgn1 T s)) hg
      have n2 := n1 (fun e => by rw [e] at hg; exact absurd hg (by decide))
      have n91 := (sgn_en hg).2.2.2.2
      refine ⟨by omega, fun _ => ⟨e2, ?_, ?_, hi2, g5, fun _ => g12, fun x hx => ?_, by omega, hp, fun h => by omega, fun h => hc (by omega) h.2⟩⟩
      · simp only [List.length_cons]; omega
      · rw [if_neg (by omega)]
        simp only [nb, n91, if_false]; omega
      · rcases List.mem_cons.mp hx with hx | hx
        · rw [hx]; exact .inr hg
        · exact g7 x (hM _ x hx)
    unfold sB
    split
    · rename_i c
      exact join 1 pt it (Nat.le_refl _) g4 (.inl rfl) g9 (fun _ h => g11 ⟨.inr rfl, h⟩) (by omega)
    split
    · rename_i c
      split
      · have := join 1 2 (it + 1) (by omega) (by omega) (.inl rfl) (by omega) (fun _ h => by omega) (by omega)
        rwa [c.1] at this
      · exact Gv.ft (by omega) (by omega)
    split
    · rename_i c
      refine join 2 pt it (Nat.le_refl _) g4 (.inr rfl) g9 (fun h => by omega) ?_
      rcases c.1 with h | h <;> rw [h] <;> decide
    have a1 := hL 1
    have a2 := hN 1 (by omega)
    split
    · rename_i c
      have n2 := n1 (by omega)
      split
      · exact Gv.ft (by omega) (by omega)
      · rename_i d
        cases hr : (rl 1 st cd).1 with
        | nil => exact absurd hr d
        | cons y r =>
          rw [hr] at a1 a2
          have hy : y ∈ st := hM 1 y (by rw [hr]; exact List.mem_cons_self ..)
          refine ⟨by omega, fun _ => ⟨e2, ?_, ?_, g4, g5, fun _ => g12, fun x hx => ?_, by omega, by omega, fun h => by omega, fun h => by omega⟩⟩
          · simp only [List.length_cons, List.tail_cons] at a1 ⊢; omega
          · simp only [nb, List.tail_cons, if_true] at a2 ⊢; omega
          · exact g7 x (hM 1 x (by rw [hr]; exact List.mem_cons_of_mem _ hx))
    split
    · rename_i c
      have n2 := n1 (by omega)
      have hc1 := g11 ⟨.inr rfl, c.2⟩
      subst hc1
      refine ⟨by omega, fun _ => ⟨e2, ?_, ?_, g4, g5, fun _ => g12, fun x hx => g7 x (hM 1 x hx), by omega, by omega, fun h => by omega, fun h => by omega⟩⟩
      · simp only [List.length_nil] at g2 ⊢; omega
      · rw [if_neg (by omega)]; simp only [List.length_nil] at g3 ⊢; omega
    unfold sE
    split
    · rename_i c
      split
      · rename_i d
        rw [d] at a1 a2
        simp only [List.length_nil, nb] at a1 a2
        have hnx : (if sgn1 T s = 59 then 0 else 4) = 0 ∨ (if sgn1 T s = 59 then 0 else 4) = 4 := by split <;> omega
        have hlen : lenR (cl ++ [if pt = 0 then ((rl 1 st cd).2, []) else (c1, (rl 1 st cd).2)]) ≤ lenR cl + (c1.length + (rl 1 st cd).2.length) := by
          rw [lenR_app]
          split
          · simp only [List.length_nil]; omega
          · simp only []; omega
        generalize (if sgn1 T s = 59 then 0 else 4) = nx1 at *
        refine ⟨by omega, fun _ => ⟨e2, ?_, ?_, g4, ?_, fun h => by omega, fun x hx => by simp at hx, by omega, g9, fun _ => ⟨rfl, rfl, rfl⟩, fun _ => rfl⟩⟩
        · simp only [List.length_nil]; omega
        · have h3 : (if nx1 = 3 then 0 else 1) = 1 := if_neg (by omega)
          rw [h3]; simp only [List.length_nil, nb]; omega
        · simp only [List.length_append, List.length_cons, List.length_nil]; omega
      · exact Gv.ft (by omega) (by omega)
    · exact Gv.ft (by omega) (by omega)
  · show Gv T (0, a, 4, pt, st, it, cl, c1, cd)
    exact h
set_option maxRecDepth 4000 in
theorem Gv.itr {T : TT} (hT : T.1 ≤ 400) (hb : ∀ i, bt T i < 256 ∨ bt T i = 1000) : ∀ n x, Gv T x → Gv T (itr T n x)
  | 0, _, h => h
  | n + 1, _, h => Gv.itr hT hb n _ (h.rst hT hb)
set_option maxRecDepth 4000 in
theorem Gv.r1 {T : TT} {x y : RG} (hT : T.1 ≤ 400) (hb : ∀ i, bt T i < 256 ∨ bt T i = 1000) (h : Gv T x) (r : R1 T x y) : Gv T y := by
  obtain ⟨n, rfl⟩ := r
  exact Gv.itr hT hb n _ (h.rst hT hb)
