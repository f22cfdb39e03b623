/-- an element of an array of small numbers: tag 100 int, 102 byte, 103 boolean; from 2000000 on the arrays from outside (length first) -/
def mk_ld (tag : Nat) (t : mk_S) (a : Nat) (i : Int32) : Option Int32 := if 2000000 ≤ a then (if a ∈ mk_xs ∧ tag = 100 then (if i < 0 ∨ (t.2.1 a 0).toNatClampNeg ≤ i.toNatClampNeg then none else some (t.2.1 a (i.toNatClampNeg + 1))) else none) else match t.1[a]? with
  | some K => if K.1 = tag ∧ ¬ (i < 0 ∨ K.2.1 ≤ i.toNatClampNeg) then some (t.2.1 a i.toNatClampNeg) else none
  | none => none
def mk_nar (tag : Nat) (x : Int32) : Int32 := if tag = 102 then vp_nar .byte x else if tag = 103 then vp_nar .boolean x else x
def mk_st (tag : Nat) (t : mk_S) (a : Nat) (i x : Int32) : Option mk_S := match t.1[a]? with
  | some K => if K.1 = tag ∧ ¬ (i < 0 ∨ K.2.1 ≤ i.toNatClampNeg) then some (t.1, mk_u2 t.2.1 a i.toNatClampNeg (mk_nar tag x), t.2.2) else none
  | none => none
def mk_ldl (t : mk_S) (a : Nat) (i : Int32) : Option Int64 := match t.1[a]? with
  | some K => if K.1 = 101 ∧ ¬ (i < 0 ∨ K.2.1 ≤ i.toNatClampNeg) then some (t.2.2 a i.toNatClampNeg) else none
  | none => none
def mk_stl (t : mk_S) (a : Nat) (i : Int32) (x : Int64) : Option mk_S := match t.1[a]? with
  | some K => if K.1 = 101 ∧ ¬ (i < 0 ∨ K.2.1 ≤ i.toNatClampNeg) then some (t.1, t.2.1, mk_u2 t.2.2 a i.toNatClampNeg x) else none
  | none => none
def mk_lda (tag : Nat) (t : mk_S) (a : Nat) (i : Int32) : Option Nat := match t.1[a]? with
  | some K => if K.1 = tag ∧ ¬ (i < 0 ∨ K.2.1 ≤ i.toNatClampNeg) then K.2.2.getD i.toNatClampNeg none else none
  | none => none
def mk_len (t : mk_S) (a : Nat) : Option Int32 := if 2000000 ≤ a then (if a ∈ mk_xs then some (Int32.ofNat (t.2.1 a 0).toNatClampNeg) else none) else match t.1[a]? with
  | some K => if 100 ≤ K.1 ∧ K.1 < 108 then some (Int32.ofNat K.2.1) else none
  | none => none
/-- System.arraycopy of ints -/
def mk_cp (t : mk_S) (a : Nat) (sp : Int32) (b : Nat) (dp n : Int32) : Option mk_S := match t.1[a]?, t.1[b]? with
  | some K, some J => if K.1 = 100 ∧ J.1 = 100 ∧ ¬ sp < 0 ∧ ¬ dp < 0 ∧ ¬ n < 0 ∧ sp.toNatClampNeg + n.toNatClampNeg ≤ K.2.1 ∧ dp.toNatClampNeg + n.toNatClampNeg ≤ J.2.1 then some (t.1, va_up t.2.1 b (va_cpy (t.2.1 a) (t.2.1 b) sp.toNatClampNeg dp.toNatClampNeg n.toNatClampNeg), t.2.2) else none
  | _, _ => none
theorem mk_if_spec {β : Type} {t : mk_S} {a : Nat} {c : mk_K → Prop} [DecidablePred c] {v : mk_K → Option β} {x : β} (h : (match t.1[a]? with | some K => if c K then v K else none | none => none) = some x) : ∃ K, t.1[a]? = some K ∧ c K ∧ v K = some x := by
  cases hK : t.1[a]? with
  | none => rw [hK] at h; cases h
  | some K =>
    rw [hK] at h
    simp only at h
    by_cases hc : c K
    · rw [if_pos hc] at h
      exact ⟨K, rfl, hc, h⟩
    · rw [if_neg hc] at h; cases h
theorem mk_e_int {ac ad : Nat → Nat} {t : mk_S} {i j : Nat} {K : mk_K} (h : K.1 = 100 + j) (hj : j = 0 ∨ j = 2 ∨ j = 3) : mk_e ac ad t i K = .inl (ac j, K.2.1, .inl (t.2.1 i)) := by
  unfold mk_e
  rw [h, if_neg (by omega), if_neg (by omega), if_pos (by omega), Nat.add_sub_cancel_left]
theorem mk_e_long {ac ad : Nat → Nat} {t : mk_S} {i : Nat} {K : mk_K} (h : K.1 = 101) : mk_e ac ad t i K = .inl (ac 1, K.2.1, .inr (.inl (t.2.2 i))) := by
  unfold mk_e
  rw [h, if_neg (by omega), if_pos rfl]
theorem mk_e_ref {ac ad : Nat → Nat} {t : mk_S} {i j : Nat} {K : mk_K} (h : K.1 = 100 + j) (hj : 4 ≤ j) : mk_e ac ad t i K = .inl (ac j, K.2.1, .inr (.inr (.inr (.inr (fun q => (K.2.2.getD q none).map ad))))) := by
  unfold mk_e
  rw [h, if_neg (by omega), if_neg (by omega), if_neg (by omega), Nat.add_sub_cancel_left]
theorem mk_lt_of {t : mk_S} {a : Nat} {K : mk_K} (h : t.1[a]? = some K) : a < t.1.length := (List.getElem?_eq_some_iff.mp h).1
section MKA
variable {α : Type} {w : α → Option Value} {M : mk_M} {pc pc1 : Nat} {L : List (Option Value)} {S S1 : List Value} {t t1 : mk_S} {o : Option (α × mk_S)}
theorem xo_iald {a : Nat} {i : Int32} {f : Int32 → Option (α × mk_S)} (hd : decode M.2.1 pc = .ok (.iaload, 1)) (kk : ∀ x, mk_O w M (pc + 1) L (.int x :: S) t (f x)) : mk_O w M pc L (.int i :: .ref a :: S) t ((mk_ld 100 t a i).bind f) := by
  refine mk_O.bind fun x hx => ?_
  unfold mk_ld at hx
  by_cases hb : 2000000 ≤ a
  · rw [if_pos hb] at hx
    by_cases h1 : a ∈ mk_xs ∧ 100 = 100
    · rw [if_pos h1] at hx
      by_cases h2 : i < 0 ∨ (t.2.1 a 0).toNatClampNeg ≤ i.toNatClampNeg
      · rw [if_pos h2] at hx; cases hx
      · rw [if_neg h2] at hx
        cases hx
        refine mk_O.rd (fun p l e R s m args below meth c Q D ac g A H locs cells slots ls ad hC hsz hE hR hS _ _ kk => ?_) (fun hh h => h.pop.pop.int) (kk _)
        have hT := hE.2.2.2.1.1 a h1.1
        have eg := hR.2.2.2.2 a hb
        rw [eg] at h2 kk
        exact va_ti hC.1 hC.2.1 hT hS h2 rfl hd kk
    · rw [if_neg h1] at hx; cases hx
  · rw [if_neg hb] at hx
    obtain ⟨K, h1, h2, h3⟩ := mk_if_spec hx
    cases h3
    refine mk_O.rd (fun p l e R s m args below meth c Q D ac g A H locs cells slots ls ad hC hsz hE hR hS _ _ kk => ?_) (fun hh h => h.pop.pop.int) (kk _)
    have hat := hR.at h1
    rw [mk_e_int (j := 0) h2.1 (Or.inl rfl)] at hat
    exact va_iald hC.1 hC.2.1 hE.1 hR.1 a 0 hat (mk_tys_at ac (j := 0) (by omega)) h2.2 hd kk
theorem xo_bald {a : Nat} {i : Int32} {f : Int32 → Option (α × mk_S)} (hd : decode M.2.1 pc = .ok (.baload, 1)) (kk : ∀ x, mk_O w M (pc + 1) L (.int x :: S) t (f x)) : mk_O w M pc L (.int i :: .ref a :: S) t ((mk_ld 102 t a i).bind f) := by
  refine mk_O.bind fun x hx => ?_
  unfold mk_ld at hx
  by_cases hb : 2000000 ≤ a
  · rw [if_pos hb, if_neg (by omega)] at hx
    cases hx
  · rw [if_neg hb] at hx
    obtain ⟨K, h1, h2, h3⟩ := mk_if_spec hx
    cases h3
    refine mk_O.rd (fun p l e R s m args below meth c Q D ac g A H locs cells slots ls ad hC hsz hE hR hS _ _ kk => ?_) (fun hh h => h.pop.pop.int) (kk _)
    have hat := hR.at h1
    rw [mk_e_int (j := 2) h2.1 (Or.inr (Or.inl rfl))] at hat
    exact va_bald hC.1 hC.2.1 hE.1 hR.1 a 2 hat (mk_tys_at ac (j := 2) (by omega)) h2.2 hd kk
theorem xo_zald {a : Nat} {i : Int32} {f : Int32 → Option (α × mk_S)} (hd : decode M.2.1 pc = .ok (.baload, 1)) (kk : ∀ x, mk_O w M (pc + 1) L (.int x :: S) t (f x)) : mk_O w M pc L (.int i :: .ref a :: S) t ((mk_ld 103 t a i).bind f) := by
  refine mk_O.bind fun x hx => ?_
  unfold mk_ld at hx
  by_cases hb : 2000000 ≤ a
  · rw [if_pos hb, if_neg (by omega)] at hx
    cases hx
  · rw [if_neg hb] at hx
    obtain ⟨K, h1, h2, h3⟩ := mk_if_spec hx
    cases h3
    refine mk_O.rd (fun p l e R s m args below meth c Q D ac g A H locs cells slots ls ad hC hsz hE hR hS _ _ kk => ?_) (fun hh h => h.pop.pop.int) (kk _)
    have hat := hR.at h1
    rw [mk_e_int (j := 3) h2.1 (Or.inr (Or.inr rfl))] at hat
    exact va_zald hC.1 hC.2.1 hE.1 hR.1 a 3 hat (mk_tys_at ac (j := 3) (by omega)) h2.2 hd kk
theorem xo_lald {a : Nat} {i : Int32} {f : Int64 → Option (α × mk_S)} (hd : decode M.2.1 pc = .ok (.laload, 1)) (kk : ∀ x, mk_O w M (pc + 1) L (.long x :: S) t (f x)) : mk_O w M pc L (.int i :: .ref a :: S) t ((mk_ldl t a i).bind f) := by
  refine mk_O.bind fun x hx => ?_
  unfold mk_ldl at hx
  obtain ⟨K, h1, h2, h3⟩ := mk_if_spec hx
  cases h3
  refine mk_O.rd (fun p l e R s m args below meth c Q D ac g A H locs cells slots ls ad hC hsz hE hR hS _ _ kk => ?_) (fun hh h => h.pop.pop.long) (kk _)
  have hat := hR.at h1
  rw [mk_e_long h2.1] at hat
  exact va_lald hC.1 hC.2.1 hE.1 hR.1 a 1 hat (mk_tys_at ac (j := 1) (by omega)) h2.2 hd kk
theorem mk_upd_eq (f : Nat → Int32) (k : Nat) (x : Int32) : upd f k x = va_up f k x := rfl
theorem mk_updL_eq (f : Nat → Int64) (k : Nat) (x : Int64) : vp_updL f k x = va_up f k x := rfl
theorem mk_R.wi {D : va_G} {ac : Nat → Nat} {g : Nat → Nat → Int32} {ad : Nat → Nat} {A : Nat → Prop} {H H1 : Heap} {a j : Nat} {K : mk_K} {q : Nat → Int32} (hR : mk_R D ac g ad A t H) (hK : t.1[a]? = some K) (h : K.1 = 100 + j) (hj : j = 0 ∨ j = 2 ∨ j = 3) (hP : va_P D vwCl ((mk_ws ac ad t).set a (ad a, .inl (ac j, K.2.1, .inl q))) H1) (hD : va_D A ((mk_ws ac ad t).set a (ad a, .inl (ac j, K.2.1, .inl q)))) : mk_R D ac g ad A (t.1, va_up t.2.1 a q, t.2.2) H1 := by
  have e : mk_e ac ad (t.1, va_up t.2.1 a q, t.2.2) a K = .inl (ac j, K.2.1, .inl q) := by
    rw [mk_e_int h hj]
    simp [va_up_self]
  exact hR.set (a := a) (K1 := K) (mk_set_self hK) (fun i hi => ⟨va_up_ne _ _ hi, rfl⟩) (mk_lt_of hK) (hR.2.2.1 K (List.mem_of_getElem? hK)) (by rw [e]; exact hP) (by rw [e]; exact hD)
theorem xo_iast {a : Nat} {i x : Int32} {f : mk_S → Option (α × mk_S)} (hd : decode M.2.1 pc = .ok (.iastore, 1)) (kk : ∀ t1, mk_O w M (pc + 1) L S t1 (f t1)) : mk_O w M pc L (.int x :: .int i :: .ref a :: S) t ((mk_st 100 t a i x).bind f) := by
  refine mk_O.bind fun y hy => ?_
  unfold mk_st at hy
  obtain ⟨K, h1, h2, h3⟩ := mk_if_spec hy
  cases h3
  refine mk_O.wr (t1 := (t.1, mk_u2 t.2.1 a i.toNatClampNeg (mk_nar 100 x), t.2.2)) (fun p l e R s m args below meth c Q D ac g A H locs cells slots ls ad hC hsz hE hR hS hf _ _ kk => ?_) rfl rfl (fun n h => h.pop.pop.pop) (kk _)
  have hat := hR.at h1
  rw [mk_e_int (j := 0) h2.1 (Or.inl rfl)] at hat
  exact va_iast hC.1 hC.2.1 hE.1 hR.1 hR.2.1 hS a 0 hat (mk_tys_at ac (j := 0) (by omega)) h2.2 hd (fun H1 locs1 hP hD hS1 => kk H1 locs1 (hR.wi h1 (j := 0) h2.1 (Or.inl rfl) hP hD) hS1)
theorem xo_bast {a : Nat} {i x : Int32} {f : mk_S → Option (α × mk_S)} (hd : decode M.2.1 pc = .ok (.bastore, 1)) (kk : ∀ t1, mk_O w M (pc + 1) L S t1 (f t1)) : mk_O w M pc L (.int x :: .int i :: .ref a :: S) t ((mk_st 102 t a i x).bind f) := by
  refine mk_O.bind fun y hy => ?_
  unfold mk_st at hy
  obtain ⟨K, h1, h2, h3⟩ := mk_if_spec hy
  cases h3
  refine mk_O.wr (t1 := (t.1, mk_u2 t.2.1 a i.toNatClampNeg (mk_nar 102 x), t.2.2)) (fun p l e R s m args below meth c Q D ac g A H locs cells slots ls ad hC hsz hE hR hS hf _ _ kk => ?_) rfl rfl (fun n h => h.pop.pop.pop) (kk _)
  have hat := hR.at h1
  rw [mk_e_int (j := 2) h2.1 (Or.inr (Or.inl rfl))] at hat
  exact va_bast hC.1 hC.2.1 hE.1 hR.1 hR.2.1 hS a 2 hat (mk_tys_at ac (j := 2) (by omega)) h2.2 hd (fun H1 locs1 hP hD hS1 => kk H1 locs1 (hR.wi h1 (j := 2) h2.1 (Or.inr (Or.inl rfl)) hP hD) hS1)
theorem xo_zast {a : Nat} {i x : Int32} {f : mk_S → Option (α × mk_S)} (hd : decode M.2.1 pc = .ok (.bastore, 1)) (kk : ∀ t1, mk_O w M (pc + 1) L S t1 (f t1)) : mk_O w M pc L (.int x :: .int i :: .ref a :: S) t ((mk_st 103 t a i x).bind f) := by
  refine mk_O.bind fun y hy => ?_
  unfold mk_st at hy
  obtain ⟨K, h1, h2, h3⟩ := mk_if_spec hy
  cases h3
  refine mk_O.wr (t1 := (t.1, mk_u2 t.2.1 a i.toNatClampNeg (mk_nar 103 x), t.2.2)) (fun p l e R s m args below meth c Q D ac g A H locs cells slots ls ad hC hsz hE hR hS hf _ _ kk => ?_) rfl rfl (fun n h => h.pop.pop.pop) (kk _)
  have hat := hR.at h1
  rw [mk_e_int (j := 3) h2.1 (Or.inr (Or.inr rfl))] at hat
  exact va_zast hC.1 hC.2.1 hE.1 hR.1 hR.2.1 hS a 3 hat (mk_tys_at ac (j := 3) (by omega)) h2.2 hd (fun H1 locs1 hP hD hS1 => kk H1 locs1 (hR.wi h1 (j := 3) h2.1 (Or.inr (Or.inr rfl)) hP hD) hS1)
theorem xo_last {a : Nat} {i : Int32} {x : Int64} {f : mk_S → Option (α × mk_S)} (hd : decode M.2.1 pc = .ok (.lastore, 1)) (kk : ∀ t1, mk_O w M (pc + 1) L S t1 (f t1)) : mk_O w M pc L (.long x :: .int i :: .ref a :: S) t ((mk_stl t a i x).bind f) := by
  refine mk_O.bind fun y hy => ?_
  unfold mk_stl at hy
  obtain ⟨K, h1, h2, h3⟩ := mk_if_spec hy
  cases h3
  refine mk_O.wr (t1 := (t.1, t.2.1, mk_u2 t.2.2 a i.toNatClampNeg x)) (fun p l e R s m args below meth c Q D ac g A H locs cells slots ls ad hC hsz hE hR hS hf _ _ kk => ?_) rfl rfl (fun n h => h.pop.pop.pop) (kk _)
  have hat := hR.at h1
  rw [mk_e_long h2.1] at hat
  refine va_last hC.1 hC.2.1 hE.1 hR.1 hR.2.1 hS a 1 hat (mk_tys_at ac (j := 1) (by omega)) h2.2 hd (fun H1 locs1 hP hD hS1 => kk H1 locs1 ?_ hS1)
  have e : mk_e ac ad (t.1, t.2.1, mk_u2 t.2.2 a i.toNatClampNeg x) a K = .inl (ac 1, K.2.1, .inr (.inl (vp_updL (t.2.2 a) i.toNatClampNeg x))) := by
    rw [mk_e_long h2.1]
    simp [mk_u2_self, mk_updL_eq]
  exact hR.set (a := a) (K1 := K) (mk_set_self h1) (fun i hi => ⟨rfl, mk_u2_ne hi⟩) (mk_lt_of h1) (hR.2.2.1 K (List.mem_of_getElem? h1)) (by rw [e]; exact hP) (by rw [e]; exact hD)
theorem mk_getD_mem {l : List (Option Nat)} {k b : Nat} (h : l.getD k none = some b) : some b ∈ l := by
  rw [List.getD_eq_getElem?_getD] at h
  cases hz : l[k]? with
  | none => rw [hz] at h; cases h
  | some y =>
    rw [hz] at h
    cases h
    exact List.mem_of_getElem? hz
theorem xo_aald {a j : Nat} {i : Int32} {f : Nat → Option (α × mk_S)} (hj : 4 ≤ j) (hj2 : j < 8) (hd : decode M.2.1 pc = .ok (.aaload, 1)) (kk : ∀ x, mk_O w M (pc + 1) L (.ref x :: S) t (f x)) : mk_O w M pc L (.int i :: .ref a :: S) t ((mk_lda (100 + j) t a i).bind f) := by
  refine mk_O.bind fun x hx => ?_
  unfold mk_lda at hx
  obtain ⟨K, h1, h2, h3⟩ := mk_if_spec hx
  refine mk_O.rd (fun p l e R s m args below meth c Q D ac g A H locs cells slots ls ad hC hsz hE hR hS _ _ kk => ?_) (fun hh h => h.pop.pop.push (v := .ref x) (Or.inl (hh K (List.mem_of_getElem? h1) x (mk_getD_mem h3)))) (kk x)
  have hat := hR.at h1
  rw [mk_e_ref h2.1 hj] at hat
  have hlt : i.toNatClampNeg < K.2.1 := Nat.not_le.mp fun q => h2.2 (Or.inr q)
  have ht := mk_tys_at ac hj2
  have hk : W p l e R s m args below meth c H locs cells slots Q (F0 m (pc + 1) ls (va_rf ((K.2.2.getD i.toNatClampNeg none).map ad) :: S.map (mk_tr ad))) := by
    rw [h3]
    exact kk
  exact W.aald (v := va_rf ((K.2.2.getD i.toNatClampNeg none).map ad)) (ty := mk_aty j) hC.1 hC.2.1 (hR.1 a _ hat) ((hE.1.2 j _ ht).1 K.2.1 (fun q => va_rf ((K.2.2.getD q none).map ad))) (by rcases (show j = 4 ∨ j = 5 ∨ j = 6 ∨ j = 7 by omega) with q | q | q | q <;> subst q <;> rfl) (fun q => by cases q) (by show ¬ (i < 0 ∨ (arrV _ _ _).slots.size ≤ _); rw [arrV_size]; exact h2.2) (by show (arrV _ _ _).slots[_]? = _; rw [arrV_read _ _ hlt]) rfl rfl hd hk
theorem xo_alen {a : Nat} {f : Int32 → Option (α × mk_S)} (hd : decode M.2.1 pc = .ok (.arraylength, 1)) (kk : ∀ x, mk_O w M (pc + 1) L (.int x :: S) t (f x)) : mk_O w M pc L (.ref a :: S) t ((mk_len t a).bind f) := by
  refine mk_O.bind fun x hx => ?_
  unfold mk_len at hx
  by_cases hb : 2000000 ≤ a
  · rw [if_pos hb] at hx
    by_cases h1 : a ∈ mk_xs
    · rw [if_pos h1] at hx
      cases hx
      refine mk_O.rd (fun p l e R s m args below meth c Q D ac g A H locs cells slots ls ad hC hsz hE hR hS _ _ kk => ?_) (fun hh h => h.pop.int) (kk _)
      have hT := hE.2.2.2.1.1 a h1
      have eg := hR.2.2.2.2 a hb
      rw [eg] at kk
      exact va_tlen hC.1 hC.2.1 hT hS rfl hd kk
    · rw [if_neg h1] at hx; cases hx
  · rw [if_neg hb] at hx
    obtain ⟨K, h1, h2, h3⟩ := mk_if_spec hx
    cases h3
    refine mk_O.rd (fun p l e R s m args below meth c Q D ac g A H locs cells slots ls ad hC hsz hE hR hS _ _ kk => ?_) (fun hh h => h.pop.int) (kk _)
    have hat := hR.at h1
    obtain ⟨j, hj⟩ : ∃ j, K.1 = 100 + j := ⟨K.1 - 100, by omega⟩
    have hj8 : j < 8 := by omega
    have ht := mk_tys_at ac hj8
    rcases (show j = 1 ∨ (j = 0 ∨ j = 2 ∨ j = 3) ∨ 4 ≤ j by omega) with q | q | q
    · subst q
      rw [mk_e_long hj] at hat
      exact va_alen hC.1 hC.2.1 hE.1 hR.1 a 1 hat ht rfl hd kk
    · rw [mk_e_int hj q] at hat
      exact va_alen hC.1 hC.2.1 hE.1 hR.1 a j hat ht rfl hd kk
    · rw [mk_e_ref hj q] at hat
      exact va_alen hC.1 hC.2.1 hE.1 hR.1 a j hat ht rfl hd kk
/-- what the library's own calls need of the tables -/
def mk_LMin (own : String) (index : Nat) : Prop := Cond.methodLink own index Lib.Math.min.name ∈ lw_gw ∧ Cond.static Lib.Math.min.name ∈ lw_gw ∧ Cond.initialized "java/lang/Math" ∈ lw_gw ∧ Cond.code Lib.Math.min.name Lib.Math.min.code 2 (some .int) ∈ lw_gw
def mk_LMax (own : String) (index : Nat) : Prop := Cond.methodLink own index Lib.Math.max.name ∈ lw_gw ∧ Cond.static Lib.Math.max.name ∈ lw_gw ∧ Cond.initialized "java/lang/Math" ∈ lw_gw ∧ Cond.code Lib.Math.max.name Lib.Math.max.code 2 (some .int) ∈ lw_gw
def mk_LCpy (own : String) (index : Nat) : Prop := Cond.methodLink own index arraycopyName ∈ lw_gw ∧ Cond.native arraycopyName ∈ lw_gw ∧ Cond.static arraycopyName ∈ lw_gw ∧ Cond.initialized "java/lang/System" ∈ lw_gw
theorem xo_min {index : Nat} {x y : Int32} (hl : mk_LMin M.1.cls index) (hfr : 1 ≤ M.2.2.2.2.1) (hlo : (S.map fun v => v.category).sum + 13 ≤ M.2.2.2.2.2) (hd : decode M.2.1 pc = .ok (.invokestatic index, 3)) (kk : mk_O w M (pc + 3) L (.int (if y < x then y else x) :: S) t o) : mk_O w M pc L (.int y :: .int x :: S) t o := by
  obtain ⟨h1, h2, h3, h4⟩ := hl
  refine mk_O.rd (fun p l e R s m args below meth c Q D ac g A H locs cells slots ls ad hC hsz hE hR hS hc1 hc2 kk => ?_) (fun hh h => h.pop.pop.int) kk
  refine va_mmin hC.1 hC.2.1 (hC.2.2.1.trans hsz.symm) hC.2.2.2.1 (hC.2.2.2.2.1 _ h1) (hC.2.2.2.2.1 _ h2) (hC.2.2.2.2.1 _ h3) (hC.2.2.2.2.1 _ h4) (Nat.le_trans hfr hC.2.2.2.2.2.2.1) ?_ hc1 hc2 hd kk
  rw [mk_cat_map]
  exact Nat.le_trans hlo hC.2.2.2.2.2.2.2
theorem xo_max {index : Nat} {x y : Int32} (hl : mk_LMax M.1.cls index) (hfr : 1 ≤ M.2.2.2.2.1) (hlo : (S.map fun v => v.category).sum + 13 ≤ M.2.2.2.2.2) (hd : decode M.2.1 pc = .ok (.invokestatic index, 3)) (kk : mk_O w M (pc + 3) L (.int (if x < y then y else x) :: S) t o) : mk_O w M pc L (.int y :: .int x :: S) t o := by
  obtain ⟨h1, h2, h3, h4⟩ := hl
  refine mk_O.rd (fun p l e R s m args below meth c Q D ac g A H locs cells slots ls ad hC hsz hE hR hS hc1 hc2 kk => ?_) (fun hh h => h.pop.pop.int) kk
  refine va_mmax hC.1 hC.2.1 (hC.2.2.1.trans hsz.symm) hC.2.2.2.1 (hC.2.2.2.2.1 _ h1) (hC.2.2.2.2.1 _ h2) (hC.2.2.2.2.1 _ h3) (hC.2.2.2.2.1 _ h4) (Nat.le_trans hfr hC.2.2.2.2.2.2.1) ?_ hc1 hc2 hd kk
  rw [mk_cat_map]
  exact Nat.le_trans hlo hC.2.2.2.2.2.2.2
theorem mk_cp_spec {a b : Nat} {sp dp n : Int32} (h : mk_cp t a sp b dp n = some t1) : ∃ K J, t.1[a]? = some K ∧ t.1[b]? = some J ∧ (K.1 = 100 ∧ J.1 = 100 ∧ ¬ sp < 0 ∧ ¬ dp < 0 ∧ ¬ n < 0 ∧ sp.toNatClampNeg + n.toNatClampNeg ≤ K.2.1 ∧ dp.toNatClampNeg + n.toNatClampNeg ≤ J.2.1) ∧ t1 = (t.1, va_up t.2.1 b (va_cpy (t.2.1 a) (t.2.1 b) sp.toNatClampNeg dp.toNatClampNeg n.toNatClampNeg), t.2.2) := by
  unfold mk_cp at h
  cases hK : t.1[a]? with
  | none => rw [hK] at h; cases h
  | some K =>
    cases hJ : t.1[b]? with
    | none => rw [hK, hJ] at h; cases h
    | some J =>
      rw [hK, hJ] at h
      simp only at h
      by_cases hc : K.1 = 100 ∧ J.1 = 100 ∧ ¬ sp < 0 ∧ ¬ dp < 0 ∧ ¬ n < 0 ∧ sp.toNatClampNeg + n.toNatClampNeg ≤ K.2.1 ∧ dp.toNatClampNeg + n.toNatClampNeg ≤ J.2.1
      · rw [if_pos hc] at h
        exact ⟨K, J, rfl, rfl, hc, (Option.some.inj h).symm⟩
      · rw [if_neg hc] at h; cases h
theorem xo_cpy {index a b : Nat} {sp dp n : Int32} {f : mk_S → Option (α × mk_S)} (hl : mk_LCpy M.1.cls index) (hfr : 1 ≤ M.2.2.2.2.1) (hlo : (S.map fun v => v.category).sum + 18 ≤ M.2.2.2.2.2) (hd : decode M.2.1 pc = .ok (.invokestatic index, 3)) (kk : ∀ t1, mk_O w M (pc + 3) L S t1 (f t1)) : mk_O w M pc L (.int n :: .int dp :: .ref b :: .int sp :: .ref a :: S) t ((mk_cp t a sp b dp n).bind f) := by
  refine mk_O.bind fun y hy => ?_
  obtain ⟨K, J, hK, hJ, ⟨c1, c2, c3, c4, c5, c6, c7⟩, e⟩ := mk_cp_spec hy
  subst e
  obtain ⟨h1, h2, h3, h4⟩ := hl
  refine mk_O.wr (t1 := (t.1, va_up t.2.1 b (va_cpy (t.2.1 a) (t.2.1 b) sp.toNatClampNeg dp.toNatClampNeg n.toNatClampNeg), t.2.2)) (fun p l e R s m args below meth c Q D ac g A H locs cells slots ls ad hC hsz hE hR hS hf _ _ kk => ?_) rfl rfl (fun n h => h.pop.pop.pop.pop.pop) (kk _)
  have hatA := hR.at hK
  rw [mk_e_int (j := 0) c1 (Or.inl rfl)] at hatA
  have hatB := hR.at hJ
  rw [mk_e_int (j := 0) c2 (Or.inl rfl)] at hatB
  have ht := mk_tys_at ac (j := 0) (by omega)
  refine va_copyi hC.1 hC.2.1 (hC.2.2.1.trans hsz.symm) hC.2.2.2.1 (hC.2.2.2.2.1 _ h1) (hC.2.2.2.2.1 _ h2) (hC.2.2.2.2.1 _ h3) (hC.2.2.2.2.1 _ h4) hE.1 hR.1 hR.2.1 hS a b 0 0 hatA hatB ht ht rfl c3 c4 c5 c6 c7 (fun _ _ => rfl) (Nat.le_trans hfr hC.2.2.2.2.2.2.1) ?_ hd (fun H1 locs1 hP hD hS1 => kk H1 locs1 (hR.wi hJ (j := 0) c2 (Or.inl rfl) hP hD) hS1)
  rw [mk_cat_map]
  exact Nat.le_trans hlo hC.2.2.2.2.2.2.2
end MKA
