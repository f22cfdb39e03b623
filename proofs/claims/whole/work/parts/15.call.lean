/-- the cells that a method may change: those of its state, and new ones -/
def mk_A (ad : Nat → Nat) (n sz : Nat) : Nat → Prop := fun q => (∃ i, i < n ∧ ad i = q) ∨ sz ≤ q
def mk_rm (M : mk_M) (t : mk_S) (r : mk_Z) : Room := { frames := M.2.2.2.2.1, cells := mk_cn r.2 - mk_cn t, slots := mk_sn r.2 - mk_sn t, locals := M.2.2.2.2.2 }
def mk_wM (M : mk_M) : List Cond := Cond.code M.1 M.2.1 M.2.2.1 M.2.2.2.1 :: lw_gw
def mk_Pc (D : va_G) (ac : Nat → Nat) (g : Nat → Nat → Int32) (ad : Nat → Nat) (sz : Nat) (As : List Value) (t : mk_S) : Array Value → State → Prop := fun v U => v = (As.map (mk_tr ad)).toArray ∧ U.heap.size = sz ∧ mk_E D ac g ad (mk_A ad t.1.length sz) U ∧ mk_R D ac g ad (fun _ => True) t U.heap ∧ ∀ v ∈ As, mk_wv t.1.length v
def mk_Qc (D : va_G) (ac : Nat → Nat) (g : Nat → Nat → Int32) (ad : Nat → Nat) (sz : Nat) (t : mk_S) (r : mk_Z) : Array Value → State → Outcome → State → Prop := fun _ st o u => ∃ ad1, mk_same ad ad1 t.1.length ∧ o = .returned (r.1.map (mk_tr ad1)) ∧ mk_R D ac g ad1 (mk_A ad t.1.length sz) r.2 u.heap ∧ mk_wr r ∧ va_F (mk_A ad t.1.length sz) st u
/-- a method's contract: called so in the state t it answers r.1 and leaves r.2 -/
def mk_Ct (M : mk_M) (As : List Value) (t : mk_S) (r : mk_Z) : Prop := mk_gr t r ∧ ∀ (l : Launch) (D : va_G) (ac : Nat → Nat) (g : Nat → Nat → Int32) (ad : Nat → Nat) (sz : Nat), Met l M.1 (mk_wM M) (mk_rm M t r) (mk_Pc D ac g ad sz As t) (mk_Qc D ac g ad sz t r) (mk_cn r.2 - mk_cn t) (mk_sn r.2 - mk_sn t) (mk_A ad t.1.length sz)
theorem mk_R.wk {D : va_G} {ac : Nat → Nat} {g : Nat → Nat → Int32} {ad : Nat → Nat} {A B : Nat → Prop} {t : mk_S} {H : Heap} (h : mk_R D ac g ad A t H) (hB : ∀ i, i < t.1.length → A (ad i) → B (ad i)) : mk_R D ac g ad B t H := by
  obtain ⟨h1, h2, h3⟩ := h
  refine ⟨h1, h2.weaken (fun k q hq ha => ?_), h3⟩
  rw [mk_ws_at] at hq
  cases hk : t.1[k]? with
  | none => rw [hk] at hq; cases hq
  | some K =>
    rw [hk] at hq
    cases hq
    exact hB k (mk_lt_of hk) ha
def mk_en (As : List Value) (n : Nat) : List (Option Value) := (List.range n).map (fun i => (lv_args 0 As).lookup i)
theorem mk_lookup_mem {l : List (Nat × Value)} {i : Nat} {v : Value} (h : l.lookup i = some v) : (i, v) ∈ l := by
  induction l with
  | nil => cases h
  | cons q l ih =>
    obtain ⟨j, u⟩ := q
    rw [List.lookup_cons] at h
    by_cases e : i = j
    · subst e
      simp at h
      subst h
      exact List.mem_cons_self
    · have : (i == j) = false := by simp [e]
      rw [this] at h
      exact List.mem_cons_of_mem _ (ih h)
theorem mk_args_map (ad : Nat → Nat) : ∀ (As : List Value) (k : Nat), lv_args k (As.map (mk_tr ad)) = (lv_args k As).map (fun q => (q.1, mk_tr ad q.2))
  | [], _ => rfl
  | v :: vs, k => by
    simp only [List.map_cons, lv_args, mk_tr_cat]
    rw [mk_args_map ad vs]
theorem mk_args_len (ad : Nat → Nat) (As : List Value) : (lg_sl (As.map (mk_tr ad))).length = (lg_sl As).length := by
  induction As with
  | nil => rfl
  | cons v vs ih =>
    simp only [lg_sl, List.map_cons, List.flatMap_cons, List.length_append, mk_tr_cat] at ih ⊢
    rw [ih]
    by_cases h : v.category = 2 <;> simp [h]
theorem mk_en_L {ad : Nat → Nat} {As : List Value} {n : Nat} {ls : Array Slot} (h : lv_has ls n (lv_args 0 (As.map (mk_tr ad)))) : mk_L ls n ad (mk_en As n) := by
  refine ⟨h.1, h.2.1, fun i v hi => ?_⟩
  have h1 : (lv_args 0 As).lookup i = some v := by
    unfold mk_en at hi
    rw [List.getElem?_map] at hi
    by_cases hn : i < n
    · rw [List.getElem?_range hn] at hi
      exact Option.some.inj hi
    · rw [List.getElem?_eq_none (by simp; omega)] at hi
      cases hi
  have h2 := mk_lookup_mem h1
  refine h.2.2 (i, mk_tr ad v) ?_
  rw [mk_args_map]
  exact List.mem_map.mpr ⟨(i, v), h2, rfl⟩
theorem mk_en_wf {As : List Value} {n k : Nat} (h : ∀ v ∈ As, mk_wv k v) : mk_wf k (mk_en As n) [] := by
  refine ⟨fun v hv => ?_, fun v hv => by cases hv⟩
  unfold mk_en at hv
  obtain ⟨i, -, hi⟩ := List.mem_map.mp hv
  have h2 := mk_lookup_mem hi
  have key : ∀ (As : List Value) (j : Nat) (q : Nat × Value), q ∈ lv_args j As → q.2 ∈ As := by
    intro As
    induction As with
    | nil => intro j q hq; cases hq
    | cons u us ih =>
      intro j q hq
      rcases List.mem_cons.mp hq with e | e
      · subst e; exact List.mem_cons_self
      · exact List.mem_cons_of_mem _ (ih _ q e)
  exact h v (key As 0 _ h2)
/-- a walk of the body gives the contract -/
theorem mk_ct {α : Type} {w : α → Option Value} {M : mk_M} {As : List Value} {t : mk_S} {o : Option (α × mk_S)} (hpl : plainName M.1.cls = true) (hlen : (lg_sl As).length ≤ M.2.2.1) (k : mk_O w M 0 (mk_en As M.2.2.1) [] t o) (z : α × mk_S) (hz : o = some z) : mk_Ct M As t (w z.1, z.2) := by
  obtain ⟨hg, hX⟩ := k z hz
  refine ⟨hg, fun l D ac g ad sz => ?_⟩
  generalize hr : ((w z.1, z.2) : mk_Z) = r at hg hX ⊢
  refine Met.ofW (cc := M.2.1) (maxL := M.2.2.1) (ret := M.2.2.2.1) hpl rfl ?_
  intro p e s m args below meth c s₁ B hml hv
  obtain ⟨rfl, hsz, hE, hR, hw⟩ := hv
  subst hsz
  have hts := atoms_spec (ws := mk_wM M) B.pre
  have hlocks := B.notSynchronized
  have hx := B.exec
  have hb := B.bytes
  have hrt := B.returns
  have hC : mk_C M (headSpec (mk_wM M) (mk_rm M t r)).room p s m (As.map (mk_tr ad)).toArray meth c := ⟨hx, hb, hml, findClass_of_methodNamed B.named, fun w hw => hts w (List.mem_cons_of_mem _ hw), fun hi => (name_of_methodNamed B.named B.method).1.trans hi, Nat.le_refl _, Nat.le_refl _⟩
  have hl := lv_entry (As.map (mk_tr ad)) (n := M.2.2.1) (by rw [mk_args_len]; exact hlen)
  rw [lg_entry_eq]
  generalize (lg_sl (As.map (mk_tr ad)) ++ List.replicate (M.2.2.1 - (lg_sl (As.map (mk_tr ad))).length) Slot.unset).toArray = ls at hl ⊢
  have hgo := hX p l e (headSpec (mk_wM M) (mk_rm M t r)).room s m (As.map (mk_tr ad)).toArray below meth c (MQ below (mk_Qc D ac g ad s.heap.size t r) (As.map (mk_tr ad)).toArray s (mk_cn r.2 - mk_cn t) (mk_sn r.2 - mk_sn t) (mk_A ad t.1.length s.heap.size)) D ac g (mk_A ad t.1.length s.heap.size) (mk_cn t) (mk_sn t) s.heap [] ls ad hC
    ⟨Nat.le_refl _, Nat.le_refl _, by show mk_cn r.2 ≤ (mk_cn r.2 - mk_cn t) + mk_cn t; have := hg.1; omega, by show mk_sn r.2 ≤ (mk_sn r.2 - mk_sn t) + mk_sn t; have := hg.2; omega⟩ hE (hR.wk (fun i hi _ => Or.inl ⟨i, hi, rfl⟩)) va_S.rf (mk_en_L hl) (mk_en_wf hw) ?_
  · rw [Nat.sub_self, Nat.sub_self] at hgo
    exact hgo
  · intro H1 locs1 ls1 ad1 pc1 hs1 hR1 hS1 hw1 hr1
    have hq : ∀ u : State, u.heap = H1 → s.WarmedH u.vm → mk_Qc D ac g ad s.heap.size t r (As.map (mk_tr ad)).toArray s (.returned (r.1.map (mk_tr ad1))) u := fun u hu _ => ⟨ad1, hs1, rfl, by rw [hu]; exact hR1, hw1, hS1.F hu⟩
    obtain ⟨v, t2⟩ := r
    cases v with
    | none => exact W.vret hx hb (hrt.trans hr1.2) hq hS1.2.2 hr1.1
    | some v =>
      cases v with
      | int x =>
        obtain ⟨ty, q, q2⟩ := hr1.2
        exact W.zret hx hb (hrt.trans q) q2 hq hS1.2.2 hr1.1
      | long x => exact W.lret hx hb (hrt.trans hr1.2) hq hS1.2.2 hr1.1
      | ref a =>
        obtain ⟨n, hn⟩ := hr1.2
        exact W.aret (v := .ref (ad1 a)) hx hb (hrt.trans hn) (Or.inl ⟨n, rfl⟩) (Or.inr ⟨_, rfl⟩) hq hS1.2.2 hr1.1
      | null =>
        obtain ⟨n, hn⟩ := hr1.2
        exact W.aret (v := .null) hx hb (hrt.trans hn) (Or.inl ⟨n, rfl⟩) (Or.inl rfl) hq hS1.2.2 hr1.1
      | float _ => exact hr1.elim
      | double _ => exact hr1.elim
      | retAddr _ => exact hr1.elim
