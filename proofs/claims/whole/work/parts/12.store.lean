abbrev mk_wi (x : Int32) : Option Value := some (.int x)
abbrev mk_wl (x : Int64) : Option Value := some (.long x)
abbrev mk_wn (x : Nat) : Option Value := some (.ref x)
abbrev mk_wq (x : Option Nat) : Option Value := some (va_rf x)
abbrev mk_wu (_ : Unit) : Option Value := none
def mk_as (ad : Nat → Nat) (L : List (Option Value)) : List (Nat × Value) := L.zipIdx.filterMap (fun q => q.1.map (fun v => (q.2, mk_tr ad v)))
theorem mk_as_mem {ad : Nat → Nat} {L : List (Option Value)} {q : Nat × Value} : q ∈ mk_as ad L ↔ ∃ v, L[q.1]? = some (some v) ∧ q.2 = mk_tr ad v := by
  unfold mk_as
  rw [List.mem_filterMap]
  constructor
  · rintro ⟨⟨o, i⟩, h1, h2⟩
    rw [List.mem_zipIdx_iff_getElem?] at h1
    cases o with
    | none => cases h2
    | some v =>
      cases h2
      exact ⟨v, h1, rfl⟩
  · rintro ⟨v, h1, h2⟩
    refine ⟨(some v, q.1), List.mem_zipIdx_iff_getElem?.mpr h1, ?_⟩
    obtain ⟨a, b⟩ := q
    simp only [Option.map_some, Option.some.injEq, Prod.mk.injEq, true_and]
    exact h2.symm
theorem mk_L.has {ls : Array Slot} {nL : Nat} {ad : Nat → Nat} {L : List (Option Value)} (h : mk_L ls nL ad L) : lv_has ls nL (mk_as ad L) := by
  refine ⟨h.1, h.2.1, fun q hq => ?_⟩
  obtain ⟨v, h1, h2⟩ := mk_as_mem.mp hq
  rw [h2]
  exact h.2.2 _ _ h1
/-- no long's second half is at i -/
def mk_p1 (L : List (Option Value)) (i : Nat) : Prop := ∀ (j : Nat) (u : Value), i = j + 1 → L[j]? = some (some u) → u.category = 1
theorem mk_p1_0 {L : List (Option Value)} : mk_p1 L 0 := fun j u h _ => by omega
theorem mk_p1_v {L : List (Option Value)} {j : Nat} {v : Value} (h : L[j]? = some (some v)) (hc : v.category = 1) : mk_p1 L (j + 1) := fun i u hi hu => by
  have e : i = j := by omega
  subst e
  cases h.symm.trans hu
  exact hc
theorem mk_p1_n {L : List (Option Value)} {j : Nat} (h : L[j]? = some none) : mk_p1 L (j + 1) := fun i u hi hu => by
  have e : i = j := by omega
  subst e
  cases h.symm.trans hu
theorem mk_rf_cat (r : Option Nat) : (va_rf r).category = 1 := by cases r <;> rfl
theorem mk_rf_tr (ad : Nat → Nat) (r : Option Nat) : mk_tr ad (va_rf r) = va_rf (r.map ad) := by cases r <;> rfl
theorem mk_L.set1 {ls : Array Slot} {nL i : Nat} {ad : Nat → Nat} {L : List (Option Value)} {v : Value} (h : lv_has ls nL ((i, mk_tr ad v) :: (mk_as ad L).filter (fun q => !(q.1 == i) && !(q.1 + 1 == i && q.2.category == 2)))) (hp : mk_p1 L i) : mk_L ls nL ad (L.set i (some v)) := by
  refine ⟨h.1, h.2.1, fun j u hj => ?_⟩
  by_cases e : i = j
  · subst e
    rw [List.getElem?_set] at hj
    by_cases hl : i < L.length
    · simp only [if_pos hl, if_true] at hj
      cases hj
      exact h.2.2 _ List.mem_cons_self
    · simp [hl] at hj
  · rw [List.getElem?_set_ne e] at hj
    refine h.2.2 (j, mk_tr ad u) (List.mem_cons_of_mem _ (List.mem_filter.mpr ⟨mk_as_mem.mpr ⟨u, hj, rfl⟩, ?_⟩))
    by_cases e2 : i = j + 1
    · have := hp j u e2 hj
      simp [mk_tr_cat, this, Ne.symm e]
    · have e3 : ¬ j + 1 = i := fun q => e2 q.symm
      simp [e3, Ne.symm e]
theorem mk_L.set2 {ls : Array Slot} {nL i : Nat} {ad : Nat → Nat} {L : List (Option Value)} {v : Value} (h : lv_has ls nL ((i, mk_tr ad v) :: (mk_as ad L).filter (fun q => !(q.1 == i) && (!(q.1 == i + 1) && !(q.1 + 1 == i && q.2.category == 2))))) (hp : mk_p1 L i) : mk_L ls nL ad ((L.set i (some v)).set (i + 1) none) := by
  refine ⟨h.1, h.2.1, fun j u hj => ?_⟩
  by_cases e0 : i + 1 = j
  · subst e0
    rw [List.getElem?_set] at hj
    by_cases hl : i + 1 < (L.set i (some v)).length
    · simp only [if_pos hl, if_true] at hj
      cases hj
    · simp only [if_neg hl, if_true] at hj
      cases hj
  rw [List.getElem?_set_ne e0] at hj
  by_cases e : i = j
  · subst e
    rw [List.getElem?_set] at hj
    by_cases hl : i < L.length
    · simp only [if_pos hl, if_true] at hj
      cases hj
      exact h.2.2 _ List.mem_cons_self
    · simp [hl] at hj
  · rw [List.getElem?_set_ne e] at hj
    refine h.2.2 (j, mk_tr ad u) (List.mem_cons_of_mem _ (List.mem_filter.mpr ⟨mk_as_mem.mpr ⟨u, hj, rfl⟩, ?_⟩))
    by_cases e2 : i = j + 1
    · have := hp j u e2 hj
      simp [mk_tr_cat, this, Ne.symm e, Ne.symm e0]
    · have e3 : ¬ j + 1 = i := fun q => e2 q.symm
      simp [e3, Ne.symm e, Ne.symm e0]
theorem mk_set_mem {L : List (Option Value)} {i : Nat} {x : Option Value} {v : Value} (h : some v ∈ L.set i x) : some v ∈ L ∨ x = some v := by
  rcases List.mem_or_eq_of_mem_set h with q | q
  · exact Or.inl q
  · exact Or.inr q.symm
theorem mk_wf.store {n i : Nat} {L : List (Option Value)} {S : List Value} {v : Value} (h : mk_wf n L (v :: S)) : mk_wf n (L.set i (some v)) S := by
  refine ⟨fun u hu => ?_, h.pop.2⟩
  rcases mk_set_mem hu with q | q
  · exact h.1 u q
  · cases q
    exact h.top
theorem mk_wf.unset {n i : Nat} {L : List (Option Value)} {S : List Value} (h : mk_wf n L S) : mk_wf n (L.set i none) S := by
  refine ⟨fun u hu => ?_, h.2⟩
  rcases mk_set_mem hu with q | q
  · exact h.1 u q
  · cases q
section MKT
variable {α : Type} {w : α → Option Value} {M : mk_M} {pc pc1 : Nat} {L L1 : List (Option Value)} {S S1 : List Value} {t : mk_S} {o : Option (α × mk_S)}
theorem mk_O.sto (h : ∀ (p : Program) (l : Launch) (e : Env) (R : Room) (s : State) (m : MethodId) (args : Array Value) (below : List Frame) (meth : Method) (c : Code) (Q : State → Prop) (H : Heap) (locs : List Loc) (cells slots : Nat) (ls : Array Slot) (ad : Nat → Nat), mk_C M R p s m args meth c → mk_L ls M.2.2.1 ad L → (∀ ls1, mk_L ls1 M.2.2.1 ad L1 → W p l e R s m args below meth c H locs cells slots Q (F0 m pc1 ls1 (S1.map (mk_tr ad)))) → W p l e R s m args below meth c H locs cells slots Q (F0 m pc ls (S.map (mk_tr ad))))
    (hw : ∀ n, mk_wf n L S → mk_wf n L1 S1) (k : mk_O w M pc1 L1 S1 t o) : mk_O w M pc L S t o := by
  intro z hz
  obtain ⟨k1, k2⟩ := k z hz
  refine ⟨k1, ?_⟩
  intro p l e R s m args below meth c Q D ac g A c0 s0 H locs ls ad hC hB hE hR hS hL hf hq
  exact h p l e R s m args below meth c Q H locs _ _ ls ad hC hL (fun ls1 hL1 => k2 p l e R s m args below meth c Q D ac g A c0 s0 H locs ls1 ad hC hB hE hR hS hL1 (hw _ hf) hq)
theorem xo_istore_n {j : Fin 4} {i : Nat} {x : Int32} (hi : (j : Nat) = i) (hn : i < M.2.2.1) (hp : mk_p1 L i) (hd : decode M.2.1 pc = .ok (.istore_n j, 1)) (k : mk_O w M (pc + 1) (L.set i (some (.int x))) S t o) : mk_O w M pc L (.int x :: S) t o :=
  mk_O.sto (fun p l e R s m args below meth c Q H locs cells slots ls ad hC hL kk => lv_istore_n hC.1 hC.2.1 hd hi hL.has hn rfl (fun ls1 h1 => kk ls1 (mk_L.set1 (v := .int x) h1 hp))) (fun n h => h.store) k
theorem xo_istore {i : Nat} {x : Int32} (hn : i < M.2.2.1) (hp : mk_p1 L i) (hd : decode M.2.1 pc = .ok (.istore i, 2)) (k : mk_O w M (pc + 2) (L.set i (some (.int x))) S t o) : mk_O w M pc L (.int x :: S) t o :=
  mk_O.sto (fun p l e R s m args below meth c Q H locs cells slots ls ad hC hL kk => lv_istore hC.1 hC.2.1 hd hL.has hn rfl (fun ls1 h1 => kk ls1 (mk_L.set1 (v := .int x) h1 hp))) (fun n h => h.store) k
theorem xo_lstore_n {j : Fin 4} {i : Nat} {x : Int64} (hi : (j : Nat) = i) (hn : i + 1 < M.2.2.1) (hp : mk_p1 L i) (hd : decode M.2.1 pc = .ok (.lstore_n j, 1)) (k : mk_O w M (pc + 1) ((L.set i (some (.long x))).set (i + 1) none) S t o) : mk_O w M pc L (.long x :: S) t o :=
  mk_O.sto (fun p l e R s m args below meth c Q H locs cells slots ls ad hC hL kk => lv_lstore_n hC.1 hC.2.1 hd hi hL.has hn rfl (fun ls1 h1 => kk ls1 (mk_L.set2 (v := .long x) h1 hp))) (fun n h => h.store.unset) k
theorem xo_lstore {i : Nat} {x : Int64} (hn : i + 1 < M.2.2.1) (hp : mk_p1 L i) (hd : decode M.2.1 pc = .ok (.lstore i, 2)) (k : mk_O w M (pc + 2) ((L.set i (some (.long x))).set (i + 1) none) S t o) : mk_O w M pc L (.long x :: S) t o :=
  mk_O.sto (fun p l e R s m args below meth c Q H locs cells slots ls ad hC hL kk => lv_lstore hC.1 hC.2.1 hd hL.has hn rfl (fun ls1 h1 => kk ls1 (mk_L.set2 (v := .long x) h1 hp))) (fun n h => h.store.unset) k
theorem xo_astore_n {j : Fin 4} {i a : Nat} (hi : (j : Nat) = i) (hn : i < M.2.2.1) (hp : mk_p1 L i) (hd : decode M.2.1 pc = .ok (.astore_n j, 1)) (k : mk_O w M (pc + 1) (L.set i (some (.ref a))) S t o) : mk_O w M pc L (.ref a :: S) t o :=
  mk_O.sto (fun p l e R s m args below meth c Q H locs cells slots ls ad hC hL kk => lv_astore_n hC.1 hC.2.1 hd hi hL.has hn rfl (fun ls1 h1 => kk ls1 (mk_L.set1 (v := .ref a) h1 hp))) (fun n h => h.store) k
theorem xo_astore {i a : Nat} (hn : i < M.2.2.1) (hp : mk_p1 L i) (hd : decode M.2.1 pc = .ok (.astore i, 2)) (k : mk_O w M (pc + 2) (L.set i (some (.ref a))) S t o) : mk_O w M pc L (.ref a :: S) t o :=
  mk_O.sto (fun p l e R s m args below meth c Q H locs cells slots ls ad hC hL kk => lv_astore hC.1 hC.2.1 hd hL.has hn rfl (fun ls1 h1 => kk ls1 (mk_L.set1 (v := .ref a) h1 hp))) (fun n h => h.store) k
/-- a reference that may be null -/
theorem xo_astore_nq {j : Fin 4} {i : Nat} {r : Option Nat} (hi : (j : Nat) = i) (hn : i < M.2.2.1) (hp : mk_p1 L i) (hd : decode M.2.1 pc = .ok (.astore_n j, 1)) (k : mk_O w M (pc + 1) (L.set i (some (va_rf r))) S t o) : mk_O w M pc L (va_rf r :: S) t o := by
  cases r with
  | some a => exact xo_astore_n hi hn hp hd k
  | none => exact mk_O.sto (fun p l e R s m args below meth c Q H locs cells slots ls ad hC hL kk => lv_astore_nN hC.1 hC.2.1 hd hi hL.has hn rfl (fun ls1 h1 => kk ls1 (mk_L.set1 (v := .null) h1 hp))) (fun n h => h.store) k
theorem xo_astoreq {i : Nat} {r : Option Nat} (hn : i < M.2.2.1) (hp : mk_p1 L i) (hd : decode M.2.1 pc = .ok (.astore i, 2)) (k : mk_O w M (pc + 2) (L.set i (some (va_rf r))) S t o) : mk_O w M pc L (va_rf r :: S) t o := by
  cases r with
  | some a => exact xo_astore hn hp hd k
  | none => exact mk_O.sto (fun p l e R s m args below meth c Q H locs cells slots ls ad hC hL kk => lv_astoreN hC.1 hC.2.1 hd hL.has hn rfl (fun ls1 h1 => kk ls1 (mk_L.set1 (v := .null) h1 hp))) (fun n h => h.store) k
theorem xo_aload_nq {j : Fin 4} {i : Nat} {r : Option Nat} (hi : (j : Nat) = i) (hl : L[i]? = some (some (va_rf r))) (hd : decode M.2.1 pc = .ok (.aload_n j, 1)) (k : mk_O w M (pc + 1) L (va_rf r :: S) t o) : mk_O w M pc L S t o := by
  cases r with
  | some a => exact xo_aload_n hi hl hd k
  | none => exact mk_O.stp (fun p l e R s m args below meth c Q H locs cells slots ls ad hC hL kk => lv_aload_nN hC.1 hC.2.1 hd hi (hL.at hl) kk) (fun n h => h.null) k
theorem xo_aloadq {i : Nat} {r : Option Nat} (hl : L[i]? = some (some (va_rf r))) (hd : decode M.2.1 pc = .ok (.aload i, 2)) (k : mk_O w M (pc + 2) L (va_rf r :: S) t o) : mk_O w M pc L S t o := by
  cases r with
  | some a => exact xo_aload hl hd k
  | none => exact mk_O.stp (fun p l e R s m args below meth c Q H locs cells slots ls ad hC hL kk => lv_aloadN hC.1 hC.2.1 hd (hL.at hl) kk) (fun n h => h.null) k
/-- a test for null: what follows is told by the reference -/
def mk_nn {β : Type} (r : Option Nat) (f : Nat → Option β) (o : Option β) : Option β := match r with
  | some a => f a
  | none => o
theorem xo_ifnonnull {r : Option Nat} {off : Int} {tgt : Nat} {f : Nat → Option (α × mk_S)} (hd : decode M.2.1 pc = .ok (.ifnonnull off, 3)) (ht : (pc : Int) + off = (tgt : Int)) (k1 : ∀ a, r = some a → mk_O w M tgt L S t (f a)) (k2 : r = none → mk_O w M (pc + 3) L S t o) : mk_O w M pc L (va_rf r :: S) t (mk_nn r f o) := by
  cases r with
  | some a => exact mk_O.stp (fun p l e R s m args below meth c Q H locs cells slots ls ad hC hL kk => lv_ifnonnull hC.1 hC.2.1 hd ht kk) (fun n h => h.pop) (k1 a rfl)
  | none => exact mk_O.stp (fun p l e R s m args below meth c Q H locs cells slots ls ad hC hL kk => lv_ifnonnullN hC.1 hC.2.1 hd kk) (fun n h => h.pop) (k2 rfl)
theorem xo_iinc {i : Nat} {n : Int} {x v : Int32} (hl : L[i]? = some (some (.int x))) (hv : x + Int32.ofInt n = v) (hn : i < M.2.2.1) (hp : mk_p1 L i) (hd : decode M.2.1 pc = .ok (.iinc i n, 3)) (k : mk_O w M (pc + 3) (L.set i (some (.int v))) S t o) : mk_O w M pc L S t o :=
  mk_O.sto (fun p l e R s m args below meth c Q H locs cells slots ls ad hC hL kk => by
    obtain ⟨kx, hkx⟩ := List.getElem?_of_mem (mk_as_mem.mpr ⟨_, hl, rfl⟩ : (i, mk_tr ad (.int x)) ∈ mk_as ad L)
    exact lv_iinc hC.1 hC.2.1 hd hL.has hkx hv hn rfl (fun ls1 h1 => kk ls1 (mk_L.set1 (v := .int v) h1 hp))) (fun n h => (h.push (v := .int v) trivial).store) k
/-! answers -/
theorem mk_O.ret {z : α} (h : mk_rt M pc (w z)) (hs : ∀ n, mk_wf n L S → ∀ v, w z = some v → mk_wv n v) (hS : ∀ ad, S.map (mk_tr ad) = ((w z).map (mk_tr ad)).toList) : mk_O w M pc L S t (some (z, t)) := by
  intro y hy
  cases hy
  refine ⟨⟨Nat.le_refl _, Nat.le_refl _⟩, ?_⟩
  intro p l e R s m args below meth c Q D ac g A c0 s0 H locs ls ad hC hB hE hR hS2 hL hf hq
  rw [hS ad]
  exact hq H locs ls ad pc mk_same.rf hR hS2 (fun v hv => hs _ hf v hv) h
theorem xo_iret {x : Int32} (hd : decode M.2.1 pc = .ok (.ireturn, 1)) (hr : M.2.2.2.1 = some .int) : mk_O mk_wi M pc L [.int x] t (some (x, t)) :=
  mk_O.ret ⟨hd, _, hr, rfl⟩ (fun n h v hv => by cases hv; trivial) (fun _ => rfl)
def mk_rz (x : Int32) (t : mk_S) : Option (Int32 × mk_S) := if x = 0 ∨ x = 1 then some (x, t) else none
theorem xo_zret {x : Int32} (hd : decode M.2.1 pc = .ok (.ireturn, 1)) (hr : M.2.2.2.1 = some .boolean) : mk_O mk_wi M pc L [.int x] t (mk_rz x t) := by
  unfold mk_rz
  by_cases h : x = 0 ∨ x = 1
  · rw [if_pos h]
    exact mk_O.ret ⟨hd, _, hr, by rcases h with h | h <;> subst h <;> rfl⟩ (fun n h v hv => by cases hv; trivial) (fun _ => rfl)
  · rw [if_neg h]
    intro z hz
    cases hz
theorem xo_lret {x : Int64} (hd : decode M.2.1 pc = .ok (.lreturn, 1)) (hr : M.2.2.2.1 = some .long) : mk_O mk_wl M pc L [.long x] t (some (x, t)) :=
  mk_O.ret ⟨hd, hr⟩ (fun n h v hv => by cases hv; trivial) (fun _ => rfl)
theorem xo_vret (hd : decode M.2.1 pc = .ok (.return_, 1)) (hr : M.2.2.2.1 = none) : mk_O mk_wu M pc L [] t (some ((), t)) :=
  mk_O.ret (w := mk_wu) (z := ()) ⟨hd, hr⟩ (fun n h v hv => by cases hv) (fun _ => rfl)
theorem xo_aret {a : Nat} {n : String} (hd : decode M.2.1 pc = .ok (.areturn, 1)) (hr : M.2.2.2.1 = some (.object n)) : mk_O mk_wn M pc L [.ref a] t (some (a, t)) :=
  mk_O.ret ⟨hd, n, hr⟩ (fun n h v hv => by cases hv; exact h.top) (fun _ => rfl)
theorem xo_qret {r : Option Nat} {n : String} (hd : decode M.2.1 pc = .ok (.areturn, 1)) (hr : M.2.2.2.1 = some (.object n)) : mk_O mk_wq M pc L [va_rf r] t (some (r, t)) := by
  refine mk_O.ret ?_ (fun n h v hv => by cases hv; exact h.top) (fun _ => rfl)
  cases r with
  | none => exact ⟨hd, n, hr⟩
  | some a => exact ⟨hd, n, hr⟩
theorem mk_O.none : mk_O w M pc L S t none := fun z hz => by cases hz
end MKT
