theorem mk_cl_lt {ci : Nat} {q : vw_C} (h : vwCl[ci]? = some q) : ci < 100 := by
  have h1 : ci < vwCl.length := (List.getElem?_eq_some_iff.mp h).1
  exact Nat.lt_of_lt_of_le h1 (by decide)
/-- a class of ours: its fields, its words -/
def mk_CL (ci : Nat) : Prop := ∃ (C : String) (T : u_T) (N : Nat) (ty : Nat → FieldType), vwCl[ci]? = some (C, T, N) ∧ (∀ w ∈ u_ws C T N, w ∈ lw_gw) ∧ (∀ k, k < N → parseFieldDescriptor (T k).2.2.1 = some (ty k)) ∧ (∀ a, a < N → ∀ b, b < N → a ≠ b → (T a).2.1 ≠ (T b).2.1) ∧ (∀ k, k < N → (T k).1 = C) ∧ ∀ k, k < N → defaultValue (ty k) = if mk_isR ci k then .null else .int 0
/-- an entry of a class's pool names a field -/
def mk_FL (own : String) (index ci k : Nat) : Prop := ∃ (C : String) (T : u_T) (N : Nat), vwCl[ci]? = some (C, T, N) ∧ k < N ∧ ((Cond.fieldLink own index C (T k).2.1 (T k).2.2.1 ∈ lw_gw) ∨ ∃ host, Cond.fieldLinkNest own index C (T k).2.1 (T k).2.2.1 host ∈ lw_nw)
/-- its type -/
def mk_FT (ci k : Nat) (b : Bool) (ty : FieldType) : Prop := ∃ (C : String) (T : u_T) (N : Nat), vwCl[ci]? = some (C, T, N) ∧ (T k).2.2.2 = b ∧ parseFieldDescriptor (T k).2.2.1 = some ty
def mk_gi (t : mk_S) (a ci k : Nat) : Option Int32 := match t.1[a]? with
  | some K => if K.1 = ci ∧ k < K.2.1 then some (t.2.1 a k) else none
  | none => none
def mk_ga (t : mk_S) (a ci k : Nat) : Option Nat := match t.1[a]? with
  | some K => if K.1 = ci ∧ k < K.2.1 then K.2.2.getD k none else none
  | none => none
def mk_u2 {β : Type} (f : Nat → Nat → β) (a k : Nat) (v : β) : Nat → Nat → β := va_up f a (va_up (f a) k v)
def mk_pi (t : mk_S) (a ci k : Nat) (v : Int32) : Option mk_S := match t.1[a]? with
  | some K => if K.1 = ci ∧ k < K.2.1 then some (t.1, mk_u2 t.2.1 a k v, t.2.2) else none
  | none => none
def mk_pz (t : mk_S) (a ci k : Nat) (v : Int32) : Option mk_S := if v = 0 ∨ v = 1 then mk_pi t a ci k v else none
def mk_pa (t : mk_S) (a ci k b : Nat) : Option mk_S := match t.1[a]? with
  | some K => if K.1 = ci ∧ k < K.2.1 ∧ k < K.2.2.length then some (t.1.set a (K.1, K.2.1, K.2.2.set k (some b)), t.2.1, t.2.2) else none
  | none => none
theorem mk_gi_spec {t : mk_S} {a ci k : Nat} {x : Int32} (h : mk_gi t a ci k = some x) : ∃ K, t.1[a]? = some K ∧ K.1 = ci ∧ k < K.2.1 ∧ t.2.1 a k = x := by
  unfold mk_gi at h
  cases hK : t.1[a]? with
  | none => rw [hK] at h; cases h
  | some K =>
    rw [hK] at h
    simp only at h
    by_cases hc : K.1 = ci ∧ k < K.2.1
    · rw [if_pos hc] at h
      exact ⟨K, rfl, hc.1, hc.2, Option.some.inj h⟩
    · rw [if_neg hc] at h; cases h
theorem mk_ga_spec {t : mk_S} {a ci k b : Nat} (h : mk_ga t a ci k = some b) : ∃ K, t.1[a]? = some K ∧ K.1 = ci ∧ k < K.2.1 ∧ K.2.2.getD k none = some b := by
  unfold mk_ga at h
  cases hK : t.1[a]? with
  | none => rw [hK] at h; cases h
  | some K =>
    rw [hK] at h
    simp only at h
    by_cases hc : K.1 = ci ∧ k < K.2.1
    · rw [if_pos hc] at h
      exact ⟨K, rfl, hc.1, hc.2, h⟩
    · rw [if_neg hc] at h; cases h
theorem mk_pi_spec {t t1 : mk_S} {a ci k : Nat} {v : Int32} (h : mk_pi t a ci k v = some t1) : ∃ K, t.1[a]? = some K ∧ K.1 = ci ∧ k < K.2.1 ∧ t1 = (t.1, mk_u2 t.2.1 a k v, t.2.2) := by
  unfold mk_pi at h
  cases hK : t.1[a]? with
  | none => rw [hK] at h; cases h
  | some K =>
    rw [hK] at h
    simp only at h
    by_cases hc : K.1 = ci ∧ k < K.2.1
    · rw [if_pos hc] at h
      exact ⟨K, rfl, hc.1, hc.2, (Option.some.inj h).symm⟩
    · rw [if_neg hc] at h; cases h
theorem mk_pa_spec {t t1 : mk_S} {a ci k b : Nat} (h : mk_pa t a ci k b = some t1) : ∃ K, t.1[a]? = some K ∧ K.1 = ci ∧ k < K.2.1 ∧ k < K.2.2.length ∧ t1 = (t.1.set a (K.1, K.2.1, K.2.2.set k (some b)), t.2.1, t.2.2) := by
  unfold mk_pa at h
  cases hK : t.1[a]? with
  | none => rw [hK] at h; cases h
  | some K =>
    rw [hK] at h
    simp only at h
    by_cases hc : K.1 = ci ∧ k < K.2.1 ∧ k < K.2.2.length
    · rw [if_pos hc] at h
      exact ⟨K, rfl, hc.1, hc.2.1, hc.2.2, (Option.some.inj h).symm⟩
    · rw [if_neg hc] at h; cases h
theorem mk_e_obj {ac ad : Nat → Nat} {t : mk_S} {i ci : Nat} {K : mk_K} (h : K.1 = ci) (hc : ci < 100) : mk_e ac ad t i K = .inr (ci, mk_fs ad t i K) := by
  unfold mk_e
  rw [h, if_pos hc]
theorem mk_fs_at {ad : Nat → Nat} {t : mk_S} {i k : Nat} {K : mk_K} (h : k < K.2.1) : (mk_fs ad t i K)[k]? = some (if mk_isR K.1 k then va_rf ((K.2.2.getD k none).map ad) else .int (t.2.1 i k)) := by
  unfold mk_fs
  simp [h]
theorem mk_fs_len {ad : Nat → Nat} {t : mk_S} {i : Nat} {K : mk_K} : (mk_fs ad t i K).length = K.2.1 := by simp [mk_fs]
theorem mk_ws_set {ac ad : Nat → Nat} {t t1 : mk_S} {a : Nat} {K1 : mk_K} (h1 : t1.1 = t.1.set a K1) (h2 : ∀ i, i ≠ a → t1.2.1 i = t.2.1 i ∧ t1.2.2 i = t.2.2 i) : mk_ws ac ad t1 = (mk_ws ac ad t).set a (ad a, mk_e ac ad t1 a K1) := by
  apply List.ext_getElem?
  intro i
  rw [mk_ws_at, h1]
  by_cases e : a = i
  · subst e
    rw [List.getElem?_set, List.getElem?_set, mk_ws_len]
    by_cases hl : a < t.1.length <;> simp [hl]
  · rw [List.getElem?_set_ne e, List.getElem?_set_ne e, mk_ws_at]
    obtain ⟨e1, e2⟩ := h2 i (Ne.symm e)
    cases t.1[i]? with
    | none => rfl
    | some K =>
      simp only [Option.map_some, Option.some.injEq, Prod.mk.injEq, true_and]
      unfold mk_e mk_fs
      rw [e1, e2]
theorem mk_set_self {t : mk_S} {a : Nat} {K : mk_K} (h : t.1[a]? = some K) : t.1 = t.1.set a K := by
  apply List.ext_getElem?
  intro i
  by_cases e : a = i
  · subst e
    rw [List.getElem?_set, h]
    simp [(List.getElem?_eq_some_iff.mp h).1]
  · rw [List.getElem?_set_ne e]
theorem mk_u2_ne {β : Type} {f : Nat → Nat → β} {a k i : Nat} {v : β} (h : i ≠ a) : mk_u2 f a k v i = f i := va_up_ne _ _ h
theorem mk_u2_self {β : Type} {f : Nat → Nat → β} {a k : Nat} {v : β} : mk_u2 f a k v a = va_up (f a) k v := va_up_self _ _ _
theorem mk_fs_set {ad : Nat → Nat} {t : mk_S} {a k : Nat} {K : mk_K} {v : Int32} (hr : mk_isR K.1 k = false) : (mk_fs ad t a K).set k (.int v) = mk_fs ad (t.1, mk_u2 t.2.1 a k v, t.2.2) a K := by
  apply List.ext_getElem?
  intro i
  unfold mk_fs
  by_cases e : k = i
  · subst e
    by_cases hl : k < K.2.1
    · simp [hl, hr, mk_u2_self, va_up_self]
    · simp [hl]
  · rw [List.getElem?_set_ne e]
    by_cases hl : i < K.2.1
    · simp [hl, mk_u2_self, va_up_ne _ _ (Ne.symm e)]
    · simp [hl]
section MKH
variable {α : Type} {w : α → Option Value} {M : mk_M} {pc pc1 : Nat} {L : List (Option Value)} {S S1 : List Value} {t t1 : mk_S} {o : Option (α × mk_S)}
/-- a step that reads -/
theorem mk_O.rd (h : ∀ (p : Program) (l : Launch) (e : Env) (R : Room) (s : State) (m : MethodId) (args : Array Value) (below : List Frame) (meth : Method) (c : Code) (Q : State → Prop) (D : va_G) (ac : Nat → Nat) (g : Nat → Nat → Int32) (A : Nat → Prop) (H : Heap) (locs : List Loc) (cells slots : Nat) (ls : Array Slot) (ad : Nat → Nat), mk_C M R p s m args meth c → ls.size = M.2.2.1 → mk_E D ac g ad A s → mk_R D ac g ad A t H → va_S A s.heap H locs → cells ≤ R.cells → slots ≤ R.slots → W p l e R s m args below meth c H locs cells slots Q (F0 m pc1 ls (S1.map (mk_tr ad))) → W p l e R s m args below meth c H locs cells slots Q (F0 m pc ls (S.map (mk_tr ad))))
    (hw : (∀ K ∈ t.1, ∀ a, some a ∈ K.2.2 → a < t.1.length) → mk_wf t.1.length L S → mk_wf t.1.length L S1) (k : mk_O w M pc1 L S1 t o) : mk_O w M pc L S t o := by
  intro z hz
  obtain ⟨k1, k2⟩ := k z hz
  refine ⟨k1, ?_⟩
  intro p l e R s m args below meth c Q D ac g A c0 s0 H locs ls ad hC hB hE hR hS hL hf hq
  obtain ⟨b1, b2, b3, b4⟩ := hB
  obtain ⟨g1, g2⟩ := k1
  exact h p l e R s m args below meth c Q D ac g A H locs _ _ ls ad hC hL.1 hE hR hS (by omega) (by omega) (k2 p l e R s m args below meth c Q D ac g A c0 s0 H locs ls ad hC ⟨b1, b2, b3, b4⟩ hE hR hS hL (hw hR.2.2.1 hf) hq)
/-- a step that writes, the kinds' number and sizes as they were -/
theorem mk_O.wr (h : ∀ (p : Program) (l : Launch) (e : Env) (R : Room) (s : State) (m : MethodId) (args : Array Value) (below : List Frame) (meth : Method) (c : Code) (Q : State → Prop) (D : va_G) (ac : Nat → Nat) (g : Nat → Nat → Int32) (A : Nat → Prop) (H : Heap) (locs : List Loc) (cells slots : Nat) (ls : Array Slot) (ad : Nat → Nat), mk_C M R p s m args meth c → ls.size = M.2.2.1 → mk_E D ac g ad A s → mk_R D ac g ad A t H → va_S A s.heap H locs → mk_wf t.1.length L S → cells ≤ R.cells → slots ≤ R.slots → (∀ H1 locs1, mk_R D ac g ad A t1 H1 → va_S A s.heap H1 locs1 → W p l e R s m args below meth c H1 locs1 cells slots Q (F0 m pc1 ls (S1.map (mk_tr ad)))) → W p l e R s m args below meth c H locs cells slots Q (F0 m pc ls (S.map (mk_tr ad))))
    (hn : t1.1.length = t.1.length) (hsn : mk_sn t1 = mk_sn t) (hw : ∀ n, mk_wf n L S → mk_wf n L S1) (k : mk_O w M pc1 L S1 t1 o) : mk_O w M pc L S t o := by
  intro z hz
  obtain ⟨k1, k2⟩ := k z hz
  have hcn : mk_cn t1 = mk_cn t := hn
  refine ⟨by unfold mk_gr at k1 ⊢; rw [← hcn, ← hsn]; exact k1, ?_⟩
  intro p l e R s m args below meth c Q D ac g A c0 s0 H locs ls ad hC hB hE hR hS hL hf hq
  obtain ⟨b1, b2, b3, b4⟩ := hB
  obtain ⟨g1, g2⟩ := k1
  rw [hcn] at g1
  rw [hsn] at g2
  refine h p l e R s m args below meth c Q D ac g A H locs _ _ ls ad hC hL.1 hE hR hS hf (by omega) (by omega) (fun H1 locs1 hR1 hS1 => ?_)
  have := k2 p l e R s m args below meth c Q D ac g A c0 s0 H1 locs1 ls ad hC ⟨by rw [hcn]; exact b1, by rw [hsn]; exact b2, b3, b4⟩ hE hR1 hS1 hL (by rw [hn]; exact hw _ hf) (by rw [hn]; exact hq)
  rw [hcn, hsn] at this
  exact this
theorem mk_O.bind {β : Type} {x : Option β} {f : β → Option (α × mk_S)} (k : ∀ y, x = some y → mk_O w M pc L S t (f y)) : mk_O w M pc L S t (x.bind f) := by
  cases x with
  | none => exact mk_O.none
  | some y => exact k y rfl
theorem mk_R.at {D : va_G} {ac : Nat → Nat} {g : Nat → Nat → Int32} {ad : Nat → Nat} {A : Nat → Prop} {H : Heap} (_ : mk_R D ac g ad A t H) {a : Nat} {K : mk_K} (h : t.1[a]? = some K) : (mk_ws ac ad t)[a]? = some (ad a, mk_e ac ad t a K) := by
  rw [mk_ws_at, h]
  rfl
theorem xo_get {index ci k a : Nat} {v : Value} (hd : decode M.2.1 pc = .ok (.getfield index, 3)) (hcl : mk_CL ci) (hl : mk_FL M.1.cls index ci k) {K : mk_K} (hK : t.1[a]? = some K) (hK1 : K.1 = ci) (hv : ∀ ad, (mk_fs ad t a K)[k]? = some (mk_tr ad v)) (hwv : (∀ K ∈ t.1, ∀ a, some a ∈ K.2.2 → a < t.1.length) → mk_wv t.1.length v) (kk : mk_O w M (pc + 3) L (v :: S) t o) : mk_O w M pc L (.ref a :: S) t o := by
  obtain ⟨C, T, N, ty, h1, h2, h3, h4, h5, -⟩ := hcl
  obtain ⟨C2, T2, N2, g1, g2, g3⟩ := hl
  cases h1.symm.trans g1
  refine mk_O.rd (fun p l e R s m args below meth c Q D ac g A H locs cells slots ls ad hC hsz hE hR hS _ _ kk => ?_) (fun hh h => h.pop.push (hwv hh)) kk
  have hat := hR.at hK
  rw [mk_e_obj hK1 (mk_cl_lt h1)] at hat
  rcases g3 with g3 | ⟨host, g3⟩
  · exact va_get (Ts := lw_gw) hC.1 hC.2.1 hC.2.2.2.2.1 h2 hC.2.2.2.1 hE.1 hR.1 a hat h1 k g2 (hC.2.2.2.2.1 _ g3) (fun x hx => by rw [h5 k g2] at hx; exact hx) (hv ad) hd kk
  · exact va_getN (Ts := lw_gw) hC.1 hC.2.1 hC.2.2.2.2.1 h2 hC.2.2.2.1 hE.1 hR.1 a hat h1 k g2 (va_Nw.use rfl (hE.2.1 _ g3)) (fun x hx => by rw [h5 k g2] at hx; exact hx) (hv ad) hd kk
theorem xo_geti {index ci k a : Nat} {f : Int32 → Option (α × mk_S)} (hd : decode M.2.1 pc = .ok (.getfield index, 3)) (hcl : mk_CL ci) (hl : mk_FL M.1.cls index ci k) (hr : mk_isR ci k = false) (kk : ∀ x, mk_O w M (pc + 3) L (.int x :: S) t (f x)) : mk_O w M pc L (.ref a :: S) t ((mk_gi t a ci k).bind f) := by
  refine mk_O.bind fun x hx => ?_
  obtain ⟨K, h1, h2, h3, h4⟩ := mk_gi_spec hx
  refine xo_get (v := .int x) hd hcl hl h1 h2 (fun ad => ?_) (fun _ => trivial) (kk x)
  rw [mk_fs_at h3, h2, hr, h4]
  rfl
theorem xo_geta {index ci k a : Nat} {f : Nat → Option (α × mk_S)} (hd : decode M.2.1 pc = .ok (.getfield index, 3)) (hcl : mk_CL ci) (hl : mk_FL M.1.cls index ci k) (hr : mk_isR ci k = true) (kk : ∀ x, mk_O w M (pc + 3) L (.ref x :: S) t (f x)) : mk_O w M pc L (.ref a :: S) t ((mk_ga t a ci k).bind f) := by
  refine mk_O.bind fun x hx => ?_
  obtain ⟨K, h1, h2, h3, h4⟩ := mk_ga_spec hx
  refine xo_get (v := .ref x) hd hcl hl h1 h2 (fun ad => ?_) (fun hh => Or.inl (hh K (List.mem_of_getElem? h1) x ?_)) (kk x)
  · rw [mk_fs_at h3, h2, hr, h4]
    rfl
  · rw [List.getD_eq_getElem?_getD] at h4
    cases hz : K.2.2[k]? with
    | none => rw [hz] at h4; cases h4
    | some y =>
      rw [hz] at h4
      cases h4
      exact List.mem_of_getElem? hz
theorem mk_R.set {D : va_G} {ac : Nat → Nat} {g : Nat → Nat → Int32} {ad : Nat → Nat} {A : Nat → Prop} {H H1 : Heap} (h : mk_R D ac g ad A t H) {a : Nat} {K1 : mk_K} (h1 : t1.1 = t.1.set a K1) (h2 : ∀ i, i ≠ a → t1.2.1 i = t.2.1 i ∧ t1.2.2 i = t.2.2 i) (ha : a < t.1.length) (hk : ∀ b, some b ∈ K1.2.2 → b < t.1.length) (hP : va_P D vwCl ((mk_ws ac ad t).set a (ad a, mk_e ac ad t1 a K1)) H1) (hD : va_D A ((mk_ws ac ad t).set a (ad a, mk_e ac ad t1 a K1))) : mk_R D ac g ad A t1 H1 := by
  obtain ⟨r1, r2, r3, r4, r5⟩ := h
  have hlen : t1.1.length = t.1.length := by rw [h1, List.length_set]
  refine ⟨by rw [mk_ws_set h1 h2]; exact hP, by rw [mk_ws_set h1 h2]; exact hD, ?_, by rw [hlen]; exact r4, fun b hb => ?_⟩
  · rw [hlen, h1]
    intro K hK b hb
    rcases List.mem_or_eq_of_mem_set hK with q | q
    · exact r3 K q b hb
    · subst q
      exact hk b hb
  · rw [(h2 b (by omega)).1]
    exact r5 b hb
theorem xo_put {index ci k a : Nat} {x : Int32} {ty : FieldType} (hd : decode M.2.1 pc = .ok (.putfield index, 3)) (hcl : mk_CL ci) (hl : mk_FL M.1.cls index ci k) (hr : mk_isR ci k = false) (hty : mk_FT ci k false ty) (hn : narrow ty (.int x) = .int x) (hfit : fits ty (.int x) = true) {K : mk_K} (hK : t.1[a]? = some K) (hK1 : K.1 = ci) (hk : k < K.2.1) (kk : mk_O w M (pc + 3) L S (t.1, mk_u2 t.2.1 a k x, t.2.2) o) : mk_O w M pc L (.int x :: .ref a :: S) t o := by
  obtain ⟨C, T, N, ty0, h1, h2, h3, h4, h5, -⟩ := hcl
  obtain ⟨C2, T2, N2, g1, g2, g3⟩ := hl
  obtain ⟨C3, T3, N3, f1, f2, f3⟩ := hty
  cases h1.symm.trans g1
  cases h1.symm.trans f1
  refine mk_O.wr (t1 := (t.1, mk_u2 t.2.1 a k x, t.2.2)) (fun p l e R s m args below meth c Q D ac g A H locs cells slots ls ad hC hsz hE hR hS hf _ _ kk => ?_) rfl rfl (fun n h => h.pop.pop) kk
  have hat := hR.at hK
  rw [mk_e_obj hK1 (mk_cl_lt h1)] at hat
  have key : ∀ H1 locs1, va_P D vwCl ((mk_ws ac ad t).set a (ad a, .inr (ci, (mk_fs ad t a K).set k (.int x)))) H1 → va_D A ((mk_ws ac ad t).set a (ad a, .inr (ci, (mk_fs ad t a K).set k (.int x)))) → va_S A s.heap H1 locs1 → W p l e R s m args below meth c H1 locs1 cells slots Q (F0 m (pc + 3) ls (S.map (mk_tr ad))) := by
    intro H1 locs1 hP1 hD1 hS1
    have e : mk_e ac ad (t.1, mk_u2 t.2.1 a k x, t.2.2) a K = .inr (ci, (mk_fs ad t a K).set k (.int x)) := by
      rw [mk_e_obj hK1 (mk_cl_lt h1), mk_fs_set (by rw [hK1]; exact hr)]
    refine kk H1 locs1 (hR.set (a := a) (K1 := K) (mk_set_self hK) (fun i hi => ⟨mk_u2_ne hi, rfl⟩) (List.getElem?_eq_some_iff.mp hK).1 (hR.2.2.1 K (List.mem_of_getElem? hK)) (by rw [e]; exact hP1) (by rw [e]; exact hD1)) hS1
  rcases g3 with g3 | ⟨host, g3⟩
  · exact va_put (Ts := lw_gw) (ty := ty) hC.1 hC.2.1 hC.2.2.2.2.1 h2 ty0 h3 h4 hC.2.2.2.1 hE.1 hR.1 hR.2.1 hS a hat h1 k g2 (hC.2.2.2.2.1 _ g3) (fun x hx => by rw [h5 k g2] at hx; exact hx) f2 f3 hn hfit (by rw [mk_fs_len]; exact hk) hd key
  · exact va_putN (Ts := lw_gw) (ty := ty) hC.1 hC.2.1 hC.2.2.2.2.1 h2 ty0 h3 h4 hC.2.2.2.1 hE.1 hR.1 hR.2.1 hS a hat h1 k g2 (va_Nw.use rfl (hE.2.1 _ g3)) (fun x hx => by rw [h5 k g2] at hx; exact hx) f2 f3 hn hfit (by rw [mk_fs_len]; exact hk) hd key
theorem xo_puti {index ci k a : Nat} {x : Int32} {f : mk_S → Option (α × mk_S)} (hd : decode M.2.1 pc = .ok (.putfield index, 3)) (hcl : mk_CL ci) (hl : mk_FL M.1.cls index ci k) (hr : mk_isR ci k = false) (hty : mk_FT ci k false .int) (kk : ∀ t1, mk_O w M (pc + 3) L S t1 (f t1)) : mk_O w M pc L (.int x :: .ref a :: S) t ((mk_pi t a ci k x).bind f) := by
  refine mk_O.bind fun y hy => ?_
  obtain ⟨K, h1, h2, h3, h4⟩ := mk_pi_spec hy
  subst h4
  exact xo_put hd hcl hl hr hty rfl rfl h1 h2 h3 (kk _)
theorem xo_putz {index ci k a : Nat} {x : Int32} {f : mk_S → Option (α × mk_S)} (hd : decode M.2.1 pc = .ok (.putfield index, 3)) (hcl : mk_CL ci) (hl : mk_FL M.1.cls index ci k) (hr : mk_isR ci k = false) (hty : mk_FT ci k false .boolean) (kk : ∀ t1, mk_O w M (pc + 3) L S t1 (f t1)) : mk_O w M pc L (.int x :: .ref a :: S) t ((mk_pz t a ci k x).bind f) := by
  unfold mk_pz
  by_cases hx : x = 0 ∨ x = 1
  · rw [if_pos hx]
    refine mk_O.bind fun y hy => ?_
    obtain ⟨K, h1, h2, h3, h4⟩ := mk_pi_spec hy
    subst h4
    refine xo_put hd hcl hl hr hty ?_ ?_ h1 h2 h3 (kk _)
    · rcases hx with q | q <;> subst q <;> rfl
    · rcases hx with q | q <;> subst q <;> rfl
  · rw [if_neg hx]
    exact mk_O.none
end MKH
