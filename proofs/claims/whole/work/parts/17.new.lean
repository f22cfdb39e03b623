theorem mk_e_old {ac ad : Nat → Nat} {t t1 : mk_S} {i n q : Nat} {K : mk_K} (h1 : t1.2.1 i = t.2.1 i) (h2 : t1.2.2 i = t.2.2 i) {ad1 : Nat → Nat} (hs : ∀ a, a < n → ad1 a = ad a) (hw : ∀ a, some a ∈ K.2.2 → a < n) : mk_e ac ad1 t1 i K = mk_e ac ad t i K := by
  have hm : ∀ k, (K.2.2.getD k none).map ad1 = (K.2.2.getD k none).map ad := by
    intro k
    cases hz : K.2.2.getD k none with
    | none => rfl
    | some b => exact congrArg some (hs b (hw b (mk_getD_mem hz)))
  unfold mk_e mk_fs
  simp only [h1, h2, hm]
/-- a new cell at the end -/
theorem mk_ws_push {ac ad ad1 : Nat → Nat} {t t1 : mk_S} {Ks : List mk_K} (h1 : t1.1 = t.1 ++ Ks) (hm : ∀ i, i < t.1.length → t1.2.1 i = t.2.1 i ∧ t1.2.2 i = t.2.2 i) (hs : ∀ a, a < t.1.length → ad1 a = ad a) (hw : ∀ K ∈ t.1, ∀ a, some a ∈ K.2.2 → a < t.1.length) : mk_ws ac ad1 t1 = mk_ws ac ad t ++ Ks.mapIdx (fun j K => (ad1 (t.1.length + j), mk_e ac ad1 t1 (t.1.length + j) K)) := by
  apply List.ext_getElem?
  intro i
  rw [mk_ws_at, h1]
  by_cases hi : i < t.1.length
  · rw [List.getElem?_append_left hi, List.getElem?_append_left (by rw [mk_ws_len]; exact hi), mk_ws_at]
    cases hK : t.1[i]? with
    | none => rfl
    | some K =>
      simp only [Option.map_some, Option.some.injEq, Prod.mk.injEq]
      exact ⟨hs i hi, mk_e_old (n := t.1.length) (q := 0) (hm i hi).1 (hm i hi).2 hs (hw K (List.mem_of_getElem? hK))⟩
  · rw [List.getElem?_append_right (by omega), List.getElem?_append_right (by rw [mk_ws_len]; omega), mk_ws_len, List.getElem?_mapIdx]
    have e : t.1.length + (i - t.1.length) = i := by omega
    rw [e]
section MKN
variable {α : Type} {w : α → Option Value} {M : mk_M} {pc pc1 : Nat} {L : List (Option Value)} {S S1 : List Value} {t t1 : mk_S} {o : Option (α × mk_S)}
/-- a step that makes cells -/
theorem mk_O.mk {a : Nat} {Ks : List mk_K} (h1 : t1.1 = t.1 ++ Ks) (hlen : t.1.length + Ks.length ≤ 1000000) (hm : ∀ i, i < t.1.length ∨ 1000000 ≤ i → t1.2.1 i = t.2.1 i ∧ t1.2.2 i = t.2.2 i) (hKw : ∀ K ∈ Ks, ∀ b, some b ∈ K.2.2 → b < t.1.length + Ks.length) (ha : a < t.1.length + Ks.length)
    (h : ∀ (p : Program) (l : Launch) (e : Env) (R : Room) (s : State) (m : MethodId) (args : Array Value) (below : List Frame) (meth : Method) (c : Code) (Q : State → Prop) (D : va_G) (ac : Nat → Nat) (g : Nat → Nat → Int32) (A : Nat → Prop) (H : Heap) (locs : List Loc) (cells slots : Nat) (ls : Array Slot) (ad : Nat → Nat), mk_C M R p s m args meth c → ls.size = M.2.2.1 → mk_E D ac g ad A s → mk_R D ac g ad A t H → va_S A s.heap H locs → cells + Ks.length ≤ R.cells → slots + (Ks.map (fun K => K.2.1)).sum ≤ R.slots →
      (∀ (ad1 : Nat → Nat) (H1 : Heap) (locs1 : List Loc), mk_same ad ad1 t.1.length → va_P D vwCl (mk_ws ac ad t ++ Ks.mapIdx (fun j K => (ad1 (t.1.length + j), mk_e ac ad1 t1 (t.1.length + j) K))) H1 → va_D A (mk_ws ac ad t ++ Ks.mapIdx (fun j K => (ad1 (t.1.length + j), mk_e ac ad1 t1 (t.1.length + j) K))) → va_S A s.heap H1 locs1 → W p l e R s m args below meth c H1 locs1 (cells + Ks.length) (slots + (Ks.map (fun K => K.2.1)).sum) Q (F0 m pc1 ls (.ref (ad1 a) :: S1.map (mk_tr ad)))) → W p l e R s m args below meth c H locs cells slots Q (F0 m pc ls (S.map (mk_tr ad))))
    (hsub : ∀ v ∈ S1, v ∈ S) (k : mk_O w M pc1 L (.ref a :: S1) t1 o) : mk_O w M pc L S t o := by
  intro z hz
  obtain ⟨k1, k2⟩ := k z hz
  have hcn : mk_cn t1 = mk_cn t + Ks.length := by unfold mk_cn; rw [h1, List.length_append]
  have hsn : mk_sn t1 = mk_sn t + (Ks.map (fun K => K.2.1)).sum := by unfold mk_sn; rw [h1, List.map_append, List.sum_append]
  obtain ⟨g1, g2⟩ := k1
  rw [hcn] at g1
  rw [hsn] at g2
  refine ⟨⟨by omega, by omega⟩, ?_⟩
  intro p l e R s m args below meth c Q D ac g A c0 s0 H locs ls ad hC hB hE hR hS hL hf hq
  obtain ⟨b1, b2, b3, b4⟩ := hB
  have hl1 : t1.1.length = t.1.length + Ks.length := hcn
  refine h p l e R s m args below meth c Q D ac g A H locs _ _ ls ad hC hL.1 hE hR hS (by omega) (by omega) (fun ad1 H1 locs1 hsm hP hD hS1 => ?_)
  have hws : mk_ws ac ad1 t1 = mk_ws ac ad t ++ Ks.mapIdx (fun j K => (ad1 (t.1.length + j), mk_e ac ad1 t1 (t.1.length + j) K)) := mk_ws_push h1 (fun i hi => hm i (Or.inl hi)) (fun a ha => hsm a (Or.inl ha)) hR.2.2.1
  have hR1 : mk_R D ac g ad1 A t1 H1 := by
    refine ⟨by rw [hws]; exact hP, by rw [hws]; exact hD, ?_, by rw [hl1]; exact hlen, fun b hb => ?_⟩
    · rw [hl1, h1]
      intro K hK b hb
      rcases List.mem_append.mp hK with q | q
      · exact Nat.lt_of_lt_of_le (hR.2.2.1 K q b hb) (Nat.le_add_right _ _)
      · exact hKw K q b hb
    · rw [(hm b (Or.inr (by omega))).1]
      exact hR.2.2.2.2 b hb
  have hL1 : mk_L ls M.2.2.1 ad1 L := ⟨hL.1, hL.2.1, fun i x hx => by rw [mk_tr_same hsm (hf.at hx)]; exact hL.2.2 i x hx⟩
  have hle : t.1.length ≤ t1.1.length := by omega
  have hf1 : mk_wf t1.1.length L (.ref a :: S1) := by
    refine ⟨fun x hx => (hf.1 x hx).mono hle, fun x hx => ?_⟩
    rcases List.mem_cons.mp hx with q | q
    · subst q
      exact Or.inl (by rw [hl1]; exact ha)
    · exact (hf.2 x (hsub x q)).mono hle
  have hgo := k2 p l e R s m args below meth c Q D ac g A c0 s0 H1 locs1 ls ad1 hC ⟨by omega, by omega, b3, b4⟩ (hE.ad hsm) hR1 hS1 hL1 hf1 (fun H2 locs2 ls2 ad2 pc2 q1 q2 q3 q4 q5 => hq H2 locs2 ls2 ad2 pc2 (hsm.trans q1 hle) q2 q3 q4 q5)
  have ec : mk_cn t1 - c0 = mk_cn t - c0 + Ks.length := by omega
  have es : mk_sn t1 - s0 = mk_sn t - s0 + (Ks.map (fun K => K.2.1)).sum := by omega
  rw [ec, es, List.map_cons, mk_tr_map hsm (fun v hv => hf.2 v (hsub v hv))] at hgo
  exact hgo
/-- zeroes at new places -/
def mk_z0 {β : Type} (f : Nat → Nat → β) (n k : Nat) (z : β) : Nat → Nat → β := fun i => if n ≤ i ∧ i < n + k then fun _ => z else f i
theorem mk_z0_old {β : Type} {f : Nat → Nat → β} {n k i : Nat} {z : β} (h : i < n ∨ n + k ≤ i) : mk_z0 f n k z i = f i := by
  unfold mk_z0
  rw [if_neg (by omega)]
theorem mk_z0_new {β : Type} {f : Nat → Nat → β} {n k i : Nat} {z : β} (h : n ≤ i) (h2 : i < n + k) : mk_z0 f n k z i = fun _ => z := by
  unfold mk_z0
  rw [if_pos ⟨h, h2⟩]
def mk_add (t : mk_S) (Ks : List mk_K) : mk_S := (t.1 ++ Ks, mk_z0 t.2.1 t.1.length Ks.length 0, mk_z0 t.2.2 t.1.length Ks.length 0)
def mk_new (t : mk_S) (ci N : Nat) : Option (Nat × mk_S) := if t.1.length < 900000 then some (t.1.length, mk_add t [(ci, N, List.replicate N none)]) else none
def mk_na (tag : Nat) (t : mk_S) (n : Int32) : Option (Nat × mk_S) := if t.1.length < 900000 ∧ ¬ n < 0 ∧ n.toNatClampNeg ≤ 1000000 then some (t.1.length, mk_add t [(tag, n.toNatClampNeg, if tag < 104 then [] else List.replicate n.toNatClampNeg none)]) else none
def mk_LN (own : String) (index ci N : Nat) : Prop := ∃ (C : String) (T : u_T), vwCl[ci]? = some (C, T, N) ∧ Cond.classLink own index C ∈ lw_gw ∧ Cond.instantiable C N ∈ lw_gw ∧ Cond.initialized C ∈ lw_gw
theorem mk_rep_mem {n : Nat} {b : Nat} (h : some b ∈ List.replicate n (none : Option Nat)) : False := by
  have := (List.mem_replicate.mp h).2
  cases this
theorem xo_new {index ci N : Nat} {f : Nat × mk_S → Option (α × mk_S)} (hd : decode M.2.1 pc = .ok (.new index, 3)) (hcl : mk_CL ci) (hl : mk_LN M.1.cls index ci N) (kk : ∀ z, mk_new t ci N = some z → mk_O w M (pc + 3) L (.ref z.1 :: S) z.2 (f z)) : mk_O w M pc L S t ((mk_new t ci N).bind f) := by
  refine mk_O.bind fun z hz => ?_
  have hz0 := hz
  unfold mk_new at hz
  by_cases hc : t.1.length < 900000
  · rw [if_pos hc] at hz
    cases hz
    obtain ⟨C, T, N2, ty, h1, h2, h3, h4, h5, h6⟩ := hcl
    obtain ⟨C2, T2, g1, g2, g3, g4⟩ := hl
    cases h1.symm.trans g1
    refine mk_O.mk (Ks := [(ci, N, List.replicate N none)]) rfl (by simp only [List.length_singleton]; omega) (fun i hi => ⟨mk_z0_old (by simp only [List.length_singleton]; omega), mk_z0_old (by simp only [List.length_singleton]; omega)⟩) (fun K hK b hb => ?_) (by simp) (fun p l e R s m args below meth c Q D ac g A H locs cells slots ls ad hC hsz hE hR hS hc1 hc2 kk => ?_) (fun v hv => hv) (kk _ hz0)
    · rw [List.mem_singleton.mp hK] at hb
      exact (mk_rep_mem hb).elim
    · have hfs : ∀ (q : Nat) (j : Nat), j < N → defaultValue (ty j) = vp_V (mk_fs (va_up ad t.1.length q) (mk_add t [(ci, N, List.replicate N none)]) t.1.length (ci, N, List.replicate N none)) j := by
        intro q j hj
        unfold vp_V
        rw [List.getD_eq_getElem?_getD, mk_fs_at hj, h6 j hj]
        simp only [Option.getD_some, mk_add]
        rw [mk_z0_new (Nat.le_refl _) (by simp)]
        simp [va_rf, hj]
      refine va_new (ci := ci) (Ts := lw_gw) hC.1 hC.2.1 hC.2.2.2.2.1 h2 ty h3 hC.2.2.2.1 (hC.2.2.2.2.1 _ g2) (hC.2.2.2.2.1 _ g3) (hC.2.2.2.2.1 _ g4) hE.1 hR.1 hR.2.1 hS hE.2.2.1 h1 (fs := (List.range N).map (fun k => if mk_isR ci k then .null else .int 0)) (fun j hj => by rw [h6 j hj]; simp [vp_V, hj]) (by simpa using hc1) (by simpa using hc2) hd (fun q H1 hP hD hS1 => ?_)
      have e : mk_fs (va_up ad t.1.length q) (mk_add t [(ci, N, List.replicate N none)]) t.1.length (ci, N, List.replicate N none) = (List.range N).map (fun k => if mk_isR ci k then .null else .int 0) := by
        unfold mk_fs
        apply List.map_congr_left
        intro k hk
        have hkN : k < N := List.mem_range.mp hk
        simp only [mk_add]
        rw [mk_z0_new (Nat.le_refl _) (by simp)]
        simp [va_rf, hkN]
      have hE1 : mk_e ac (va_up ad t.1.length q) (mk_add t [(ci, N, List.replicate N none)]) t.1.length (ci, N, List.replicate N none) = .inr (ci, (List.range N).map (fun k => if mk_isR ci k then .null else .int 0)) := by
        rw [mk_e_obj rfl (mk_cl_lt h1), e]
      have hsame : mk_same ad (va_up ad t.1.length q) t.1.length := fun a ha => va_up_ne _ _ (by omega)
      have hgo := kk (va_up ad t.1.length q) H1 locs hsame (by simp only [List.mapIdx_cons, List.mapIdx_nil, Nat.add_zero, va_up_self, hE1]; exact hP) (by simp only [List.mapIdx_cons, List.mapIdx_nil, Nat.add_zero, va_up_self, hE1]; exact hD) hS1
      simp only [List.length_singleton, List.map_cons, List.map_nil, List.sum_cons, List.sum_nil, Nat.add_zero, va_up_self] at hgo
      exact hgo
  · rw [if_neg hc] at hz
    cases hz
end MKN
