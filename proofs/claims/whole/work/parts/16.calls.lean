/-- a method that can be called -/
def mk_MD (N : mk_M) (np : Nat) : Prop := Cond.code N.1 N.2.1 N.2.2.1 N.2.2.2.1 ∈ lw_gw ∧ Cond.initialized N.1.cls ∈ lw_gw ∧ N.1.cls ≠ "java/lang/invoke/MethodHandle" ∧ N.1.cls ≠ "java/lang/invoke/VarHandle" ∧ (parseMethodDescriptor N.1.desc).map (fun d => d.parameters.length) = some np
def mk_MV (N : mk_M) : Prop := Cond.instanceMethod N.1 ∈ lw_gw ∧ Cond.selects N.1.cls N.1 N.1 ∈ lw_gw
/-- an entry of a class's pool names it -/
def mk_LK (own : String) (index : Nat) (N : mk_M) : Prop := Cond.methodLink own index N.1 ∈ lw_gw ∨ ∃ host, Cond.methodLinkNest own index N.1 host ∈ lw_nw
theorem mk_gw_good {w : Cond} (h : w ∈ lw_gw) : (w.onTables && w.keeps) = true ∨ ∃ ty, w = .arrayClass ty := good_of_word (List.mem_filter.mp h).2
theorem mk_good {N : mk_M} {np : Nat} (h : mk_MD N np) : GoodIn lw_gw (mk_wM N) := by
  intro w hw
  rcases List.mem_cons.mp hw with e | e
  · subst e
    exact ⟨h.1, mk_gw_good h.1⟩
  · exact ⟨e, mk_gw_good e⟩
theorem mk_blind {D : va_G} {ac : Nat → Nat} {g : Nat → Nat → Int32} {ad : Nat → Nat} {sz : Nat} {As : List Value} {t : mk_S} : FrameBlind (mk_Pc D ac g ad sz As t) := by
  intro a U f mk h
  obtain ⟨h1, h2, h3, h4, h5⟩ := h
  exact ⟨h1, h2, h3.same rfl rfl, h4, h5⟩
section MKC
variable {α β : Type} {w : α → Option Value} {wc : β → Option Value} {M N : mk_M} {pc pc1 : Nat} {L : List (Option Value)} {S S0 As : List Value} {t t1 : mk_S} {oc : Option (β × mk_S)} {f : β × mk_S → Option (α × mk_S)}
theorem mk_O.call (hct : ∀ z, oc = some z → mk_Ct N As t (wc z.1, z.2)) (hsub : ∀ v, v ∈ As ∨ v ∈ S → v ∈ S0)
    (hrun : ∀ (p : Program) (l : Launch) (e : Env) (R : Room) (s : State) (m : MethodId) (args : Array Value) (below : List Frame) (meth : Method) (c : Code) (D : va_G) (ac : Nat → Nat) (g : Nat → Nat → Int32) (A : Nat → Prop) (H : Heap) (locs : List Loc) (cells slots : Nat) (ls : Array Slot) (ad : Nat → Nat) (r : mk_Z) (z : β × mk_S), oc = some z → mk_C M R p s m args meth c → ls.size = M.2.2.1 → mk_E D ac g ad A s → mk_R D ac g ad A t H → va_S A s.heap H locs → (cells + (mk_cn r.2 - mk_cn t) ≤ R.cells ∧ slots + (mk_sn r.2 - mk_sn t) ≤ R.slots) →
      Met l N.1 (mk_wM N) (mk_rm N t r) (mk_Pc D ac g ad H.size As t) (mk_Qc D ac g ad H.size t r) (mk_cn r.2 - mk_cn t) (mk_sn r.2 - mk_sn t) (mk_A ad t.1.length H.size) → PreS s H (mk_Pc D ac g ad H.size As t) (As.map (mk_tr ad)) →
      va_Run p l e R s m args below meth c H locs cells slots (mk_cn r.2 - mk_cn t) (mk_sn r.2 - mk_sn t) (F0 m pc ls (S0.map (mk_tr ad))) (S.map (mk_tr ad)) (mk_Qc D ac g ad H.size t r (As.map (mk_tr ad)).toArray) (mk_A ad t.1.length H.size))
    (kk : ∀ z, oc = some z → mk_O w M (pc + 3) L ((wc z.1).toList ++ S) z.2 (f z)) : mk_O w M pc L S0 t (oc.bind f) := by
  refine mk_O.bind fun z hz => ?_
  obtain ⟨hg, hMet⟩ := hct z hz
  intro y hy
  obtain ⟨k1, k2⟩ := kk z hz y hy
  have hgt : mk_gr t (w y.1, y.2) := ⟨Nat.le_trans hg.1 k1.1, Nat.le_trans hg.2 k1.2⟩
  refine ⟨hgt, ?_⟩
  intro p l e R s m args below meth c Q D ac g A c0 s0 H locs ls ad hC hB hE hR hS hL hf hq
  obtain ⟨b1, b2, b3, b4⟩ := hB
  obtain ⟨u1, u2⟩ := k1
  obtain ⟨v1, v2⟩ := hg
  have hAA : ∀ q, mk_A ad t.1.length H.size q → A q := by
    intro q hq
    rcases hq with ⟨i, hi, e⟩ | hq
    · have hi2 : i < (mk_ws ac ad t).length := by rw [mk_ws_len]; exact hi
      have h3 : (mk_ws ac ad t)[i]? = some (ad i, mk_e ac ad t i t.1[i]) := by rw [mk_ws_at, List.getElem?_eq_getElem hi]; rfl
      have h4 := hR.2.1.2 i _ h3
      rw [← e]
      exact h4
    · exact hE.2.2.1 q (Nat.le_trans hS.1 hq)
  have hpre : PreS s H (mk_Pc D ac g ad H.size As t) (As.map (mk_tr ad)) := ⟨mk_blind, fun U hU hW => ⟨rfl, by rw [hU], hE.next hS hU hW hAA (fun q hq => Or.inr (by rw [hU] at hq; exact hq)), by rw [hU]; exact hR.wk (fun _ _ _ => trivial), fun v hv => hf.2 v (hsub v (Or.inl hv))⟩⟩
  have hrn := hrun p l e R s m args below meth c D ac g A H locs (mk_cn t - c0) (mk_sn t - s0) ls ad (wc z.1, z.2) z hz hC hL.1 hE hR hS ⟨by simp only at v1 u1 b3 ⊢; omega, by simp only at v2 u2 b4 ⊢; omega⟩ (hMet l D ac g ad H.size) hpre
  intro T hT X
  obtain ⟨v, st₀, u, T', L2, h0, X', hL2, e1, e2, ⟨ad1, hsm, ho, hR1, hw1, hF⟩, st⟩ := hrn T hT X
  cases ho
  obtain ⟨hF1, hF2⟩ := hF
  rw [h0] at hF1 hF2
  have hS1 : va_S A s.heap T'.heap (locs ++ L2) := by
    refine ⟨Nat.le_trans hS.1 (by rw [e1]; exact hF1), fun q q1 q2 => ?_, fun q hq => ?_⟩
    · rw [e1, hF2 q (Nat.lt_of_lt_of_le q1 hS.1) (fun z => q2 (hAA q z))]
      exact hS.2.1 q q1 q2
    · rcases List.mem_append.mp hq with h | h
      · exact hS.2.2 q h
      · exact hAA _ (hL2 q h)
  have hR2 : mk_R D ac g ad1 A z.2 T'.heap := by
    rw [e1]
    exact hR1.wk (fun i _ h => hAA _ h)
  have hle : t.1.length ≤ z.2.1.length := v1
  have hL1 : mk_L ls M.2.2.1 ad1 L := ⟨hL.1, hL.2.1, fun i x hx => by rw [mk_tr_same hsm (hf.at hx)]; exact hL.2.2 i x hx⟩
  have hf1 : mk_wf z.2.1.length L ((wc z.1).toList ++ S) := by
    refine ⟨fun x hx => (hf.1 x hx).mono hle, fun x hx => ?_⟩
    rcases List.mem_append.mp hx with q | q
    · exact hw1 x (by simpa using q)
    · exact (hf.2 x (hsub x (Or.inr q))).mono hle
  have hgo := k2 p l e R s m args below meth c Q D ac g A c0 s0 T'.heap (locs ++ L2) ls ad1 hC ⟨Nat.le_trans b1 v1, Nat.le_trans b2 v2, b3, b4⟩ (hE.ad hsm) hR2 hS1 hL1 hf1 (fun H1 locs1 ls1 ad2 pc2 q1 q2 q3 q4 q5 => hq H1 locs1 ls1 ad2 pc2 (hsm.trans q1 hle) q2 q3 q4 q5)
  have ec : mk_cn t - c0 + (mk_cn z.2 - mk_cn t) = mk_cn z.2 - c0 := by simp only at v1; omega
  have es : mk_sn t - s0 + (mk_sn z.2 - mk_sn t) = mk_sn z.2 - s0 := by simp only at v2; omega
  rw [show mk_cn (wc z.1, z.2).2 = mk_cn z.2 from rfl, show mk_sn (wc z.1, z.2).2 = mk_sn z.2 from rfl, ec, es] at X'
  obtain ⟨t2, a1, bq⟩ := hgo T' rfl X'
  refine ⟨t2, st t2 ?_, bq⟩
  rw [List.map_append, mk_tr_map hsm (fun v hv => hf.2 v (hsub v (Or.inr hv)))] at a1
  have ev : (wc z.1).toList.map (mk_tr ad1) = ((wc z.1).map (mk_tr ad1)).toList := by cases wc z.1 <;> rfl
  rw [ev] at a1
  exact a1
/-- which class an object is of -/
def mk_is (t : mk_S) (a ci : Nat) : Prop := ∃ K, t.1[a]? = some K ∧ K.1 = ci
theorem mk_S_map (ad : Nat → Nat) (As : List Value) (S : List Value) : (As.reverse ++ S).map (mk_tr ad) = (As.map (mk_tr ad)).reverse ++ S.map (mk_tr ad) := by
  rw [List.map_append, List.map_reverse]
theorem mk_O.callS {index np : Nat} (hMD : mk_MD N np) (hst : Cond.static N.1 ∈ lw_gw) (hlk : mk_LK M.1.cls index N) (hnp : As.length = np) (hcat : (S.map fun v => v.category).sum ≤ 8) (hroom : N.2.2.2.2.1 + 1 ≤ M.2.2.2.2.1 ∧ 8 + (N.2.2.1 + 11) + N.2.2.2.2.2 ≤ M.2.2.2.2.2) (hd : decode M.2.1 pc = .ok (.invokestatic index, 3)) (hS0 : S0 = As.reverse ++ S) (hct : ∀ z, oc = some z → mk_Ct N As t (wc z.1, z.2))
    (kk : ∀ z, oc = some z → mk_O w M (pc + 3) L ((wc z.1).toList ++ S) z.2 (f z)) : mk_O w M pc L S0 t (oc.bind f) := by
  subst hS0
  refine mk_O.call hct (fun v hv => by rw [List.mem_append, List.mem_reverse]; exact hv) (fun p l e R s m args below meth c D ac g A H locs cells slots ls ad r z hz hC hsz hE hR hS hf hMet hpre => ?_) kk
  have hrm : (mk_rm N t r).frames + 1 ≤ R.frames ∧ 8 + (N.2.2.1 + 11) + (mk_rm N t r).locals ≤ R.locals := ⟨Nat.le_trans hroom.1 hC.2.2.2.2.2.2.1, Nat.le_trans hroom.2 hC.2.2.2.2.2.2.2⟩
  have hd2 : N.1.cls ≠ "java/lang/invoke/MethodHandle" ∧ N.1.cls ≠ "java/lang/invoke/VarHandle" ∧ (parseMethodDescriptor N.1.desc).map (fun d => d.parameters.length) = some np := hMD.2.2
  rcases hlk with hlk | ⟨host, hlk⟩
  · exact va_runS (ws := mk_wM N) (bytes := N.2.1) (maxL := N.2.2.1) (ret := N.2.2.2.1) (index := index) (n := np) ⟨hC.1, hC.2.1, hC.2.2.1, hC.2.2.2.1, hC.2.2.2.2.1⟩ hMet ⟨callB_of np hC.2.2.2.2.1 (mk_good hMD) rfl rfl rfl (hC.2.2.2.2.1 _ hMD.2.1) (hC.2.2.2.2.1 _ hlk) hd2 hrm, hC.2.2.2.2.1 _ hst⟩ hpre rfl (by rw [List.length_map]; exact hnp) hsz (by rw [← mk_S_map]) (by rw [mk_cat_map]; show 2 * 0 + _ ≤ 8; omega) hd hf
  · exact va_runSN (ws := mk_wM N) (bytes := N.2.1) (maxL := N.2.2.1) (ret := N.2.2.2.1) (index := index) (n := np) (host := host) ⟨hC.1, hC.2.1, hC.2.2.1, hC.2.2.2.1, hC.2.2.2.2.1⟩ hMet ⟨va_cnB np hC.2.2.2.2.1 (mk_good hMD) rfl rfl rfl (hE.2.1 _ hlk) (hC.2.2.2.2.1 _ hMD.2.1) hd2 hrm, hC.2.2.2.2.1 _ hst, trivial⟩ hpre rfl (by rw [List.length_map]; exact hnp) hsz (by rw [← mk_S_map]) (by rw [mk_cat_map]; show 2 * 0 + _ ≤ 8; omega) hd hf
theorem mk_O.callV {index np ci b : Nat} {As1 : List Value} {q : vw_C} (hMD : mk_MD N np) (hMV : mk_MV N) (hlk : mk_LK M.1.cls index N) (hnp : As1.length = np) (hcat : (S.map fun v => v.category).sum ≤ 8) (hroom : N.2.2.2.2.1 + 1 ≤ M.2.2.2.2.1 ∧ 8 + (N.2.2.1 + 11) + N.2.2.2.2.2 ≤ M.2.2.2.2.2) (hd : decode M.2.1 pc = .ok (.invokevirtual index, 3)) (hS0 : S0 = As1.reverse ++ .ref b :: S) (hcl : vwCl[ci]? = some q) (hq : q.1 = N.1.cls) (his : ∀ z, oc = some z → mk_is t b ci) (hct : ∀ z, oc = some z → mk_Ct N (.ref b :: As1) t (wc z.1, z.2))
    (kk : ∀ z, oc = some z → mk_O w M (pc + 3) L ((wc z.1).toList ++ S) z.2 (f z)) : mk_O w M pc L S0 t (oc.bind f) := by
  subst hS0
  refine mk_O.call hct (fun v hv => ?_) (fun p l e R s m args below meth c D ac g A H locs cells slots ls ad r z hz hC hsz hE hR hS hf hMet hpre => ?_) kk
  · rw [List.mem_append, List.mem_reverse, List.mem_cons]
    rcases hv with h | h
    · rcases List.mem_cons.mp h with h | h
      · exact Or.inr (Or.inl h)
      · exact Or.inl h
    · exact Or.inr (Or.inr h)
  have hrm : (mk_rm N t r).frames + 1 ≤ R.frames ∧ 8 + (N.2.2.1 + 11) + (mk_rm N t r).locals ≤ R.locals := ⟨Nat.le_trans hroom.1 hC.2.2.2.2.2.2.1, Nat.le_trans hroom.2 hC.2.2.2.2.2.2.2⟩
  have hd2 : N.1.cls ≠ "java/lang/invoke/MethodHandle" ∧ N.1.cls ≠ "java/lang/invoke/VarHandle" ∧ (parseMethodDescriptor N.1.desc).map (fun d => d.parameters.length) = some np := hMD.2.2
  obtain ⟨K, hK, hK1⟩ := his z hz
  have hat := hR.at hK
  rw [mk_e_obj hK1 (mk_cl_lt hcl)] at hat
  have hrec := va_recv hE.1 hR.1 hcl hat
  rw [hq] at hrec
  have hpv : PreV s H N.1.cls (ad b) (mk_Pc D ac g ad H.size (.ref b :: As1) t) (As1.map (mk_tr ad)) := ⟨hpre.1, hrec, hpre.2⟩
  rcases hlk with hlk | ⟨host, hlk⟩
  · exact va_runV (ws := mk_wM N) (bytes := N.2.1) (maxL := N.2.2.1) (ret := N.2.2.2.1) (index := index) (n := np) (C := N.1.cls) ⟨hC.1, hC.2.1, hC.2.2.1, hC.2.2.2.1, hC.2.2.2.2.1⟩ hMet ⟨callB_of np hC.2.2.2.2.1 (mk_good hMD) rfl rfl rfl (hC.2.2.2.2.1 _ hMD.2.1) (hC.2.2.2.2.1 _ hlk) hd2 hrm, hC.2.2.2.2.1 _ hMV.1, hC.2.2.2.2.1 _ hMV.2⟩ hpv rfl (by rw [List.length_map]; exact hnp) hsz (by rw [mk_S_map]; rfl) (by rw [mk_cat_map]; show 2 * 0 + _ ≤ 8; omega) hd hf
  · exact va_runVN (ws := mk_wM N) (bytes := N.2.1) (maxL := N.2.2.1) (ret := N.2.2.2.1) (index := index) (n := np) (C := N.1.cls) (host := host) ⟨hC.1, hC.2.1, hC.2.2.1, hC.2.2.2.1, hC.2.2.2.2.1⟩ hMet ⟨va_cnB np hC.2.2.2.2.1 (mk_good hMD) rfl rfl rfl (hE.2.1 _ hlk) (hC.2.2.2.2.1 _ hMD.2.1) hd2 hrm, hC.2.2.2.2.1 _ hMV.1, hC.2.2.2.2.1 _ hMV.2⟩ hpv rfl (by rw [List.length_map]; exact hnp) hsz (by rw [mk_S_map]; rfl) (by rw [mk_cat_map]; show 2 * 0 + _ ≤ 8; omega) hd hf
theorem mk_O.callI {index np b : Nat} {As1 : List Value} (hMD : mk_MD N np) (hr0 : N.2.2.2.1 = Option.none) (hni : N.1.name = "<init>") (hin : Cond.instanceMethod N.1 ∈ lw_gw) (hlk : mk_LK M.1.cls index N) (hnp : As1.length = np) (hcat : (S.map fun v => v.category).sum ≤ 8) (hroom : N.2.2.2.2.1 + 1 ≤ M.2.2.2.2.1 ∧ 8 + (N.2.2.1 + 11) + N.2.2.2.2.2 ≤ M.2.2.2.2.2) (hd : decode M.2.1 pc = .ok (.invokespecial index, 3)) (hS0 : S0 = As1.reverse ++ .ref b :: S) (hct : ∀ z, oc = some z → mk_Ct N (.ref b :: As1) t (wc z.1, z.2))
    (kk : ∀ z, oc = some z → mk_O w M (pc + 3) L ((wc z.1).toList ++ S) z.2 (f z)) : mk_O w M pc L S0 t (oc.bind f) := by
  subst hS0
  refine mk_O.call hct (fun v hv => ?_) (fun p l e R s m args below meth c D ac g A H locs cells slots ls ad r z hz hC hsz hE hR hS hf hMet hpre => ?_) kk
  · rw [List.mem_append, List.mem_reverse, List.mem_cons]
    rcases hv with h | h
    · rcases List.mem_cons.mp h with h | h
      · exact Or.inr (Or.inl h)
      · exact Or.inl h
    · exact Or.inr (Or.inr h)
  have hrm : (mk_rm N t r).frames + 1 ≤ R.frames ∧ 8 + (N.2.2.1 + 11) + (mk_rm N t r).locals ≤ R.locals := ⟨Nat.le_trans hroom.1 hC.2.2.2.2.2.2.1, Nat.le_trans hroom.2 hC.2.2.2.2.2.2.2⟩
  have hd2 : N.1.cls ≠ "java/lang/invoke/MethodHandle" ∧ N.1.cls ≠ "java/lang/invoke/VarHandle" ∧ (parseMethodDescriptor N.1.desc).map (fun d => d.parameters.length) = some np := hMD.2.2
  have hw0 : mk_wM N = Cond.code N.1 N.2.1 N.2.2.1 Option.none :: lw_gw := by unfold mk_wM; rw [hr0]
  rcases hlk with hlk | ⟨host, hlk⟩
  · exact va_runI (ws := mk_wM N) (bytes := N.2.1) (maxL := N.2.2.1) (index := index) (n := np) ⟨hC.1, hC.2.1, hC.2.2.1, hC.2.2.2.1, hC.2.2.2.2.1⟩ hMet ⟨callB_of np hC.2.2.2.2.1 (mk_good hMD) hw0 rfl rfl (hC.2.2.2.2.1 _ hMD.2.1) (hC.2.2.2.2.1 _ hlk) hd2 hrm, hni, hC.2.2.2.2.1 _ hin⟩ hpre rfl (by rw [List.length_map]; exact hnp) hsz (by rw [mk_S_map]; rfl) (by rw [mk_cat_map]; show 2 * 0 + _ ≤ 8; omega) hd hf
  · exact va_runIN (ws := mk_wM N) (bytes := N.2.1) (maxL := N.2.2.1) (index := index) (n := np) (host := host) ⟨hC.1, hC.2.1, hC.2.2.1, hC.2.2.2.1, hC.2.2.2.2.1⟩ hMet ⟨va_cnB np hC.2.2.2.2.1 (mk_good hMD) hw0 rfl rfl (hE.2.1 _ hlk) (hC.2.2.2.2.1 _ hMD.2.1) hd2 hrm, hni, hC.2.2.2.2.1 _ hin⟩ hpre rfl (by rw [List.length_map]; exact hnp) hsz (by rw [mk_S_map]; rfl) (by rw [mk_cat_map]; show 2 * 0 + _ ≤ 8; omega) hd hf
end MKC
