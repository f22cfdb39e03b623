theorem mk_ac_of {D : va_G} {ac : Nat → Nat} {s : State} {j : Nat} {cA : ClassId} (hj : j < 8) (hK : va_K D vwCl (mk_tys ac) s) (h2 : va_K D vwCl (mk_tys ac ++ [(cA, mk_aty j)]) s) : cA = ac j := by
  have e1 := (hK.2 j _ (mk_tys_at ac hj)).2
  have e2 := (h2.2 8 (cA, mk_aty j) (by rw [List.getElem?_append_right (by simp [mk_tys])]; simp [mk_tys])).2
  rcases (show j = 0 ∨ j = 1 ∨ j = 2 ∨ j = 3 ∨ j = 4 ∨ j = 5 ∨ j = 6 ∨ j = 7 by omega) with q | q | q | q | q | q | q | q <;> subst q
  · exact Option.some.inj (e2.symm.trans e1)
  · exact Option.some.inj (e2.symm.trans e1)
  · exact Option.some.inj (e2.symm.trans e1)
  · exact Option.some.inj (e2.symm.trans e1)
  · obtain ⟨_, _, _, _, _, a⟩ := e1
    obtain ⟨_, _, _, _, _, b⟩ := e2
    exact Option.some.inj (b.symm.trans a)
  · obtain ⟨_, _, _, _, _, a⟩ := e1
    obtain ⟨_, _, _, _, _, b⟩ := e2
    exact Option.some.inj (b.symm.trans a)
  · obtain ⟨_, _, _, _, _, a⟩ := e1
    obtain ⟨_, _, _, _, _, b⟩ := e2
    exact Option.some.inj (b.symm.trans a)
  · exact Option.some.inj (e2.symm.trans e1)
section MKN2
variable {α : Type} {w : α → Option Value} {M : mk_M} {pc pc1 : Nat} {L : List (Option Value)} {S S1 : List Value} {t t1 : mk_S} {o : Option (α × mk_S)}
theorem xo_newa {n : Int32} {tag j : Nat} {at_ : ArrayType} {a0 : Nat → vp_A} {f : Nat × mk_S → Option (α × mk_S)} (htag : tag = 100 + j) (hj : j < 4) (hty : newarray.typeOf at_ = mk_aty j) (hword : Cond.arrayClass (newarray.typeOf at_) ∈ lw_gw) (ha : ∀ (cA : ClassId) (N : Nat), vp_cell cA (a0 N) = arrV cA N (fun _ => defaultValue (mk_aty j))) (he : ∀ (ac ad : Nat → Nat) (N : Nat), mk_e ac ad (mk_add t [(tag, N, [])]) t.1.length (tag, N, []) = .inl (ac j, a0 N)) (hby : componentBytes (mk_aty j) ≤ 8) (hd : decode M.2.1 pc = .ok (.newarray at_, 2)) (kk : ∀ z, mk_na tag t n = some z → mk_O w M (pc + 2) L (.ref z.1 :: S) z.2 (f z)) : mk_O w M pc L (.int n :: S) t ((mk_na tag t n).bind f) := by
  refine mk_O.bind fun z hz => ?_
  have hz0 := hz
  unfold mk_na at hz
  by_cases hc : t.1.length < 900000 ∧ ¬ n < 0 ∧ n.toNatClampNeg ≤ 1000000
  · rw [if_pos hc, if_pos (by omega)] at hz
    cases hz
    refine mk_O.mk (Ks := [(tag, n.toNatClampNeg, [])]) rfl (by simp only [List.length_singleton]; omega) (fun i hi => ⟨mk_z0_old (by simp only [List.length_singleton]; omega), mk_z0_old (by simp only [List.length_singleton]; omega)⟩) (fun K hK b hb => ?_) (by simp) (fun p l e R s m args below meth c Q D ac g A H locs cells slots ls ad hC hsz hE hR hS hc1 hc2 kk => ?_) (fun v hv => List.mem_cons_of_mem _ hv) (kk _ hz0)
    · rw [List.mem_singleton.mp hK] at hb
      cases hb
    · refine va_newa (atype := at_) hC.1 hC.2.1 (hC.2.2.2.2.1 _ hword) hty hE.1 hR.1 hR.2.1 hS hE.2.2.1 (fun cA => ha cA _) hc.2.1 rfl (Nat.le_trans (Nat.mul_le_mul hc.2.2 hby) (by omega)) (by simpa using hc1) (by simpa using hc2) hd (fun q cA H1 hK1 hP hD hS1 => ?_)
      have ecA := mk_ac_of (by omega) hE.1 hK1
      subst ecA
      have hsame : mk_same ad (va_up ad t.1.length q) t.1.length := fun a ha => va_up_ne _ _ (by omega)
      have hgo := kk (va_up ad t.1.length q) H1 locs hsame (by simp only [List.mapIdx_cons, List.mapIdx_nil, Nat.add_zero, va_up_self, he]; exact hP) (by simp only [List.mapIdx_cons, List.mapIdx_nil, Nat.add_zero, va_up_self, he]; exact hD) hS1
      simp only [List.length_singleton, List.map_cons, List.map_nil, List.sum_cons, List.sum_nil, Nat.add_zero, va_up_self] at hgo
      exact hgo
  · rw [if_neg hc] at hz
    cases hz
theorem mk_add_i (t : mk_S) (K : mk_K) : (mk_add t [K]).2.1 t.1.length = fun _ => 0 := mk_z0_new (Nat.le_refl _) (by simp)
theorem mk_add_l (t : mk_S) (K : mk_K) : (mk_add t [K]).2.2 t.1.length = fun _ => 0 := mk_z0_new (Nat.le_refl _) (by simp)
theorem xo_newai {n : Int32} {f : Nat × mk_S → Option (α × mk_S)} (hword : Cond.arrayClass .int ∈ lw_gw) (hd : decode M.2.1 pc = .ok (.newarray .int, 2)) (kk : ∀ z, mk_na 100 t n = some z → mk_O w M (pc + 2) L (.ref z.1 :: S) z.2 (f z)) : mk_O w M pc L (.int n :: S) t ((mk_na 100 t n).bind f) :=
  xo_newa (at_ := .int) (j := 0) (a0 := fun N => (N, .inl (fun _ => 0))) rfl (by omega) rfl hword (fun _ _ => rfl) (fun ac ad N => by rw [mk_e_int (j := 0) rfl (Or.inl rfl), mk_add_i]) (by decide) hd kk
theorem xo_newal {n : Int32} {f : Nat × mk_S → Option (α × mk_S)} (hword : Cond.arrayClass .long ∈ lw_gw) (hd : decode M.2.1 pc = .ok (.newarray .long, 2)) (kk : ∀ z, mk_na 101 t n = some z → mk_O w M (pc + 2) L (.ref z.1 :: S) z.2 (f z)) : mk_O w M pc L (.int n :: S) t ((mk_na 101 t n).bind f) :=
  xo_newa (at_ := .long) (j := 1) (a0 := fun N => (N, .inr (.inl (fun _ => 0)))) rfl (by omega) rfl hword (fun _ _ => rfl) (fun ac ad N => by rw [mk_e_long rfl, mk_add_l]) (by decide) hd kk
theorem xo_newab {n : Int32} {f : Nat × mk_S → Option (α × mk_S)} (hword : Cond.arrayClass .byte ∈ lw_gw) (hd : decode M.2.1 pc = .ok (.newarray .byte, 2)) (kk : ∀ z, mk_na 102 t n = some z → mk_O w M (pc + 2) L (.ref z.1 :: S) z.2 (f z)) : mk_O w M pc L (.int n :: S) t ((mk_na 102 t n).bind f) :=
  xo_newa (at_ := .byte) (j := 2) (a0 := fun N => (N, .inl (fun _ => 0))) rfl (by omega) rfl hword (fun _ _ => rfl) (fun ac ad N => by rw [mk_e_int (j := 2) rfl (Or.inr (Or.inl rfl)), mk_add_i]) (by decide) hd kk
theorem xo_newaz {n : Int32} {f : Nat × mk_S → Option (α × mk_S)} (hword : Cond.arrayClass .boolean ∈ lw_gw) (hd : decode M.2.1 pc = .ok (.newarray .boolean, 2)) (kk : ∀ z, mk_na 103 t n = some z → mk_O w M (pc + 2) L (.ref z.1 :: S) z.2 (f z)) : mk_O w M pc L (.int n :: S) t ((mk_na 103 t n).bind f) :=
  xo_newa (at_ := .boolean) (j := 3) (a0 := fun N => (N, .inl (fun _ => 0))) rfl (by omega) rfl hword (fun _ _ => rfl) (fun ac ad N => by rw [mk_e_int (j := 3) rfl (Or.inr (Or.inr rfl)), mk_add_i]) (by decide) hd kk
theorem mk_rep_getD (n k : Nat) : (List.replicate n (none : Option Nat)).getD k none = none := by
  cases hz : (List.replicate n (none : Option Nat)).getD k none with
  | none => rfl
  | some b => exact (mk_rep_mem (mk_getD_mem hz)).elim
theorem xo_anew {n : Int32} {j index : Nat} {C : String} {f : Nat × mk_S → Option (α × mk_S)} (hj : 4 ≤ j) (hj2 : j < 8) (hty : mk_aty j = .object C) (hlink : Cond.classLink M.1.cls index C ∈ lw_gw) (hover : ∀ U, mk_AO U → va_AO C U) (hd : decode M.2.1 pc = .ok (.anewarray index, 3)) (kk : ∀ z, mk_na (100 + j) t n = some z → mk_O w M (pc + 3) L (.ref z.1 :: S) z.2 (f z)) : mk_O w M pc L (.int n :: S) t ((mk_na (100 + j) t n).bind f) := by
  refine mk_O.bind fun z hz => ?_
  have hz0 := hz
  unfold mk_na at hz
  by_cases hc : t.1.length < 900000 ∧ ¬ n < 0 ∧ n.toNatClampNeg ≤ 1000000
  · rw [if_pos hc, if_neg (by omega)] at hz
    cases hz
    refine mk_O.mk (Ks := [(100 + j, n.toNatClampNeg, List.replicate n.toNatClampNeg none)]) rfl (by simp only [List.length_singleton]; omega) (fun i hi => ⟨mk_z0_old (by simp only [List.length_singleton]; omega), mk_z0_old (by simp only [List.length_singleton]; omega)⟩) (fun K hK b hb => ?_) (by simp) (fun p l e R s m args below meth c Q D ac g A H locs cells slots ls ad hC hsz hE hR hS hc1 hc2 kk => ?_) (fun v hv => List.mem_cons_of_mem _ hv) (kk _ hz0)
    · rw [List.mem_singleton.mp hK] at hb
      exact (mk_rep_mem hb).elim
    · refine va_newq (C := C) hC.1 hC.2.1 hC.2.2.2.1 (hC.2.2.2.2.1 _ hlink) (hover _ hE.2.2.2.2.2.2.2) hE.1 hR.1 hR.2.1 hS hE.2.2.1 hc.2.1 rfl (by omega) (by simpa using hc1) (by simpa using hc2) hd (fun q cA H1 hK1 hP hD hS1 => ?_)
      rw [← hty] at hK1
      have ecA := mk_ac_of hj2 hE.1 hK1
      subst ecA
      have he : ∀ ad1, mk_e ac ad1 (mk_add t [(100 + j, n.toNatClampNeg, List.replicate n.toNatClampNeg none)]) t.1.length (100 + j, n.toNatClampNeg, List.replicate n.toNatClampNeg none) = .inl (ac j, n.toNatClampNeg, .inr (.inr (.inr (.inr (fun _ => none))))) := by
        intro ad1
        rw [mk_e_ref rfl hj]
        simp only [mk_rep_getD, Option.map_none]
      have hsame : mk_same ad (va_up ad t.1.length q) t.1.length := fun a ha => va_up_ne _ _ (by omega)
      have hgo := kk (va_up ad t.1.length q) H1 locs hsame (by simp only [List.mapIdx_cons, List.mapIdx_nil, Nat.add_zero, va_up_self, he]; exact hP) (by simp only [List.mapIdx_cons, List.mapIdx_nil, Nat.add_zero, va_up_self, he]; exact hD) hS1
      simp only [List.length_singleton, List.map_cons, List.map_nil, List.sum_cons, List.sum_nil, Nat.add_zero, va_up_self] at hgo
      exact hgo
  · rw [if_neg hc] at hz
    cases hz
/-- aastore -/
def mk_sta (tag ci : Nat) (t : mk_S) (a : Nat) (i : Int32) (b : Nat) : Option mk_S := match t.1[a]?, t.1[b]? with
  | some K, some J => if K.1 = tag ∧ J.1 = ci ∧ ¬ (i < 0 ∨ K.2.1 ≤ i.toNatClampNeg) ∧ i.toNatClampNeg < K.2.2.length then some (t.1.set a (K.1, K.2.1, K.2.2.set i.toNatClampNeg (some b)), t.2.1, t.2.2) else none
  | _, _ => none
theorem mk_sta_spec {tag ci a b : Nat} {i : Int32} (h : mk_sta tag ci t a i b = some t1) : ∃ K J, t.1[a]? = some K ∧ t.1[b]? = some J ∧ (K.1 = tag ∧ J.1 = ci ∧ ¬ (i < 0 ∨ K.2.1 ≤ i.toNatClampNeg) ∧ i.toNatClampNeg < K.2.2.length) ∧ t1 = (t.1.set a (K.1, K.2.1, K.2.2.set i.toNatClampNeg (some b)), t.2.1, t.2.2) := by
  unfold mk_sta at h
  cases hK : t.1[a]? with
  | none => rw [hK] at h; cases h
  | some K =>
    cases hJ : t.1[b]? with
    | none => rw [hK, hJ] at h; cases h
    | some J =>
      rw [hK, hJ] at h
      simp only at h
      by_cases hc : K.1 = tag ∧ J.1 = ci ∧ ¬ (i < 0 ∨ K.2.1 ≤ i.toNatClampNeg) ∧ i.toNatClampNeg < K.2.2.length
      · rw [if_pos hc] at h
        exact ⟨K, J, rfl, rfl, hc, (Option.some.inj h).symm⟩
      · rw [if_neg hc] at h; cases h
theorem mk_sn_set {a : Nat} {K K1 : mk_K} (hK : t.1[a]? = some K) (he : K1.2.1 = K.2.1) : (((t.1.set a K1).map (fun K => K.2.1)).sum) = ((t.1.map (fun K => K.2.1)).sum) := by
  have : (t.1.set a K1).map (fun K => K.2.1) = t.1.map (fun K => K.2.1) := by
    apply List.ext_getElem?
    intro i
    rw [List.getElem?_map, List.getElem?_map]
    by_cases e : a = i
    · subst e
      rw [List.getElem?_set, hK]
      simp [mk_lt_of hK, he]
    · rw [List.getElem?_set_ne e]
  rw [this]
theorem mk_set_mem2 {l : List (Option Nat)} {k b c n : Nat} (h : some c ∈ l.set k (some b)) (hl : ∀ x, some x ∈ l → x < n) (hb : b < n) : c < n := by
  rcases List.mem_or_eq_of_mem_set h with q | q
  · exact hl c q
  · cases q
    exact hb
theorem mk_set_getD {l : List (Option Nat)} {k j b : Nat} (hk : k < l.length) : (l.set k (some b)).getD j none = if j = k then some b else l.getD j none := by
  rw [List.getD_eq_getElem?_getD, List.getD_eq_getElem?_getD]
  by_cases e : k = j
  · subst e
    simp [hk]
  · rw [List.getElem?_set_ne e, if_neg (Ne.symm e)]
theorem xo_aast {a b j ci : Nat} {i : Int32} {C : String} {T : u_T} {N : Nat} {f : mk_S → Option (α × mk_S)} (hj : 4 ≤ j) (hj2 : j < 8) (hcl : vwCl[ci]? = some (C, T, N)) (hty : mk_aty j = .object C) (hd : decode M.2.1 pc = .ok (.aastore, 1)) (kk : ∀ t1, mk_O w M (pc + 1) L S t1 (f t1)) : mk_O w M pc L (.ref b :: .int i :: .ref a :: S) t ((mk_sta (100 + j) ci t a i b).bind f) := by
  refine mk_O.bind fun y hy => ?_
  obtain ⟨K, J, hK, hJ, ⟨c1, c2, c3, c4⟩, e⟩ := mk_sta_spec hy
  subst e
  refine mk_O.wr (t1 := (t.1.set a (K.1, K.2.1, K.2.2.set i.toNatClampNeg (some b)), t.2.1, t.2.2)) (fun p l e R s m args below meth c Q D ac g A H locs cells slots ls ad hC hsz hE hR hS hf _ _ kk => ?_) (by simp) (mk_sn_set hK rfl) (fun n h => h.pop.pop.pop) (kk _)
  have hatA := hR.at hK
  rw [mk_e_ref c1 hj] at hatA
  have hatB := hR.at hJ
  rw [mk_e_obj c2 (mk_cl_lt hcl)] at hatB
  have ht := mk_tys_at ac hj2
  rw [hty] at ht
  refine va_astq hC.1 hC.2.1 hE.1 hR.1 hR.2.1 hS a j b ci hatA (r := (C, T, N)) ht hatB hcl c3 hd (fun H1 locs1 hP hD hS1 => kk H1 locs1 ?_ hS1)
  have e : mk_e ac ad (t.1.set a (K.1, K.2.1, K.2.2.set i.toNatClampNeg (some b)), t.2.1, t.2.2) a (K.1, K.2.1, K.2.2.set i.toNatClampNeg (some b)) = .inl (ac j, K.2.1, .inr (.inr (.inr (.inr (va_up (fun q => (K.2.2.getD q none).map ad) i.toNatClampNeg (some (ad b))))))) := by
    rw [mk_e_ref (j := j) (K := (K.1, K.2.1, K.2.2.set i.toNatClampNeg (some b))) c1 hj]
    congr 7
    funext q
    simp only [mk_set_getD c4, va_up]
    by_cases hq : q = i.toNatClampNeg <;> simp [hq]
  exact hR.set (a := a) (K1 := (K.1, K.2.1, K.2.2.set i.toNatClampNeg (some b))) rfl (fun _ _ => ⟨rfl, rfl⟩) (mk_lt_of hK) (fun x hx => mk_set_mem2 hx (hR.2.2.1 K (List.mem_of_getElem? hK)) (mk_lt_of hJ)) (by rw [e]; exact hP) (by rw [e]; exact hD)
/-- a final reference field is set in its constructor -/
theorem xo_puta {index ci k a b : Nat} {ty : FieldType} {f : mk_S → Option (α × mk_S)} (hd : decode M.2.1 pc = .ok (.putfield index, 3)) (hcl : mk_CL ci) (hl : ∃ (C : String) (T : u_T) (N : Nat), vwCl[ci]? = some (C, T, N) ∧ k < N ∧ Cond.fieldLink M.1.cls index C (T k).2.1 (T k).2.2.1 ∈ lw_gw) (hr : mk_isR ci k = true) (hty : mk_FT ci k true ty) (hn : ∀ x, narrow ty (.ref x) = .ref x) (hfit : ∀ x, fits ty (.ref x) = true) (hini : M.1.name = "<init>") (hown : (vwCl[ci]?).map (fun q => q.1) = some M.1.cls) (kk : ∀ t1, mk_O w M (pc + 3) L S t1 (f t1)) : mk_O w M pc L (.ref b :: .ref a :: S) t ((mk_pa t a ci k b).bind (fun t1 => if b < t.1.length then f t1 else none)) := by
  refine mk_O.bind fun y hy => ?_
  by_cases hbl : b < t.1.length
  · rw [if_pos hbl]
    obtain ⟨K, hK, c1, c2, c3, e⟩ := mk_pa_spec hy
    subst e
    obtain ⟨C, T, N, ty0, h1, h2, h3, h4, h5, -⟩ := hcl
    obtain ⟨C2, T2, N2, g1, g2, g3⟩ := hl
    obtain ⟨C3, T3, N3, f1, f2, f3⟩ := hty
    cases h1.symm.trans g1
    cases h1.symm.trans f1
    rw [h1] at hown
    have hown : C = M.1.cls := Option.some.inj hown
    refine mk_O.wr (t1 := (t.1.set a (K.1, K.2.1, K.2.2.set k (some b)), t.2.1, t.2.2)) (fun p l e R s m args below meth c Q D ac g A H locs cells slots ls ad hC hsz hE hR hS hf _ _ kk => ?_) (by simp) (mk_sn_set hK rfl) (fun n h => h.pop.pop) (kk _)
    have hat := hR.at hK
    rw [mk_e_obj c1 (mk_cl_lt h1)] at hat
    have key : ∀ H1 locs1, va_P D vwCl ((mk_ws ac ad t).set a (ad a, .inr (ci, (mk_fs ad t a K).set k (.ref (ad b))))) H1 → va_D A ((mk_ws ac ad t).set a (ad a, .inr (ci, (mk_fs ad t a K).set k (.ref (ad b))))) → va_S A s.heap H1 locs1 → W p l e R s m args below meth c H1 locs1 cells slots Q (F0 m (pc + 3) ls (S.map (mk_tr ad))) := by
      intro H1 locs1 hP1 hD1 hS1
      have e : mk_e ac ad (t.1.set a (K.1, K.2.1, K.2.2.set k (some b)), t.2.1, t.2.2) a (K.1, K.2.1, K.2.2.set k (some b)) = .inr (ci, (mk_fs ad t a K).set k (.ref (ad b))) := by
        rw [mk_e_obj (ci := ci) (K := (K.1, K.2.1, K.2.2.set k (some b))) c1 (mk_cl_lt h1)]
        congr 2
        apply List.ext_getElem?
        intro i
        unfold mk_fs
        by_cases e : k = i
        · subst e
          simp only [List.getElem?_map]
          rw [List.getElem?_set]
          simp only [List.length_map, List.length_range, c2, if_true, List.getElem?_range c2, Option.map_some, mk_set_getD c3]
          rw [c1, hr]
          rfl
        · rw [List.getElem?_set_ne e]
          by_cases hl2 : i < K.2.1
          · simp [hl2, List.getElem?_set_ne e]
          · simp [hl2]
      refine kk H1 locs1 (hR.set (a := a) (K1 := (K.1, K.2.1, K.2.2.set k (some b))) rfl (fun _ _ => ⟨rfl, rfl⟩) (mk_lt_of hK) (fun x hx => mk_set_mem2 hx (hR.2.2.1 K (List.mem_of_getElem? hK)) hbl) (by rw [e]; exact hP1) (by rw [e]; exact hD1)) hS1
    exact va_putF (Ts := lw_gw) (ty := ty) (v := .ref (ad b)) hC.1 hC.2.1 hC.2.2.2.2.1 h2 ty0 h3 h4 hC.2.2.2.1 hE.1 hR.1 hR.2.1 hS a hat h1 k g2 (hC.2.2.2.2.1 _ g3) (fun x hx => by rw [h5 k g2] at hx; exact hx) f2 (hC.2.2.2.2.2.1 hini) (by rw [h5 k g2]; exact hown) f3 (hn _) (hfit _) (by rw [mk_fs_len]; exact c2) hd key
  · rw [if_neg hbl]
    exact mk_O.none
end MKN2
