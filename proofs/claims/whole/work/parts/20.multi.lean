section MKQ
variable {α : Type} {w : α → Option Value} {M : mk_M} {pc pc1 : Nat} {L : List (Option Value)} {S S1 : List Value} {t t1 : mk_S} {o : Option (α × mk_S)}
def mk_mK (len n k : Nat) : List mk_K := (107, n, (List.range n).map (fun i => some (len + 1 + i))) :: List.replicate n (100, k, [])
/-- new int[n][k] -/
def mk_mna (t : mk_S) (n k : Int32) : Option (Nat × mk_S) := if t.1.length < 900000 ∧ ¬ n < 0 ∧ n.toNatClampNeg ≤ 1000 ∧ ¬ k < 0 ∧ k.toNatClampNeg ≤ 1000 then some (t.1.length, mk_add t (mk_mK t.1.length n.toNatClampNeg k.toNatClampNeg)) else none
theorem mk_refs_getD (len n j : Nat) : ((List.range n).map (fun i => some (len + 1 + i))).getD j none = if j < n then some (len + 1 + j) else none := by
  rw [List.getD_eq_getElem?_getD]
  by_cases h : j < n <;> simp [h]
theorem mk_mK_idx (ac ad1 : Nat → Nat) (t1 : mk_S) (len n k q : Nat) (r : Nat → Nat) (hq : ad1 len = q) (hr : ∀ i, i < n → ad1 (len + 1 + i) = r i) (hz : ∀ i, i < n → t1.2.1 (len + 1 + i) = fun _ => 0) : (mk_mK len n k).mapIdx (fun j K => (ad1 (len + j), mk_e ac ad1 t1 (len + j) K)) = (q, .inl (ac 7, n, .inr (.inr (.inr (.inr (fun i => if i < n then some (r i) else none)))))) :: ((List.range n).map r).map (fun a => (a, (.inl (ac 0, k, .inl (fun _ => 0)) : va_E))) := by
  unfold mk_mK
  rw [List.mapIdx_cons]
  congr 1
  · rw [Nat.add_zero, hq, mk_e_ref (j := 7) rfl (by omega)]
    congr 8
    funext i
    simp only [mk_refs_getD]
    by_cases hi : i < n
    · rw [if_pos hi, if_pos hi]
      exact congrArg some (hr i hi)
    · rw [if_neg hi, if_neg hi]
      rfl
  · apply List.ext_getElem?
    intro i
    rw [List.getElem?_mapIdx, List.getElem?_replicate, List.getElem?_map, List.getElem?_map]
    by_cases hi : i < n
    · rw [if_pos hi, List.getElem?_range hi]
      simp only [Option.map_some]
      have e : len + (i + 1) = len + 1 + i := by omega
      rw [e, hr i hi, mk_e_int (j := 0) rfl (Or.inl rfl), hz i hi]
    · rw [if_neg hi, List.getElem?_eq_none (by simp; omega)]
      rfl
theorem xo_mna {n k : Int32} {index : Nat} {f : Nat × mk_S → Option (α × mk_S)} (hlink : Cond.classLink M.1.cls index ("[" ++ (FieldType.array .int).toString) ∈ lw_gw) (harr : Cond.arrayClass .int ∈ lw_gw) (hd : decode M.2.1 pc = .ok (.multianewarray index 2, 4)) (kk : ∀ z, mk_mna t n k = some z → mk_O w M (pc + 4) L (.ref z.1 :: S) z.2 (f z)) : mk_O w M pc L (.int k :: .int n :: S) t ((mk_mna t n k).bind f) := by
  refine mk_O.bind fun z hz => ?_
  have hz0 := hz
  unfold mk_mna at hz
  by_cases hc : t.1.length < 900000 ∧ ¬ n < 0 ∧ n.toNatClampNeg ≤ 1000 ∧ ¬ k < 0 ∧ k.toNatClampNeg ≤ 1000
  · rw [if_pos hc] at hz
    cases hz
    have hKl : (mk_mK t.1.length n.toNatClampNeg k.toNatClampNeg).length = 1 + n.toNatClampNeg := by simp [mk_mK, Nat.add_comm]
    have hKs : ((mk_mK t.1.length n.toNatClampNeg k.toNatClampNeg).map (fun K => K.2.1)).sum = n.toNatClampNeg + n.toNatClampNeg * k.toNatClampNeg := by simp [mk_mK]
    refine mk_O.mk (Ks := mk_mK t.1.length n.toNatClampNeg k.toNatClampNeg) rfl (by rw [hKl]; omega) (fun i hi => ⟨mk_z0_old (by rw [hKl]; omega), mk_z0_old (by rw [hKl]; omega)⟩) (fun K hK b hb => ?_) (by rw [hKl]; omega) (fun p l e R s m args below meth c Q D ac g A H locs cells slots ls ad hC hsz hE hR hS hc1 hc2 kk => ?_) (fun v hv => List.mem_cons_of_mem _ (List.mem_cons_of_mem _ hv)) (kk _ hz0)
    · rw [hKl]
      rcases List.mem_cons.mp hK with q | q
      · subst q
        obtain ⟨i, hi, e⟩ := List.mem_map.mp hb
        have := List.mem_range.mp hi
        cases e
        omega
      · rw [(List.mem_replicate.mp q).2] at hb
        cases hb
    · rw [hKl] at hc1
      rw [hKs] at hc2
      have hra := (hE.1.2 0 _ (mk_tys_at ac (j := 0) (by omega))).2
      refine va_mna (X := mk_ws ac ad t) (L := []) (f := fun _ => .inr (0, [])) (ty := .int) (cy := ac 0) (z := (k.toNatClampNeg, .inl (fun _ => 0))) hC.1 hC.2.1 hC.2.2.2.1 (hC.2.2.2.2.1 _ hlink) hE.2.2.2.2.2.2.2.2.2.2 (hC.2.2.2.2.1 _ harr) hra hE.1 (by show va_P D vwCl (mk_ws ac ad t ++ []) H; rw [List.append_nil]; exact hR.1) (by show va_D A (mk_ws ac ad t ++ []); rw [List.append_nil]; exact hR.2.1) hS hE.2.2.1 hc.2.1 hc.2.2.2.1 rfl rfl (by omega) (Nat.le_trans (Nat.mul_le_mul_right _ hc.2.2.2.2) (by decide)) (by omega) rfl rfl hc1 hc2 (fun c9 => by rw [vp_cell_i, ← arrV_new]; rfl) hd (fun q r cA H1 hinj hnl hK1 hP hD hS1 => ?_)
      have ecA := mk_ac_of (j := 7) (by omega) hE.1 hK1
      subst ecA
      have hsame : mk_same ad (fun i => if i = t.1.length then q else if t.1.length < i ∧ i ≤ t.1.length + n.toNatClampNeg then r (i - t.1.length - 1) else ad i) t.1.length := by
        intro a ha
        simp only
        rw [if_neg (by omega), if_neg (by omega)]
      have hix := mk_mK_idx ac (fun i => if i = t.1.length then q else if t.1.length < i ∧ i ≤ t.1.length + n.toNatClampNeg then r (i - t.1.length - 1) else ad i) (mk_add t (mk_mK t.1.length n.toNatClampNeg k.toNatClampNeg)) t.1.length n.toNatClampNeg k.toNatClampNeg q r (by simp) (fun i hi => by rw [if_neg (by omega), if_pos (by omega)]; congr 1; omega) (fun i hi => mk_z0_new (by omega) (by rw [hKl]; omega))
      have hrw : ∀ (hd0 : Nat × va_E), (mk_ws ac ad t ++ [hd0]) ++ va_pl ([] ++ (List.range n.toNatClampNeg).map r) (vr_up (fun _ => .inr (0, [])) ((List.range n.toNatClampNeg).map r) (.inl (ac 0, k.toNatClampNeg, .inl (fun _ => 0)))) = mk_ws ac ad t ++ (hd0 :: ((List.range n.toNatClampNeg).map r).map (fun a => (a, (.inl (ac 0, k.toNatClampNeg, .inl (fun _ => 0)) : va_E)))) := by
        intro hd0
        rw [List.append_assoc, List.nil_append]
        congr 1
        show _ :: _ = _
        congr 1
        unfold va_pl
        apply List.map_congr_left
        intro a ha
        rw [vr_up_in ha]
      rw [hrw] at hP hD
      have hgo := kk _ H1 locs hsame (by rw [hix]; exact hP) (by rw [hix]; exact hD) hS1
      rw [hKl, hKs] at hgo
      simp only [if_true] at hgo
      rw [show cells + (1 + n.toNatClampNeg) = cells + 1 + n.toNatClampNeg by omega, show slots + (n.toNatClampNeg + n.toNatClampNeg * k.toNatClampNeg) = slots + n.toNatClampNeg + n.toNatClampNeg * k.toNatClampNeg by omega] at hgo
      exact hgo
  · rw [if_neg hc] at hz
    cases hz
end MKQ
