/-! the start: step by step -/
set_option maxRecDepth 4000 in
theorem naP {β : Type} {pre rest rest' : List mk_K} {c N tag s j k : Nat} {l l' R : List (Option Nat)} {m : Nat → Nat → Int32} {q : Nat → Nat → Int64} {G : mk_S → Option β} {r : Option β} (h : pre.length < 800000) (hk : rest.length + 1 = k) (hk2 : k ≤ 90000) (hs : s ≤ 1000000) (hR : (if tag < 104 then [] else List.replicate s none) = R) (hj : j < N) (hl : l.length = N) (hl' : l.set j (some (pre.length + k)) = l') (hr : rest ++ [(tag, s, R)] = rest') (hG : G (pre ++ (c, N, l') :: rest', mk_z0 m (pre.length + k) 1 0, mk_z0 q (pre.length + k) 1 0) = r) : ((mk_na tag (pre ++ (c, N, l) :: rest, m, q) (nI s)).bind fun z => (mk_pa z.2 pre.length c j z.1).bind fun t => if z.1 < z.2.1.length then G t else none) = r := by
  have hb : Nat.ble rest.length 90000 = true := Nat.ble_eq_true_of_le (by omega)
  rw [naS h hb hs, ob_some, hR, hk]
  show ((mk_pa (pre ++ (c, N, l) :: (rest ++ [(tag, s, R)]), _, _) pre.length c j (pre.length + k)).bind fun t => if pre.length + k < (pre ++ (c, N, l) :: (rest ++ [(tag, s, R)])).length then G t else none) = r
  rw [paS hj hl, ob_some]
  show (if pre.length + k < (pre ++ (c, N, l) :: (rest ++ [(tag, s, R)])).length then _ else none) = r
  rw [if_pos (by rw [List.length_append, List.length_cons, List.length_append, List.length_cons]; omega), hl', hr]
  exact hG
set_option maxRecDepth 4000 in
theorem newP {β : Type} {pre rest rest' S : List mk_K} {c N ci N' j k : Nat} {l l' : List (Option Nat)} {m m1 : Nat → Nat → Int32} {q q1 : Nat → Nat → Int64} {F : Nat → mk_S → Option (Unit × mk_S)} {G : mk_S → Option β} {r : Option β} (h : pre.length < 800000) (hk : rest.length + 1 = k) (hk2 : k ≤ 90000) (hF : F (pre.length + k) (pre ++ (c, N, l) :: rest ++ [(ci, N', List.replicate N' none)], mk_z0 m (pre.length + k) 1 0, mk_z0 q (pre.length + k) 1 0) = some ((), (pre ++ (c, N, l) :: rest ++ S, m1, q1))) (hS : 0 < S.length) (hj : j < N) (hl : l.length = N) (hl' : l.set j (some (pre.length + k)) = l') (hr : rest ++ S = rest') (hG : G (pre ++ (c, N, l') :: rest', m1, q1) = r) : ((mk_new (pre ++ (c, N, l) :: rest, m, q) ci N').bind fun z => (F z.1 z.2).bind fun z2 => (mk_pa z2.2 pre.length c j z.1).bind fun t => if z.1 < z2.2.1.length then G t else none) = r := by
  have e : (pre ++ (c, N, l) :: rest).length = pre.length + k := by rw [List.length_append, List.length_cons, hk]
  have hn := newL (L := pre ++ (c, N, l) :: rest) (m := m) (q := q) (ci := ci) (N := N') (by rw [e]; omega)
  rw [e] at hn
  rw [hn, ob_some]
  show ((F (pre.length + k) (pre ++ (c, N, l) :: rest ++ [(ci, N', List.replicate N' none)], mk_z0 m (pre.length + k) 1 0, mk_z0 q (pre.length + k) 1 0)).bind fun z2 => (mk_pa z2.2 pre.length c j (pre.length + k)).bind fun t => if pre.length + k < z2.2.1.length then G t else none) = r
  rw [hF, ob_some, List.append_assoc, List.cons_append]
  show ((mk_pa (pre ++ (c, N, l) :: (rest ++ S), m1, q1) pre.length c j (pre.length + k)).bind fun t => if pre.length + k < (pre ++ (c, N, l) :: (rest ++ S)).length then G t else none) = r
  rw [paS hj hl, ob_some]
  show (if pre.length + k < (pre ++ (c, N, l) :: (rest ++ S)).length then _ else none) = r
  rw [if_pos (by rw [List.length_append, List.length_cons, List.length_append]; omega), hl', hr]
  exact hG
set_option maxRecDepth 4000 in
theorem piP {β : Type} {pre rest : List mk_K} {c N j : Nat} {l : List (Option Nat)} {m : Nat → Nat → Int32} {q : Nat → Nat → Int64} {v : Int32} {G : mk_S → Option β} {r : Option β} (hj : j < N) (hG : G (pre ++ (c, N, l) :: rest, mk_u2 m pre.length j v, q) = r) : (mk_pi (pre ++ (c, N, l) :: rest, m, q) pre.length c j v).bind G = r := by
  rw [piS hj, ob_some]
  exact hG
set_option maxRecDepth 4000 in
theorem mKl (n : Nat) : (mk_mK n 7 36).length = 8 := rfl
set_option maxRecDepth 4000 in
theorem mnaP {β : Type} {pre rest rest' : List mk_K} {c N j k : Nat} {l l' : List (Option Nat)} {m : Nat → Nat → Int32} {q : Nat → Nat → Int64} {G : mk_S → Option β} {r : Option β} (h : pre.length < 800000) (hk : rest.length + 1 = k) (hk2 : k ≤ 90000) (hj : j < N) (hl : l.length = N) (hl' : l.set j (some (pre.length + k)) = l') (hr : rest ++ mk_mK (pre.length + k) 7 36 = rest') (hG : G (pre ++ (c, N, l') :: rest', mk_z0 m (pre.length + k) 8 0, mk_z0 q (pre.length + k) 8 0) = r) : ((mk_mna (pre ++ (c, N, l) :: rest, m, q) (nI 7) (nI 36)).bind fun z => (mk_pa z.2 pre.length c j z.1).bind fun t => if z.1 < z.2.1.length then G t else none) = r := by
  have e7 : (nI 7).toNatClampNeg = 7 := nI_clamp (by omega)
  have e36 : (nI 36).toNatClampNeg = 36 := nI_clamp (by omega)
  have el : (pre ++ (c, N, l) :: rest).length = pre.length + k := by rw [List.length_append, List.length_cons, hk]
  have hn : mk_mna (pre ++ (c, N, l) :: rest, m, q) (nI 7) (nI 36) = some (pre.length + k, (pre ++ (c, N, l) :: (rest ++ mk_mK (pre.length + k) 7 36), mk_z0 m (pre.length + k) 8 0, mk_z0 q (pre.length + k) 8 0)) := by
    unfold mk_mna mk_add
    show (if (pre ++ (c, N, l) :: rest).length < 900000 ∧ _ then _ else _) = _
    rw [el, e7, e36, if_pos ⟨by omega, nI_pos (by omega), by omega, nI_pos (by omega), by omega⟩, mKl]
    show some (_, (pre ++ (c, N, l) :: rest ++ _, _, _)) = _
    rw [List.append_assoc, List.cons_append]
  rw [hn, ob_some]
  show ((mk_pa (pre ++ (c, N, l) :: (rest ++ mk_mK (pre.length + k) 7 36), _, _) pre.length c j (pre.length + k)).bind fun t => if pre.length + k < (pre ++ (c, N, l) :: (rest ++ mk_mK (pre.length + k) 7 36)).length then G t else none) = r
  rw [paS hj hl, ob_some]
  show (if pre.length + k < (pre ++ (c, N, l) :: (rest ++ mk_mK (pre.length + k) 7 36)).length then _ else none) = r
  rw [if_pos (by rw [List.length_append, List.length_cons, List.length_append, mKl]; omega), hl', hr]
  exact hG
def T2 (n : Nat) : List mk_K := S9 (n + 185) ++ (S7 (n + 187) ++ ((100, 36, []) :: (100, 6, []) :: (100, 16, []) :: (100, 16, []) :: mk_mK (n + 199) 7 36))
set_option maxRecDepth 4000 in
theorem T2l (n : Nat) : (T2 n).length = 22 := by
  unfold T2
  rw [List.length_append, List.length_append, List.length_cons, List.length_cons, List.length_cons, List.length_cons, mKl, S9l, S7l]
def S2 (n : Nat) : List mk_K := (2, 14, [some (n + 1), some (n + 184), none, some (n + 185), some (n + 187), some (n + 195), some (n + 196), some (n + 197), some (n + 198), some (n + 199), none, none, none, none]) :: (W10 (n + 1) ++ (105, 6, rfK 6 7 (n + 207) 6) :: (T2 n ++ OB S5 7 (n + 207) 6))
set_option maxRecDepth 4000 in
theorem S2l (n : Nat) : (S2 n).length = 249 := by
  show (W10 (n + 1) ++ (105, 6, rfK 6 7 (n + 207) 6) :: (T2 n ++ OB S5 7 (n + 207) 6)).length + 1 = 249
  rw [List.length_append, List.length_cons, List.length_append, W10l, T2l, OBl S5l]
set_option maxRecDepth 4000 in
theorem i_X2 (pre : List mk_K) (m : Nat → Nat → Int32) (q : Nat → Nat → Int64) (hl : pre.length < 3000) (hz : ∀ k, m pre.length k = 0) : ∃ m1 q1, F_X2_init pre.length (pre ++ [(2, 14, List.replicate 14 none)], m, q) = some ((), (pre ++ S2 pre.length, m1, q1)) ∧ OU pre.length 249 m m1 ∧ m1 pre.length 2 = nI 0 ∧ (∀ a k, pre.length + 1 < a → a < pre.length + 184 → m1 a k = 0) ∧ m1 (pre.length + 1) 4 = -nI 1 ∧ m1 (pre.length + 1) 5 = nI 0 := by
  have hr : (List.replicate 14 none : List (Option Nat)) = [none, none, none, none, none, none, none, none, none, none, none, none, none, none] := rfl
  have ea : (pre ++ (2, 14, [none, none, none, none, none, none, none, none, none, none, none, none, none, none]) :: ([] : List mk_K)).length = pre.length + 1 := by simp only [List.length_append, List.length_cons, List.length_nil, S7l, S3l, S1l, S9l, S5l, S6l, S8l, W10l, mKl, T2l]
  obtain ⟨ma, qa, a1, a2, a3, a4, a5⟩ := i_X10 (pre ++ (2, 14, [none, none, none, none, none, none, none, none, none, none, none, none, none, none]) :: ([] : List mk_K)) (mk_z0 m (pre.length + 1) 1 0) (mk_z0 q (pre.length + 1) 1 0) (by rw [ea]; omega) (fun k => by rw [ea]; exact z0n k)
  rw [ea] at a1 a2 a3 a4 a5
  have eb : (pre ++ (2, 14, [some (pre.length + 1), some (pre.length + 184), none, none, none, none, none, none, none, none, none, none, none, none]) :: (W10 (pre.length + 1) ++ [(105, 6, List.replicate 6 none)])).length = pre.length + 185 := by simp only [List.length_append, List.length_cons, List.length_nil, S7l, S3l, S1l, S9l, S5l, S6l, S8l, W10l, mKl, T2l]
  obtain ⟨mb, qb, b1, b2⟩ := i_X9 (pre ++ (2, 14, [some (pre.length + 1), some (pre.length + 184), none, none, none, none, none, none, none, none, none, none, none, none]) :: (W10 (pre.length + 1) ++ [(105, 6, List.replicate 6 none)])) (mk_z0 (mk_u2 (mk_z0 ma (pre.length + 184) 1 0) pre.length 2 (nI 0)) (pre.length + 185) 1 0) (mk_z0 (mk_z0 qa (pre.length + 184) 1 0) (pre.length + 185) 1 0) (by rw [eb]; omega) (fun k => by rw [eb]; exact z0n k)
  rw [eb] at b1 b2
  have ec : (pre ++ (2, 14, [some (pre.length + 1), some (pre.length + 184), none, some (pre.length + 185), none, none, none, none, none, none, none, none, none, none]) :: (W10 (pre.length + 1) ++ (105, 6, List.replicate 6 none) :: S9 (pre.length + 185))).length = pre.length + 187 := by simp only [List.length_append, List.length_cons, List.length_nil, S7l, S3l, S1l, S9l, S5l, S6l, S8l, W10l, mKl, T2l]
  obtain ⟨mc, qc, c1, c2⟩ := i_X7 (pre ++ (2, 14, [some (pre.length + 1), some (pre.length + 184), none, some (pre.length + 185), none, none, none, none, none, none, none, none, none, none]) :: (W10 (pre.length + 1) ++ (105, 6, List.replicate 6 none) :: S9 (pre.length + 185))) (mk_z0 mb (pre.length + 187) 1 0) (mk_z0 qb (pre.length + 187) 1 0) (by rw [ec]; omega) (fun k => by rw [ec]; exact z0n k)
  rw [ec] at c1 c2
  obtain ⟨md, qd, d1, d2⟩ := l_X2 (A := pre ++ (2, 14, [some (pre.length + 1), some (pre.length + 184), none, some (pre.length + 185), some (pre.length + 187), some (pre.length + 195), some (pre.length + 196), some (pre.length + 197), some (pre.length + 198), some (pre.length + 199), none, none, none, none]) :: W10 (pre.length + 1)) (R0 := T2 pre.length) (n := pre.length) (b := pre.length + 207) (fun rest m q => by rw [List.append_assoc, List.cons_append, gaS (by omega), List.length_append, List.length_cons, W10l]; rfl) (by rw [List.length_append, List.length_cons, W10l, T2l]) (by omega) 6 0 mk_fu (mk_u2 (mk_u2 (mk_u2 (mk_u2 (mk_z0 (mk_z0 (mk_z0 (mk_z0 (mk_z0 mc (pre.length + 195) 1 0) (pre.length + 196) 1 0) (pre.length + 197) 1 0) (pre.length + 198) 1 0) (pre.length + 199) 8 0) pre.length 10 (-nI 1)) pre.length 11 (nI 0)) pre.length 12 (nI 0)) pre.length 13 (nI 0)) (mk_z0 (mk_z0 (mk_z0 (mk_z0 (mk_z0 qc (pre.length + 195) 1 0) (pre.length + 196) 1 0) (pre.length + 197) 1 0) (pre.length + 198) 1 0) (pre.length + 199) 8 0) (by omega) (by rw [mk_fu_eq]; omega)
  rw [rfK_0] at d1
  have hfar : ∀ a, a ≠ pre.length → a < pre.length + 184 ∨ pre.length + 249 ≤ a → md a = ma a := fun a h1 h2 => by
    rw [d2.1 a (by omega), mk_u2_ne h1, mk_u2_ne h1, mk_u2_ne h1, mk_u2_ne h1, mk_z0_old (by omega), mk_z0_old (by omega), mk_z0_old (by omega), mk_z0_old (by omega), mk_z0_old (by omega), c2.1 a (by omega), mk_z0_old (by omega), b2.1 a (by omega), mk_z0_old (by omega), mk_u2_ne h1, mk_z0_old (by omega)]
  refine ⟨md, qd, ?_, fun a ha => ?_, ?_, fun a k h1 h2 => ?_, ?_, ?_⟩
  · rw [hr]
    unfold F_X2_init
    simp only [lit]
    rw [gdS]
    refine newP (F := F_X10_init) (k := 1) (l' := [some (pre.length + 1), none, none, none, none, none, none, none, none, none, none, none, none, none]) (rest' := (W10 (pre.length + 1))) (by omega) (by simp only [List.length_append, List.length_cons, List.length_nil, S7l, S3l, S1l, S9l, S5l, S6l, S8l, W10l, mKl, T2l]) (by omega) a1 (by simp only [List.length_append, List.length_cons, List.length_nil, S7l, S3l, S1l, S9l, S5l, S6l, S8l, W10l, mKl, T2l]; omega) (by omega) rfl rfl (by simp only [List.append_assoc, List.cons_append, List.nil_append]) ?_
    refine naP (k := 184) (R := List.replicate 6 none) (l' := [some (pre.length + 1), some (pre.length + 184), none, none, none, none, none, none, none, none, none, none, none, none]) (rest' := (W10 (pre.length + 1) ++ [(105, 6, List.replicate 6 none)])) (by omega) (by simp only [List.length_append, List.length_cons, List.length_nil, S7l, S3l, S1l, S9l, S5l, S6l, S8l, W10l, mKl, T2l]) (by omega) (by omega) rfl (by omega) rfl rfl (by simp only [List.append_assoc, List.cons_append, List.nil_append]) ?_
    refine piP (by omega) ?_
    refine newP (F := F_X9_init) (k := 185) (l' := [some (pre.length + 1), some (pre.length + 184), none, some (pre.length + 185), none, none, none, none, none, none, none, none, none, none]) (rest' := (W10 (pre.length + 1) ++ (105, 6, List.replicate 6 none) :: S9 (pre.length + 185))) (by omega) (by simp only [List.length_append, List.length_cons, List.length_nil, S7l, S3l, S1l, S9l, S5l, S6l, S8l, W10l, mKl, T2l]) (by omega) b1 (by simp only [List.length_append, List.length_cons, List.length_nil, S7l, S3l, S1l, S9l, S5l, S6l, S8l, W10l, mKl, T2l]; omega) (by omega) rfl rfl (by simp only [List.append_assoc, List.cons_append, List.nil_append]) ?_
    refine newP (F := F_X7_init) (k := 187) (l' := [some (pre.length + 1), some (pre.length + 184), none, some (pre.length + 185), some (pre.length + 187), none, none, none, none, none, none, none, none, none]) (rest' := (W10 (pre.length + 1) ++ (105, 6, List.replicate 6 none) :: (S9 (pre.length + 185) ++ S7 (pre.length + 187)))) (by omega) (by simp only [List.length_append, List.length_cons, List.length_nil, S7l, S3l, S1l, S9l, S5l, S6l, S8l, W10l, mKl, T2l]) (by omega) c1 (by simp only [List.length_append, List.length_cons, List.length_nil, S7l, S3l, S1l, S9l, S5l, S6l, S8l, W10l, mKl, T2l]; omega) (by omega) rfl rfl (by simp only [List.append_assoc, List.cons_append, List.nil_append]) ?_
    refine naP (k := 195) (R := []) (l' := [some (pre.length + 1), some (pre.length + 184), none, some (pre.length + 185), some (pre.length + 187), some (pre.length + 195), none, none, none, none, none, none, none, none]) (rest' := (W10 (pre.length + 1) ++ (105, 6, List.replicate 6 none) :: (S9 (pre.length + 185) ++ (S7 (pre.length + 187) ++ [(100, 36, [])])))) (by omega) (by simp only [List.length_append, List.length_cons, List.length_nil, S7l, S3l, S1l, S9l, S5l, S6l, S8l, W10l, mKl, T2l]) (by omega) (by omega) rfl (by omega) rfl rfl (by simp only [List.append_assoc, List.cons_append, List.nil_append]) ?_
    refine naP (k := 196) (R := []) (l' := [some (pre.length + 1), some (pre.length + 184), none, some (pre.length + 185), some (pre.length + 187), some (pre.length + 195), some (pre.length + 196), none, none, none, none, none, none, none]) (rest' := (W10 (pre.length + 1) ++ (105, 6, List.replicate 6 none) :: (S9 (pre.length + 185) ++ (S7 (pre.length + 187) ++ [(100, 36, []), (100, 6, [])])))) (by omega) (by simp only [List.length_append, List.length_cons, List.length_nil, S7l, S3l, S1l, S9l, S5l, S6l, S8l, W10l, mKl, T2l]) (by omega) (by omega) rfl (by omega) rfl rfl (by simp only [List.append_assoc, List.cons_append, List.nil_append]) ?_
    refine naP (k := 197) (R := []) (l' := [some (pre.length + 1), some (pre.length + 184), none, some (pre.length + 185), some (pre.length + 187), some (pre.length + 195), some (pre.length + 196), some (pre.length + 197), none, none, none, none, none, none]) (rest' := (W10 (pre.length + 1) ++ (105, 6, List.replicate 6 none) :: (S9 (pre.length + 185) ++ (S7 (pre.length + 187) ++ [(100, 36, []), (100, 6, []), (100, 16, [])])))) (by omega) (by simp only [List.length_append, List.length_cons, List.length_nil, S7l, S3l, S1l, S9l, S5l, S6l, S8l, W10l, mKl, T2l]) (by omega) (by omega) rfl (by omega) rfl rfl (by simp only [List.append_assoc, List.cons_append, List.nil_append]) ?_
    refine naP (k := 198) (R := []) (l' := [some (pre.length + 1), some (pre.length + 184), none, some (pre.length + 185), some (pre.length + 187), some (pre.length + 195), some (pre.length + 196), some (pre.length + 197), some (pre.length + 198), none, none, none, none, none]) (rest' := (W10 (pre.length + 1) ++ (105, 6, List.replicate 6 none) :: (S9 (pre.length + 185) ++ (S7 (pre.length + 187) ++ [(100, 36, []), (100, 6, []), (100, 16, []), (100, 16, [])])))) (by omega) (by simp only [List.length_append, List.length_cons, List.length_nil, S7l, S3l, S1l, S9l, S5l, S6l, S8l, W10l, mKl, T2l]) (by omega) (by omega) rfl (by omega) rfl rfl (by simp only [List.append_assoc, List.cons_append, List.nil_append]) ?_
    refine mnaP (k := 199) (l' := [some (pre.length + 1), some (pre.length + 184), none, some (pre.length + 185), some (pre.length + 187), some (pre.length + 195), some (pre.length + 196), some (pre.length + 197), some (pre.length + 198), some (pre.length + 199), none, none, none, none]) (rest' := (W10 (pre.length + 1) ++ (105, 6, List.replicate 6 none) :: T2 pre.length)) (by omega) (by simp only [List.length_append, List.length_cons, List.length_nil, S7l, S3l, S1l, S9l, S5l, S6l, S8l, W10l, mKl, T2l]) (by omega) (by omega) rfl rfl (by unfold T2; simp only [List.append_assoc, List.cons_append, List.nil_append]) ?_
    refine piP (by omega) ?_
    refine piP (by omega) ?_
    refine piP (by omega) ?_
    refine piP (by omega) ?_
    have e0 : OB S5 7 (pre.length + 207) 0 = [] := rfl
    rw [e0, List.append_nil, List.append_assoc, List.cons_append, List.append_assoc, List.cons_append] at d1
    unfold S2
    exact d1
  · rw [hfar a (by omega) (by omega), a2 a (by omega), mk_z0_old (by omega)]
  · rw [d2.1 _ (by omega), u2_b (by omega), u2_b (by omega), u2_b (by omega), u2_b (by omega), mk_z0_old (by omega), mk_z0_old (by omega), mk_z0_old (by omega), mk_z0_old (by omega), mk_z0_old (by omega), c2.1 _ (by omega), mk_z0_old (by omega), b2.1 _ (by omega), mk_z0_old (by omega), u2_s]
  · rw [hfar a (by omega) (by omega)]; exact a3 a k h1 (by omega)
  · rw [hfar _ (by omega) (by omega)]; exact a4
  · rw [hfar _ (by omega) (by omega)]; exact a5
set_option maxRecDepth 4000 in
theorem l_X11 {A R0 : List mk_K} {n b : Nat} (hga : ∀ rest m q, mk_ga (A ++ rest, m, q) n 10 5 = some A.length) (hb : b = A.length + 1 + R0.length) (hbl : b < 3000) : ∀ (d i f : Nat) (m : Nat → Nat → Int32) (q : Nat → Nat → Int64), i + d = 4 → d < f → ∃ m1 q1, B_X11_init_76 f n (nI i) (A ++ (106, 4, rfK 4 183 b i) :: (R0 ++ OB W10 183 b i), m, q) = some ((), (A ++ (106, 4, rfK 4 183 b 4) :: (R0 ++ OB W10 183 b 4), m1, q1)) ∧ OU (b + 183 * i) (183 * d) m m1 := by
  intro d
  induction d with
  | zero =>
    intro i f m q hi hf
    obtain ⟨f, rfl⟩ : ∃ g, f = g + 1 := ⟨f - 1, by omega⟩
    have e : i = 4 := by omega
    subst e
    refine ⟨m, q, ?_, OU.nil⟩
    rw [B_X11_init_76]
    simp (disch := omega) only [lit, le_T, reduceIte]
  | succ d ih =>
    intro i f m q hi hf
    obtain ⟨f, rfl⟩ : ∃ g, f = g + 1 := ⟨f - 1, by omega⟩
    have hL : (A ++ (106, 4, rfK 4 183 b i) :: (R0 ++ OB W10 183 b i)).length = b + 183 * i := by
      rw [List.length_append, List.length_cons, List.length_append, OBl W10l i]; omega
    obtain ⟨m1, q1, a1, a2⟩ := i_X10 (A ++ (106, 4, rfK 4 183 b i) :: (R0 ++ OB W10 183 b i)) (mk_z0 m (b + 183 * i) 1 0) (mk_z0 q (b + 183 * i) 1 0) (by rw [hL]; omega) (fun k => by rw [hL]; exact z0n k)
    rw [hL] at a1 a2
    have eL : A ++ (106, 4, rfK 4 183 b i) :: (R0 ++ OB W10 183 b i) ++ W10 (b + 183 * i) = A ++ (106, 4, rfK 4 183 b i) :: (R0 ++ OB W10 183 b (i + 1)) := by
      rw [List.append_assoc, List.cons_append, List.append_assoc]
      rfl
    rw [eL] at a1
    have hJ : ∃ J, (A ++ (106, 4, rfK 4 183 b i) :: (R0 ++ OB W10 183 b (i + 1)))[b + 183 * i]? = some J ∧ J.1 = 9 := by
      rw [← eL]
      exact ⟨_, at_end hL, rfl⟩
    obtain ⟨J, hJ, hJ1⟩ := hJ
    have hnew := newL (L := A ++ (106, 4, rfK 4 183 b i) :: (R0 ++ OB W10 183 b i)) (m := m) (q := q) (ci := 9) (N := 6) (by rw [hL]; omega)
    rw [hL] at hnew
    simp only [lit] at a1 hnew
    have hst := staS (m := m1) (q := q1) (pre := A) (i := i) (by omega) rfK_l (by omega) hJ hJ1
    rw [rfK_s] at hst
    obtain ⟨m2, q2, b1, b2⟩ := ih (i + 1) f m1 q1 (by omega) (by omega)
    refine ⟨m2, q2, ?_, ?_⟩
    · rw [← b1, B_X11_init_76]
      simp (disch := omega) only [lit, le_F, reduceIte, hga, ob_some, hnew, a1, hst, nI_add, Nat.reduceAdd]
    · have e1 : 183 * (d + 1) = 183 + 183 * d := by omega
      have e2 : b + 183 * (i + 1) = b + 183 * i + 183 := by omega
      rw [e1]
      rw [e2] at b2
      exact OU.c2 a2.1 (by omega) b2
def S11 (n : Nat) : List mk_K := (10, 7, [some (n + 1), some (n + 3), some (n + 5), some (n + 13), some (n + 14), some (n + 262), some (n + 263)]) :: (S8 (n + 1) ++ (S6 (n + 3) ++ (S3 (n + 5) ++ (S2 (n + 13) ++ (106, 4, rfK 4 183 (n + 264) 4) :: (103, 4, []) :: OB W10 183 (n + 264) 4))))
set_option maxRecDepth 4000 in
theorem S11l (n : Nat) : (S11 n).length = 996 := by
  show (S8 (n + 1) ++ (S6 (n + 3) ++ (S3 (n + 5) ++ (S2 (n + 13) ++ (106, 4, rfK 4 183 (n + 264) 4) :: (103, 4, []) :: OB W10 183 (n + 264) 4)))).length + 1 = 996
  rw [List.length_append, List.length_append, List.length_append, List.length_append, List.length_cons, List.length_cons, S8l, S6l, S3l, S2l, OBl W10l]
set_option maxRecDepth 4000 in
theorem ga2S {L : List mk_K} {m : Nat → Nat → Int32} {q : Nat → Nat → Int64} {b : Nat} (h : L.length = b) : mk_ga (L ++ S2 b, m, q) b 2 0 = some (b + 1) := by
  rw [← h]
  unfold S2
  rw [gaS (by omega)]
  rfl
set_option maxRecDepth 4000 in
theorem i_X11 (pre : List mk_K) (m : Nat → Nat → Int32) (q : Nat → Nat → Int64) (hl : pre.length < 1000) (hz : ∀ k, m pre.length k = 0) : ∃ m1 q1, F_X11_init pre.length (pre ++ [(10, 7, List.replicate 7 none)], m, q) = some ((), (pre ++ S11 pre.length, m1, q1)) ∧ OU pre.length 996 m m1 ∧ m1 (pre.length + 1) 1 = nI 0 ∧ m1 (pre.length + 13) 2 = nI 0 ∧ (∀ a k, pre.length + 14 < a → a < pre.length + 197 → m1 a k = 0) ∧ m1 (pre.length + 14) 4 = -nI 1 ∧ m1 (pre.length + 14) 5 = nI 0 ∧ ∀ k, m1 (pre.length + 263) k = 0 := by
  have hr : (List.replicate 7 none : List (Option Nat)) = [none, none, none, none, none, none, none] := rfl
  have ea : (pre ++ (10, 7, [none, none, none, none, none, none, none]) :: ([] : List mk_K)).length = pre.length + 1 := by simp only [List.length_append, List.length_cons, List.length_nil, S7l, S3l, S1l, S9l, S5l, S6l, S8l, W10l, mKl, S2l, T2l]
  obtain ⟨ma, qa, a1, a2, a3⟩ := i_X8 (pre ++ (10, 7, [none, none, none, none, none, none, none]) :: ([] : List mk_K)) (mk_z0 m (pre.length + 1) 1 0) (mk_z0 q (pre.length + 1) 1 0) (by rw [ea]; omega) (fun k => by rw [ea]; exact z0n k)
  rw [ea] at a1 a2 a3
  have eb : (pre ++ (10, 7, [some (pre.length + 1), none, none, none, none, none, none]) :: (S8 (pre.length + 1))).length = pre.length + 3 := by simp only [List.length_append, List.length_cons, List.length_nil, S7l, S3l, S1l, S9l, S5l, S6l, S8l, W10l, mKl, S2l, T2l]
  obtain ⟨mb, qb, b1, b2⟩ := i_X6 (pre ++ (10, 7, [some (pre.length + 1), none, none, none, none, none, none]) :: (S8 (pre.length + 1))) (mk_z0 ma (pre.length + 3) 1 0) (mk_z0 qa (pre.length + 3) 1 0) (by rw [eb]; omega) (fun k => by rw [eb]; exact z0n k)
  rw [eb] at b1 b2
  have ec : (pre ++ (10, 7, [some (pre.length + 1), some (pre.length + 3), none, none, none, none, none]) :: (S8 (pre.length + 1) ++ S6 (pre.length + 3))).length = pre.length + 5 := by simp only [List.length_append, List.length_cons, List.length_nil, S7l, S3l, S1l, S9l, S5l, S6l, S8l, W10l, mKl, S2l, T2l]
  obtain ⟨mc, qc, c1, c2⟩ := i_X3 (pre ++ (10, 7, [some (pre.length + 1), some (pre.length + 3), none, none, none, none, none]) :: (S8 (pre.length + 1) ++ S6 (pre.length + 3))) (mk_z0 mb (pre.length + 5) 1 0) (mk_z0 qb (pre.length + 5) 1 0) (by rw [ec]; omega) (fun k => by rw [ec]; exact z0n k)
  rw [ec] at c1 c2
  have ed : (pre ++ (10, 7, [some (pre.length + 1), some (pre.length + 3), some (pre.length + 5), none, none, none, none]) :: (S8 (pre.length + 1) ++ (S6 (pre.length + 3) ++ S3 (pre.length + 5)))).length = pre.length + 13 := by simp only [List.length_append, List.length_cons, List.length_nil, S7l, S3l, S1l, S9l, S5l, S6l, S8l, W10l, mKl, S2l, T2l]
  obtain ⟨md, qd, d1, d2, d3, d4, d5, d6⟩ := i_X2 (pre ++ (10, 7, [some (pre.length + 1), some (pre.length + 3), some (pre.length + 5), none, none, none, none]) :: (S8 (pre.length + 1) ++ (S6 (pre.length + 3) ++ S3 (pre.length + 5)))) (mk_z0 mc (pre.length + 13) 1 0) (mk_z0 qc (pre.length + 13) 1 0) (by rw [ed]; omega) (fun k => by rw [ed]; exact z0n k)
  rw [ed] at d1 d2 d3 d4 d5 d6
  have hg2 : ∀ (l : List (Option Nat)) (m : Nat → Nat → Int32) (q : Nat → Nat → Int64), mk_ga (pre ++ (10, 7, l) :: (S8 (pre.length + 1) ++ (S6 (pre.length + 3) ++ (S3 (pre.length + 5) ++ S2 (pre.length + 13)))), m, q) (pre.length + 13) 2 0 = some (pre.length + 14) := fun l m q => by
    have := ga2S (L := pre ++ (10, 7, l) :: (S8 (pre.length + 1) ++ (S6 (pre.length + 3) ++ S3 (pre.length + 5)))) (m := m) (q := q) (b := pre.length + 13) (by simp only [List.length_append, List.length_cons, List.length_nil, S7l, S3l, S1l, S9l, S5l, S6l, S8l, W10l, mKl, S2l, T2l])
    simp only [List.append_assoc, List.cons_append, List.nil_append] at this
    exact this
  obtain ⟨mf, qf, f1, f2⟩ := l_X11 (A := pre ++ (10, 7, [some (pre.length + 1), some (pre.length + 3), some (pre.length + 5), some (pre.length + 13), some (pre.length + 14), some (pre.length + 262), some (pre.length + 263)]) :: (S8 (pre.length + 1) ++ (S6 (pre.length + 3) ++ (S3 (pre.length + 5) ++ S2 (pre.length + 13))))) (R0 := [(103, 4, [])]) (n := pre.length) (b := pre.length + 264) (fun rest m q => by rw [List.append_assoc, List.cons_append, gaS (by omega)]; simp only [List.length_append, List.length_cons, List.length_nil, S7l, S3l, S1l, S9l, S5l, S6l, S8l, W10l, mKl, S2l, T2l]; rfl) (by simp only [List.length_append, List.length_cons, List.length_nil, S7l, S3l, S1l, S9l, S5l, S6l, S8l, W10l, mKl, S2l, T2l]) (by omega) 4 0 mk_fu (mk_z0 (mk_z0 md (pre.length + 262) 1 0) (pre.length + 263) 1 0) (mk_z0 (mk_z0 qd (pre.length + 262) 1 0) (pre.length + 263) 1 0) (by omega) (by rw [mk_fu_eq]; omega)
  rw [rfK_0] at f1
  have hfar : ∀ a, a < pre.length + 262 ∨ pre.length + 996 ≤ a → mf a = md a := fun a h1 => by
    rw [f2 a (by omega), mk_z0_old (by omega), mk_z0_old (by omega)]
  refine ⟨mf, qf, ?_, fun a ha => ?_, ?_, ?_, fun a k h1 h2 => ?_, ?_, ?_, fun k => ?_⟩
  · rw [hr]
    unfold F_X11_init
    simp only [lit]
    rw [gdS]
    refine newP (F := F_X8_init) (k := 1) (l' := [some (pre.length + 1), none, none, none, none, none, none]) (rest' := (S8 (pre.length + 1))) (by omega) (by simp only [List.length_append, List.length_cons, List.length_nil, S7l, S3l, S1l, S9l, S5l, S6l, S8l, W10l, mKl, S2l, T2l]) (by omega) a1 (by simp only [List.length_append, List.length_cons, List.length_nil, S7l, S3l, S1l, S9l, S5l, S6l, S8l, W10l, mKl, S2l, T2l]; omega) (by omega) rfl rfl (by simp only [List.append_assoc, List.cons_append, List.nil_append]) ?_
    refine newP (F := F_X6_init) (k := 3) (l' := [some (pre.length + 1), some (pre.length + 3), none, none, none, none, none]) (rest' := (S8 (pre.length + 1) ++ S6 (pre.length + 3))) (by omega) (by simp only [List.length_append, List.length_cons, List.length_nil, S7l, S3l, S1l, S9l, S5l, S6l, S8l, W10l, mKl, S2l, T2l]) (by omega) b1 (by simp only [List.length_append, List.length_cons, List.length_nil, S7l, S3l, S1l, S9l, S5l, S6l, S8l, W10l, mKl, S2l, T2l]; omega) (by omega) rfl rfl (by simp only [List.append_assoc, List.cons_append, List.nil_append]) ?_
    refine newP (F := F_X3_init) (k := 5) (l' := [some (pre.length + 1), some (pre.length + 3), some (pre.length + 5), none, none, none, none]) (rest' := (S8 (pre.length + 1) ++ (S6 (pre.length + 3) ++ S3 (pre.length + 5)))) (by omega) (by simp only [List.length_append, List.length_cons, List.length_nil, S7l, S3l, S1l, S9l, S5l, S6l, S8l, W10l, mKl, S2l, T2l]) (by omega) c1 (by simp only [List.length_append, List.length_cons, List.length_nil, S7l, S3l, S1l, S9l, S5l, S6l, S8l, W10l, mKl, S2l, T2l]; omega) (by omega) rfl rfl (by simp only [List.append_assoc, List.cons_append, List.nil_append]) ?_
    refine newP (F := F_X2_init) (k := 13) (l' := [some (pre.length + 1), some (pre.length + 3), some (pre.length + 5), some (pre.length + 13), none, none, none]) (rest' := (S8 (pre.length + 1) ++ (S6 (pre.length + 3) ++ (S3 (pre.length + 5) ++ S2 (pre.length + 13))))) (by omega) (by simp only [List.length_append, List.length_cons, List.length_nil, S7l, S3l, S1l, S9l, S5l, S6l, S8l, W10l, mKl, S2l, T2l]) (by omega) d1 (by simp only [List.length_append, List.length_cons, List.length_nil, S7l, S3l, S1l, S9l, S5l, S6l, S8l, W10l, mKl, S2l, T2l]; omega) (by omega) rfl rfl (by simp only [List.append_assoc, List.cons_append, List.nil_append]) ?_
    rw [gaS (by omega), show ([some (pre.length + 1), some (pre.length + 3), some (pre.length + 5), some (pre.length + 13), none, none, none] : List (Option Nat)).getD 3 none = some (pre.length + 13) from rfl, ob_some, hg2, ob_some, paS (N := 7) (l := [some (pre.length + 1), some (pre.length + 3), some (pre.length + 5), some (pre.length + 13), none, none, none]) (by omega) rfl, ob_some, if_pos (by simp only [List.length_append, List.length_cons, List.length_nil, S7l, S3l, S1l, S9l, S5l, S6l, S8l, W10l, mKl, S2l, T2l]; omega), show ([some (pre.length + 1), some (pre.length + 3), some (pre.length + 5), some (pre.length + 13), none, none, none] : List (Option Nat)).set 4 (some (pre.length + 14)) = [some (pre.length + 1), some (pre.length + 3), some (pre.length + 5), some (pre.length + 13), some (pre.length + 14), none, none] from rfl]
    refine naP (k := 262) (R := List.replicate 4 none) (l' := [some (pre.length + 1), some (pre.length + 3), some (pre.length + 5), some (pre.length + 13), some (pre.length + 14), some (pre.length + 262), none]) (rest' := (S8 (pre.length + 1) ++ (S6 (pre.length + 3) ++ (S3 (pre.length + 5) ++ (S2 (pre.length + 13) ++ [(106, 4, List.replicate 4 none)]))))) (by omega) (by simp only [List.length_append, List.length_cons, List.length_nil, S7l, S3l, S1l, S9l, S5l, S6l, S8l, W10l, mKl, S2l, T2l]) (by omega) (by omega) rfl (by omega) rfl rfl (by simp only [List.append_assoc, List.cons_append, List.nil_append]) ?_
    refine naP (k := 263) (R := []) (l' := [some (pre.length + 1), some (pre.length + 3), some (pre.length + 5), some (pre.length + 13), some (pre.length + 14), some (pre.length + 262), some (pre.length + 263)]) (rest' := (S8 (pre.length + 1) ++ (S6 (pre.length + 3) ++ (S3 (pre.length + 5) ++ (S2 (pre.length + 13) ++ [(106, 4, List.replicate 4 none), (103, 4, [])]))))) (by omega) (by simp only [List.length_append, List.length_cons, List.length_nil, S7l, S3l, S1l, S9l, S5l, S6l, S8l, W10l, mKl, S2l, T2l]) (by omega) (by omega) rfl (by omega) rfl rfl (by simp only [List.append_assoc, List.cons_append, List.nil_append]) ?_
    have e0 : OB W10 183 (pre.length + 264) 0 = [] := rfl
    simp only [List.append_assoc, List.cons_append, List.nil_append, e0] at f1
    unfold S11
    exact f1
  · rw [hfar a (by omega), d2 a (by omega), mk_z0_old (by omega), c2.1 a (by omega), mk_z0_old (by omega), b2.1 a (by omega), mk_z0_old (by omega), a2 a (by omega), mk_z0_old (by omega)]
  · rw [hfar _ (by omega), d2 _ (by omega), mk_z0_old (by omega), c2.1 _ (by omega), mk_z0_old (by omega), b2.1 _ (by omega), mk_z0_old (by omega)]; exact a3
  · rw [hfar _ (by omega)]; exact d3
  · rw [hfar _ (by omega)]; exact d4 a k (by omega) (by omega)
  · rw [hfar _ (by omega)]; exact d5
  · rw [hfar _ (by omega)]; exact d6
  · rw [f2 _ (by omega)]; exact z0n k
