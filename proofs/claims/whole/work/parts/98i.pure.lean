/-! the start: all of it -/
set_option maxRecDepth 4000 in
theorem inv0 {m : Nat → Nat → Int32} (h1 : m 1 1 = nI 0) (h2 : m 13 2 = nI 0) (hz : ∀ a k, 14 < a → a < 197 → m a k = 0) (h4 : m 14 4 = -nI 1) (h5 : m 14 5 = nI 0) (h6 : ∀ k, m 263 k = 0) (g0 : ∀ j, j < 9 → m 997 j = 0) (g9 : m 997 9 = -nI 1) (g27 : m 996 27 = 0) (g31 : m 996 31 = 0) (g50 : m 996 50 = 0) (g36 : m 996 36 = nI 12) (g47 : m 996 47 = -nI 1) (gl : ∀ j, m 1040 j = 0) (he : EX m) : Inv m := by
  have z : (0 : Int32) = nI 0 := rfl
  have hz2 : ∀ a k, 14 < a → a < 197 → m a k = nI 0 := fun a k x y => (hz a k x y).trans z
  have g2 : ∀ j, j < 9 → m 997 j = nI 0 := fun j x => (g0 j x).trans z
  have n0 : ∀ k, nv m 0 k = m 997 k := fun k => rfl
  have v0 : ∀ k, k < 9 → nv m 0 k = nI 0 := fun k hk => (n0 k).trans (g2 k hk)
  have ab : ∀ {p : Prop} {i : Nat}, i < 0 → p := fun h => absurd h (Nat.not_lt_zero _)
  have cw : CW m 14 (fun _ _ => 0, fun _ _ => 0, fun _ _ _ => 0, 0, fun _ _ => 0, 0, 0, 0) := by
    refine ⟨Or.inl ⟨rfl, rfl, rfl, rfl, rfl, hz2 15 0 (by omega) (by omega), hz2 15 1 (by omega) (by omega), hz2 15 2 (by omega) (by omega), hz2 15 3 (by omega) (by omega), hz2 15 4 (by omega) (by omega)⟩, ⟨⟨fun p h => ab h, fun k h => ab h, fun c h => ab (i := c) h, ⟨hz2 23 7 (by omega) (by omega), (by show 0 < 16; omega)⟩, ⟨hz2 23 8 (by omega) (by omega), Nat.zero_le _⟩, fun p _ _ => hz 27 p (by omega) (by omega), fun k _ _ => hz 29 k (by omega) (by omega), fun c _ _ => hz 30 c (by omega) (by omega)⟩, Nat.zero_le _⟩, ⟨0, by omega, hz2 31 1 (by omega) (by omega), hz2 31 2 (by omega) (by omega), by omega, fun i h => ab h⟩, ⟨hz2 193 3 (by omega) (by omega), by omega, fun i h => ab h⟩, ⟨h4, by omega⟩, ⟨h5, by omega⟩⟩
  have mw : MW (nv m) (fun _ _ => 0, fun _ _ => 0, fun _ _ _ => 0, 0, fun _ _ => 0, 0, 0, 0) := by
    refine ⟨Or.inl ⟨rfl, rfl, rfl, rfl, rfl, v0 0 (by omega), v0 1 (by omega), v0 2 (by omega), v0 3 (by omega), v0 4 (by omega)⟩, ⟨⟨fun p h => ab h, fun k h => ab h, fun c h => ab (i := c) h, ⟨v0 6 (by omega), (by show 0 < 16; omega)⟩, ⟨v0 5 (by omega), Nat.zero_le _⟩⟩, Nat.zero_le _⟩, ⟨g50, by omega, fun i h => ab h⟩, ⟨v0 7 (by omega), by omega, fun i h => ab h⟩, ⟨(n0 9).trans g9, by omega⟩, ⟨v0 8 (by omega), by omega⟩⟩
  refine ⟨⟨((0, fun _ => 0), (0, fun _ => []), (fun _ _ => 0, fun _ _ => 0, fun _ _ _ => 0, 0, fun _ _ => 0, 0, 0, 0), fun _ => (fun _ _ => 0, fun _ _ => 0, fun _ _ _ => 0, 0, fun _ _ => 0, 0, 0, 0), fun _ => false), ⟨⟨h1, by omega, fun i h => ab h⟩, ⟨h2, by omega, fun r h => ab h⟩, ⟨cw, Nat.le_refl 0⟩, fun k _ => h6 k, fun k _ h => Bool.noConfusion h⟩, ⟨⟨g27, fun i h => ab h⟩, ⟨g31, fun r h => ab h⟩, mw, fun k _ => gl k, fun k _ h => Bool.noConfusion h, g36, g47⟩⟩, he⟩
set_option maxRecDepth 4000 in
theorem ks_eq : [] ++ S11 0 ++ S12 996 = KS := by decide +kernel
set_option maxRecDepth 4000 in
theorem ks_sum : (KS.map (fun K => K.2.1)).sum ≤ 7302250 := by decide +kernel
set_option maxRecDepth 4000 in
theorem lg_3 {L : Nat} {xs : Nat → Int32} : law_g L xs 3000000 0 = nI L := by
  unfold law_g
  rw [if_neg (by omega), if_neg (by omega), if_pos rfl]
  rfl
set_option maxRecDepth 4000 in
theorem lg_ex {L : Nat} {xs : Nat → Int32} {m : Nat → Nat → Int32} (h : m 2000000 = law_g L xs 2000000) (h2 : m 2000001 = law_g L xs 2000001) : EX m := by
  unfold EX
  rw [h, h2]
  unfold law_g
  simp only [if_true, Nat.reduceEqDiff, if_false, and_self]
set_option maxRecDepth 4000 in
theorem law_pure_ok : law_pure := by
  intro L xs hL
  obtain ⟨m1, q1, a1, a2, a3, a4, a5, a6, a7, a8⟩ := i_X11 [] (mk_z0 (law_g L xs) 0 1 0) (mk_z0 (fun _ _ => 0) 0 1 0) (by rw [List.length_nil]; omega) (fun k => z0n k)
  have e0 : ([] : List mk_K).length = 0 := rfl
  rw [e0] at a1 a2 a3 a4 a6 a7
  have a5 : ∀ a k, 14 < a → a < 197 → m1 a k = 0 := fun a k x y => a5 a k (by rw [e0]; omega) (by rw [e0]; omega)
  have a8 : ∀ k, m1 263 k = 0 := a8
  have eL : ([] ++ S11 0 : List mk_K).length = 996 := S11l 0
  obtain ⟨m2, q2, b1, b2, b3, b4, b5, b6, b7, b8, b9, b10⟩ := i_X12 ([] ++ S11 0) (mk_z0 m1 996 1 0) (mk_z0 q1 996 1 0) (by rw [eL]; omega) (fun k => by rw [eL]; exact z0n k)
  rw [eL] at b1 b2 b4 b5 b6 b7 b8 b9
  rw [ks_eq] at b1
  have b3 : ∀ j, j < 9 → m2 997 j = 0 := fun j hj => by
    have := b3 j hj
    rw [eL] at this
    exact this
  have b10 : ∀ j, m2 1040 j = 0 := fun j => by
    have := b10 j
    rw [eL] at this
    exact this
  have lo : ∀ a, a < 996 → m2 a = m1 a := fun a ha => (b2 a (by omega)).trans (mk_z0_old (by omega))
  have hi : ∀ a, 1041 ≤ a → m2 a = law_g L xs a := fun a ha => by
    rw [b2 a (by omega), mk_z0_old (by omega), a2 a (by omega), mk_z0_old (by omega)]
  have iv : Inv m2 := inv0 (by rw [lo 1 (by omega)]; exact a3) (by rw [lo 13 (by omega)]; exact a4) (fun a k x y => by rw [lo a (by omega)]; exact a5 a k x y) (by rw [lo 14 (by omega)]; exact a6) (by rw [lo 14 (by omega)]; exact a7) (fun k => by rw [lo 263 (by omega)]; exact a8 k) b3 b4 b5 b6 b7 b8 b9 b10 (lg_ex (hi _ (by omega)) (hi _ (by omega)))
  obtain ⟨m3, q3, c1⟩ := lwL hL L mk_fu 0 m2 q2 (by omega) (by rw [mk_fu_eq]; omega) (by omega) (by rw [hi _ (by omega)]; exact lg_3) iv
  refine ⟨(KS, m3, q3), ?_, ?_, ?_⟩
  · have n1 := newL (L := []) (m := law_g L xs) (q := fun _ _ => 0) (ci := 10) (N := 7) (by rw [e0]; omega)
    have n2 := newL (L := [] ++ S11 0) (m := m1) (q := q1) (ci := 11) (N := 64) (by rw [eL]; omega)
    rw [e0] at n1
    rw [eL] at n2
    unfold F_L_law law_t0
    rw [n1, ob_some]
    show ((F_X11_init 0 _).bind _) = _
    rw [a1, ob_some]
    show ((mk_new ([] ++ S11 0, m1, q1) 11 64).bind _) = _
    rw [n2, ob_some]
    show ((F_X12_init 996 _).bind _) = _
    rw [b1, ob_some]
    exact c1
  · show KS.length ≤ 600000
    rw [ks_len]; omega
  · exact ks_sum
