/-! years of notions -/
set_option maxRecDepth 4000 in
theorem l_mask (x : Nat) : lN x &&& lN 2147483647 = lN (x % 2147483648) := by
  apply Int64.toBitVec_inj.mp
  rw [Int64.toBitVec_and]
  show BitVec.ofNat 64 x &&& BitVec.ofNat 64 2147483647 = BitVec.ofNat 64 (x % 2147483648)
  apply BitVec.eq_of_toNat_eq
  rw [BitVec.toNat_and, BitVec.toNat_ofNat, BitVec.toNat_ofNat, BitVec.toNat_ofNat]
  have h := Nat.and_two_pow_sub_one_eq_mod (x % 2 ^ 64) 31
  have e : 2147483647 % 2 ^ 64 = 2 ^ 31 - 1 := by decide
  rw [e, h]
  omega
set_option maxRecDepth 4000 in
theorem lcg_ex : ∃ f : Nat → Nat, ∀ d, f d = (d * 1103515245 + 12345) % 2147483648 := ⟨fun d => (d * 1103515245 + 12345) % 2147483648, fun _ => rfl⟩
noncomputable def lcg : Nat → Nat := Classical.choose lcg_ex
set_option maxRecDepth 4000 in
theorem lcg_eq (d : Nat) : lcg d = (d * 1103515245 + 12345) % 2147483648 := Classical.choose_spec lcg_ex d
set_option maxRecDepth 4000 in
theorem lcg_lt (d : Nat) : lcg d < 2147483648 := by
  rw [lcg_eq]; exact Nat.mod_lt _ (by omega)
set_option maxRecDepth 4000 in
theorem lcgC {d : Nat} (hd : d < 2147483648) : (((nI d).toInt64 * (1103515245 : Int64) + (12345 : Int64)) &&& (2147483647 : Int64)).toInt32 = nI (lcg d) := by
  rw [nI_l hd]
  show ((lN d * lN 1103515245 + lN 12345) &&& lN 2147483647).toInt32 = nI (lcg d)
  rw [lN_mul, lN_add, l_mask, lN_i, lcg_eq]
set_option maxRecDepth 4000 in
theorem lcgM {d : Nat} (hd : d < 2147483648) : (((nI d).toInt64 * (1103515245 : Int64) + (12345 : Int64)) - ((nI d).toInt64 * (1103515245 : Int64) + (12345 : Int64)) / (2147483648 : Int64) * (2147483648 : Int64)).toInt32 = nI (lcg d) := by
  rw [nI_l hd]
  show ((lN d * lN 1103515245 + lN 12345) - (lN d * lN 1103515245 + lN 12345) / lN 2147483648 * lN 2147483648).toInt32 = nI (lcg d)
  rw [lN_mul, lN_add, pk_lRem (by omega) (by omega) (by omega), lN_i, lcg_eq]
set_option maxRecDepth 4000 in
theorem l2 : ((2147483648 : Int64) = 0) = False := eq_false (by decide)
set_option maxRecDepth 4000 in
theorem drawC {m : Nat → Nat → Int32} {q : Nat → Nat → Int64} {d : Nat} (h : m 13 13 = nI d) (hd : d < 2147483648) : F_X2_draw 13 (KS, m, q) = some (nI (lcg d / 65536), (KS, mk_u2 m 13 13 (nI (lcg d)), q)) := by
  have hl := lcg_lt d
  have hdv : nI (lcg d) / nI 65536 = nI (lcg d / 65536) := pk_div (by omega) (by omega) (by omega)
  unfold F_X2_draw
  simp only [gdc_13, gic_13_13, ob_some, h, lcgC hd, pic_13_13, u2_s]
  simp (disch := omega) only [lit, eq_F, reduceIte, hdv]
set_option maxRecDepth 4000 in
theorem drawM {m : Nat → Nat → Int32} {q : Nat → Nat → Int64} {d o : Nat} (h : m 997 8 = nI d) (hd : d < 2147483648) (h0 : 0 < o) (ho : o < 1000) : F_X12_draws 996 (nI o) (KS, m, q) = some (nI (lcg d / 65536 % o), (KS, mk_u2 m 997 8 (nI (lcg d)), q)) := by
  have hl := lcg_lt d
  have hdv : nI (lcg d) / nI 65536 = nI (lcg d / 65536) := pk_div (by omega) (by omega) (by omega)
  have hr : nI (lcg d / 65536) - nI (lcg d / 65536) / nI o * nI o = nI (lcg d / 65536 % o) := pk_rem (by omega) h0 (by omega)
  unfold F_X12_draws
  have l8 : ∀ m : Nat → Nat → Int32, mk_ld 100 (KS, m, q) 997 8 = some (m 997 8) := fun m => ldm_997 (by omega : 8 < 10)
  have s8 : ∀ (m : Nat → Nat → Int32) (v : Int32), mk_st 100 (KS, m, q) 997 8 v = some (KS, mk_u2 m 997 8 v, q) := fun m v => stm_997 (by omega : 8 < 10)
  simp only [gdm, gam_1, ob_some, l8, s8, h, l2, if_false, lcgM hd, u2_s]
  simp (disch := omega) only [lit, eq_F, reduceIte, hdv, hr]
/-- an hour with notions -/
noncomputable def ntS (P : Nat → Nat → Nat) (ρ : Option RT) (p : Nat) (s : Nat × (Nat → Nat → Nat)) : Nat × (Nat → Nat → Nat) := if lcg s.1 / 65536 % 100 < p ∧ 0 < P 0 2 then (lcg (lcg s.1), hourA P ρ (-nI 1) (upA s.2 3 (lcg (lcg s.1) / 65536 % P 0 2) (min 99 (s.2 3 (lcg (lcg s.1) / 65536 % P 0 2) + 9)))) else (lcg s.1, hourA P ρ (-nI 1) s.2)
noncomputable def ntF (P : Nat → Nat → Nat) (ρ : Option RT) (p : Nat) (s : Nat × (Nat → Nat → Nat)) : Nat → Nat × (Nat → Nat → Nat)
  | 0 => s
  | n + 1 => ntS P ρ p (ntF P ρ p s n)
set_option maxRecDepth 4000 in
theorem ntF_h {P : Nat → Nat → Nat} {ρ : Option RT} {p : Nat} {s : Nat × (Nat → Nat → Nat)} (hs : s.1 < 2147483648) : ∀ n, (ntF P ρ p s n).2 0 1 = s.2 0 1 + n ∧ (ntF P ρ p s n).1 < 2147483648
  | 0 => ⟨rfl, hs⟩
  | n + 1 => by
    obtain ⟨h1, h2⟩ := ntF_h (P := P) (ρ := ρ) (p := p) hs n
    show (ntS P ρ p (ntF P ρ p s n)).2 0 1 = _ ∧ (ntS P ρ p (ntF P ρ p s n)).1 < _
    unfold ntS
    split
    · refine ⟨?_, lcg_lt _⟩
      show upA (ntF P ρ p s n).2 3 _ _ 0 1 + 1 = _
      rw [up_j (by omega), h1]; omega
    · refine ⟨?_, lcg_lt _⟩
      show (ntF P ρ p s n).2 0 1 + 1 = _
      rw [h1]; omega
set_option maxRecDepth 4000 in
theorem nt_C {m : Nat → Nat → Int32} {q : Nat → Nat → Int64} {P A : Nat → Nat → Nat} {fo n p x : Nat} {ρ : Option RT} (h : QC m P A (fR fo) ρ) (h4 : m 14 4 = fI fo) (hf : fo ≤ 6) (hn : n ≤ 60) (hp : p ≤ 100) (hx : m 13 13 = nI x) (hx2 : x < 2147483648) : ∃ m1 q1, F_X2_goThroughNotions 13 (nI n) (nI p) (KS, m, q) = some ((), (KS, m1, q1)) ∧ KC m m1 ∧ m1 13 13 = nI (ntF P ρ p (x, A) n).1 ∧ SR P (blk m1 200) (ntF P ρ p (x, A) n).2 := by
  obtain ⟨B1, B2, B3⟩ := h.1.2
  have hAh := h.2.1.2
  obtain ⟨ma, t1, t2, t3⟩ := trial_ok (q := q) h
  have h4a : ma 14 4 = fI fo := by rw [t2 _ (by omega)]; exact h4
  have h2a : ma 15 2 = nI (P 0 2) := by rw [t2 _ (by omega)]; exact h.1.1.2.2.1
  obtain ⟨f1, ⟨m1, q1⟩, e, i1, i2, i3⟩ := loop_up (fun f i (s : (Nat → Nat → Int32) × (Nat → Nat → Int64)) => B_X2_goThroughNotions_34 f 13 (nI n) (nI p) (fR fo) (nI (P 0 2)) (nI i) (KS, s.1, s.2)) n (fun i s => KC m s.1 ∧ s.1 13 13 = nI (ntF P ρ p (x, A) i).1 ∧ SR P (blk s.1 200) (ntF P ρ p (x, A) i).2) (by
    intro f i ⟨m', q'⟩ hi ⟨i1, i2, i3⟩
    obtain ⟨g1, g2⟩ := ntF_h (P := P) (ρ := ρ) (p := p) (s := (x, A)) hx2 i
    have g1 : (ntF P ρ p (x, A) i).2 0 1 = A 0 1 + i := g1
    have e1 : ntF P ρ p (x, A) (i + 1) = ntS P ρ p (ntF P ρ p (x, A) i) := rfl
    rw [e1]
    generalize ntF P ρ p (x, A) i = s at *
    obtain ⟨y, B⟩ := s
    have i2 : m' 13 13 = nI y := i2
    have i3 : SR P (blk m' 200) B := i3
    have g1 : B 0 1 = A 0 1 + i := g1
    have g2 : y < 2147483648 := g2
    have hl := lcg_lt y
    have d1 := drawC (q := q') i2 g2
    have hr : nI (lcg y / 65536) - nI (lcg y / 65536) / nI 100 * nI 100 = nI (lcg y / 65536 % 100) := pk_rem (by omega) (by omega) (by omega)
    generalize hmb : mk_u2 m' 13 13 (nI (lcg y)) = mb at d1
    have ob : ∀ j, j ≠ 13 → mb j = m' j := fun j hj => by rw [← hmb, mk_u2_ne hj]
    have kb : KC m mb := i1.trans ⟨fun j h1 h2 => ob j h1, fun k hk => by rw [← hmb, u2_b (by omega)]⟩
    have hB : SR P (blk mb 200) B := i3.set (SEq.of (fun j hj => ob _ (by omega))) (by omega) (by omega) h.1.sq.2
    by_cases c : lcg y / 65536 % 100 < p ∧ 0 < P 0 2
    · have d2 := drawC (m := mb) (q := q') (d := lcg y) (by rw [← hmb, u2_s]) hl
      have hl2 := lcg_lt (lcg y)
      have hr2 : nI (lcg (lcg y) / 65536) - nI (lcg (lcg y) / 65536) / nI (P 0 2) * nI (P 0 2) = nI (lcg (lcg y) / 65536 % P 0 2) := pk_rem (by omega) c.2 (by omega)
      have hw : lcg (lcg y) / 65536 % P 0 2 < P 0 2 := Nat.mod_lt _ c.2
      have e2 : ntS P ρ p (y, B) = (lcg (lcg y), hourA P ρ (-nI 1) (upA B 3 (lcg (lcg y) / 65536 % P 0 2) (min 99 (B 3 (lcg (lcg y) / 65536 % P 0 2) + 9)))) := if_pos c
      rw [e2]
      generalize lcg (lcg y) / 65536 % P 0 2 = w at hr2 hw ⊢
      generalize hmc : mk_u2 mb 13 13 (nI (lcg (lcg y))) = mc at d2
      have oc : ∀ j, j ≠ 13 → mc j = mb j := fun j hj => by rw [← hmc, mk_u2_ne hj]
      have kc : KC m mc := kb.trans ⟨fun j h1 h2 => oc j h1, fun k hk => by rw [← hmc, u2_b (by omega)]⟩
      have hBc : SR P (blk mc 200) B := hB.set (SEq.of (fun j hj => oc _ (by omega))) (by omega) (by omega) h.1.sq.2
      have c3 : mc (200 + 3) w = nI (B 3 w) := (hBc.1 w hw).2.2.1.1
      have B3w := (hBc.1 w hw).2.2.1.2
      have hu : F_X7_urgeOn 200 (nI w) (nI 9) (KS, mc, q') = some ((), (KS, mk_u2 mc 203 w (nI (min 99 (B 3 w + 9))), q')) := by
        rw [s_urgeOn sb200 (show w < 6 by omega), c3, nI_add, mn99_n (by omega)]
      have hBd : SR P (blk (mk_u2 mc 203 w (nI (min 99 (B 3 w + 9)))) 200) (upA B 3 w (min 99 (B 3 w + 9))) := hBc.up (j0 := 3) (p := w) (fun j k => blk_u2 (m := mc) (b := 200) (j0 := 3)) (by omega)
      have od : Out mc (mk_u2 mc 203 w (nI (min 99 (B 3 w + 9)))) 200 208 := fun j hj => mk_u2_ne (by omega)
      have kd := kc.trans (KC.out od (by omega) (by omega))
      obtain ⟨m2, q2, w1, w2, w3⟩ := tpass (q := q') (kept := -nI 1) (h.keep kd) hBd (by rw [up_j (by omega)]; omega)
      refine ⟨(m2, q2), ?_, kd.trans (KC.out w2 (by omega) (by omega)), ?_, w3⟩
      · simp only [B_X2_goThroughNotions_34, B_X2_goThroughNotions_72]
        simp (disch := omega) only [lit, le_F, reduceIte, ob_some, d1, eq_F, hr, gac_13_4, d2, hr2, hu, gac_13_3, gac_13_0, gac_14_0, w1, nI_add]
      · show m2 13 13 = nI (lcg (lcg y))
        rw [w2 _ (by omega), od _ (by omega), ← hmc, u2_s]
    · have e2 : ntS P ρ p (y, B) = (lcg y, hourA P ρ (-nI 1) B) := if_neg c
      rw [e2]
      obtain ⟨m2, q2, w1, w2, w3⟩ := tpass (q := q') (kept := -nI 1) (h.keep kb) hB (by omega)
      refine ⟨(m2, q2), ?_, kb.trans (KC.out w2 (by omega) (by omega)), ?_, w3⟩
      · simp only [B_X2_goThroughNotions_34, B_X2_goThroughNotions_72]
        by_cases c1 : p ≤ lcg y / 65536 % 100
        · simp (disch := omega) only [lit, le_F, le_T, reduceIte, ob_some, d1, eq_F, hr, gac_13_4, gac_13_3, gac_13_0, gac_14_0, w1, nI_add]
        · simp (disch := omega) only [lit, le_F, le_T, reduceIte, ob_some, d1, eq_F, hr, gac_13_4, gac_13_3, gac_13_0, gac_14_0, w1, nI_add]
      · show m2 13 13 = nI (lcg y)
        rw [w2 _ (by omega), ← hmb, u2_s]) n 0 mk_fu (ma, q) (by omega) (by rw [mk_fu_eq]; omega) ⟨KC.out t2 (by omega) (by omega), by show ma 13 13 = nI x; rw [t2 _ (by omega)]; exact hx, t3⟩
  refine ⟨m1, q1, ?_, i1, i2, i3⟩
  unfold F_X2_goThroughNotions
  simp only [gdc_13, gac_13_4, gac_13_0, gac_14_0, gac_14_1, gic_15_2, ob_some, lit, t1, inForce_C h4a hf, h2a]
  refine Eq.trans e ?_
  simp only [B_X2_goThroughNotions_34]
  simp (disch := omega) only [le_T, reduceIte]
/-- what a time with notions changes of the reference -/
def M8 (m m1 : Nat → Nat → Int32) : Prop := (∀ i, i < 997 ∨ 1004 < i → m1 i = m i) ∧ (∀ k, k ≠ 5 → k ≠ 6 → k ≠ 8 → m1 997 k = m 997 k)
set_option maxRecDepth 4000 in
theorem MO.m8 {m m1 : Nat → Nat → Int32} (h : MO m m1) : M8 m m1 := ⟨h.1, fun k a b _ => h.2 k a b⟩
set_option maxRecDepth 4000 in
theorem M8.trans {a b c : Nat → Nat → Int32} (h : M8 a b) (g : M8 b c) : M8 a c := ⟨fun i hi => (g.1 i hi).trans (h.1 i hi), fun k x y z => (g.2 k x y z).trans (h.2 k x y z)⟩
set_option maxRecDepth 4000 in
theorem M8.rf {a : Nat → Nat → Int32} : M8 a a := ⟨fun _ _ => rfl, fun _ _ _ _ => rfl⟩
set_option maxRecDepth 4000 in
theorem M8.d {m : Nat → Nat → Int32} {v : Int32} : M8 m (mk_u2 m 997 8 v) := ⟨fun i hi => mk_u2_ne (by omega), fun k _ _ h => u2_b h⟩
set_option maxRecDepth 4000 in
theorem QM.m8 {m m1 : Nat → Nat → Int32} {P : Nat → Nat → Nat} {ρ : Option RT} {kept : Int32} (h : QM m P ρ kept) (g : M8 m m1) : QM m1 P ρ kept := ⟨h.1.keep (fun k hk => g.2 k (by omega) (by omega) (by omega)) (fun j a b => g.1 j (by omega)), h.2.1.congr (g.2 9 (by omega) (by omega) (by omega)) (fun i a b => g.1 i (by omega)), by rw [g.1 996 (by omega)]; exact h.2.2⟩
set_option maxRecDepth 4000 in
theorem KP.m8 {m0 m m1 : Nat → Nat → Int32} (h : KP m0 m) (g : M8 m m1) : KP m0 m1 := by
  obtain ⟨⟨k1, k2, k3⟩, k4⟩ := h
  exact ⟨⟨fun i a b => (g.1 i (by omega)).trans (k1 i a b), fun k a b c d e f => by rw [g.1 996 (by omega)]; exact k2 k a b c d e f, fun k hk => by rw [g.1 1039 (by omega)]; exact k3 k hk⟩, fun j k hj hk => by rw [g.1 1039 (by omega)]; exact k4 j k hj hk⟩
set_option maxRecDepth 4000 in
theorem ms_8 {m : Nat → Nat → Int32} {P B : Nat → Nat → Nat} {v : Int32} (hP : MP m P) (h : MS P (blk m 997) B) : MS P (blk (mk_u2 m 997 8 v) 997) B := by
  obtain ⟨B1, B2, B3⟩ := hP.2
  exact h.congr (by omega) (by omega) (PR.sq hP).2 (by show mk_u2 m 997 8 v 997 5 = m 997 5; rw [u2_b (by omega)]) (by show mk_u2 m 997 8 v 997 6 = m 997 6; rw [u2_b (by omega)]) (fun j k h1 h2 hk => by show mk_u2 m 997 8 v (997 + j) k = m (997 + j) k; rw [u2_a (by omega)]) (fun k hk => by show mk_u2 m 997 8 v 1003 k = m 1003 k; rw [u2_a (by omega)]) (fun k hk => by show mk_u2 m 997 8 v 1004 k = m 1004 k; rw [u2_a (by omega)])
set_option maxRecDepth 4000 in
/-- an hour with notions there -/
theorem nt_M1 {m : Nat → Nat → Int32} {q : Nat → Nat → Int64} {P B : Nat → Nat → Nat} {p y : Nat} {ρ : Option RT} (hQ : QM m P ρ (-nI 1)) (hB : MS P (blk m 997) B) (hb : B 0 1 < 100000) (hp : p ≤ 100) (hy : m 997 8 = nI y) (hy2 : y < 2147483648) : ∃ m1 m2 q2 z, F_X12_drawsNotion 996 (nI p) (KS, m, q) = some ((), (KS, m1, q)) ∧ F_X12_goes 996 (KS, m1, q) = some (z, (KS, m2, q2)) ∧ M8 m m2 ∧ m2 997 8 = nI (ntS P ρ p (y, B)).1 ∧ MS P (blk m2 997) (ntS P ρ p (y, B)).2 := by
  obtain ⟨B1, B2, B3⟩ := hQ.1.2
  have hl := lcg_lt y
  have d1 := drawM (q := q) (o := 100) hy hy2 (by omega) (by omega)
  have hBb := ms_8 (v := nI (lcg y)) hQ.1 hB
  have kb : M8 m (mk_u2 m 997 8 (nI (lcg y))) := M8.d
  have h8b : mk_u2 m 997 8 (nI (lcg y)) 997 8 = nI (lcg y) := u2_s
  generalize mk_u2 m 997 8 (nI (lcg y)) = mb at d1 hBb kb h8b
  have hQb := hQ.m8 kb
  have h2b : mb 997 2 = nI (P 0 2) := hQb.1.1.2.2.1
  by_cases c : lcg y / 65536 % 100 < p ∧ 0 < P 0 2
  · have d2 := drawM (q := q) (o := P 0 2) h8b hl c.2 (by omega)
    have hl2 := lcg_lt (lcg y)
    have hw : lcg (lcg y) / 65536 % P 0 2 < P 0 2 := Nat.mod_lt _ c.2
    have e2 : ntS P ρ p (y, B) = (lcg (lcg y), hourA P ρ (-nI 1) (upA B 3 (lcg (lcg y) / 65536 % P 0 2) (min 99 (B 3 (lcg (lcg y) / 65536 % P 0 2) + 9)))) := if_pos c
    rw [e2]
    generalize lcg (lcg y) / 65536 % P 0 2 = w at d2 hw ⊢
    have hBc := ms_8 (v := nI (lcg (lcg y))) hQb.1 hBb
    have kc : M8 mb (mk_u2 mb 997 8 (nI (lcg (lcg y)))) := M8.d
    have h8c : mk_u2 mb 997 8 (nI (lcg (lcg y))) 997 8 = nI (lcg (lcg y)) := u2_s
    generalize mk_u2 mb 997 8 (nI (lcg (lcg y))) = mc at d2 hBc kc h8c
    have c3 : mc 1000 w = nI (B 3 w) := (hBc.1 w hw).2.2.1.1
    have B3w := (hBc.1 w hw).2.2.1.2
    have hBd : MS P (blk (mk_u2 mc 1000 w (nI (min 99 (B 3 w + 9)))) 997) (upA B 3 w (min 99 (B 3 w + 9))) := hBc.up (j0 := 3) (p := w) (fun j k => blk_u2 (m := mc) (b := 997) (j0 := 3)) (by omega)
    have kd : M8 mc (mk_u2 mc 1000 w (nI (min 99 (B 3 w + 9)))) := (MO.row (by omega) (by omega)).m8
    obtain ⟨m2, q2, w1, w2, w3⟩ := mgo (q := q) ((hQb.m8 kc).m8 kd) hBd (by rw [up_j (by omega)]; omega)
    refine ⟨_, m2, q2, _, ?_, w1, ((kb.trans kc).trans kd).trans w2.m8, ?_, w3⟩
    · unfold F_X12_drawsNotion
      simp (disch := omega) only [gdm, lit, ob_some, d1, le_F, reduceIte, gam_1, ldm_997, h2b, d2, gam_4, ldm_1000, c3, nI_add, up_to, stm_1000]
    · show m2 997 8 = nI (lcg (lcg y))
      rw [w2.2 _ (by omega) (by omega), u2_a (by omega)]; exact h8c
  · have e2 : ntS P ρ p (y, B) = (lcg y, hourA P ρ (-nI 1) B) := if_neg c
    rw [e2]
    obtain ⟨m2, q2, w1, w2, w3⟩ := mgo (q := q) hQb hBb hb
    refine ⟨mb, m2, q2, _, ?_, w1, kb.trans w2.m8, ?_, w3⟩
    · unfold F_X12_drawsNotion
      by_cases c1 : p ≤ lcg y / 65536 % 100
      · simp (disch := omega) only [gdm, lit, ob_some, d1, le_T, reduceIte]
      · simp (disch := omega) only [gdm, lit, ob_some, d1, le_F, le_T, reduceIte, gam_1, ldm_997, h2b]
    · show m2 997 8 = nI (lcg y)
      rw [w2.2 _ (by omega) (by omega)]; exact h8b
noncomputable def yrF (P : Nat → Nat → Nat) (ρ : Option RT) (p n x : Nat) (A : Nat → Nat → Nat) : Nat → Nat × Int32 × Int32
  | 0 => (x, nI 0, nI 0)
  | i + 1 => ((ntF P ρ p ((yrF P ρ p n x A i).1, A) n).1, (yrF P ρ p n x A i).2.1 + (nI (nsum ((ntF P ρ p ((yrF P ρ p n x A i).1, A) n).2 6) (P 0 3)) - nI (nsum (A 6) (P 0 3))), (yrF P ρ p n x A i).2.2 + nI (pc ((ntF P ρ p ((yrF P ρ p n x A i).1, A) n).2 0 0)))
set_option maxRecDepth 4000 in
theorem yrF_lt {P : Nat → Nat → Nat} {ρ : Option RT} {p n x : Nat} {A : Nat → Nat → Nat} (hx : x < 2147483648) : ∀ i, (yrF P ρ p n x A i).1 < 2147483648
  | 0 => hx
  | i + 1 => (ntF_h (s := ((yrF P ρ p n x A i).1, A)) (yrF_lt hx i) n).2
set_option maxRecDepth 4000 in
theorem years_C {m : Nat → Nat → Int32} {q : Nat → Nat → Int64} {P A : Nat → Nat → Nat} {fo mm n p x k : Nat} {ρ : Option RT} (h : QC m P A (fR fo) ρ) (h4 : m 14 4 = fI fo) (hf : fo ≤ 6) (hm : mm ≤ 10) (hn : n ≤ 60) (hp : p ≤ 100) (hk : k ≤ 1) (hx : m 14 5 = nI x) (hx2 : x < 2147483648) : ∃ m1 q1, F_X2_yearsOfNotions 13 (nI mm) (nI n) (nI p) (nI k) (KS, m, q) = some (if k = 0 then (yrF P ρ p n x A mm).2.1 else (yrF P ρ p n x A mm).2.2, (KS, m1, q1)) ∧ KC m m1 := by
  obtain ⟨B1, B2, B3⟩ := h.1.2
  obtain ⟨f1, ⟨y1, y2, m1, q1⟩, e, i1, i2, i3, i4⟩ := loop_up (fun f i (s : Int32 × Int32 × (Nat → Nat → Int32) × (Nat → Nat → Int64)) => B_X2_yearsOfNotions_20 f 13 (nI mm) (nI n) (nI p) (nI k) s.1 s.2.1 (nI i) (KS, s.2.2.1, s.2.2.2)) mm (fun i s => s.1 = (yrF P ρ p n x A i).2.1 ∧ s.2.1 = (yrF P ρ p n x A i).2.2 ∧ KC m s.2.2.1 ∧ s.2.2.1 13 13 = nI (yrF P ρ p n x A i).1) (by
    intro f i ⟨y1, y2, m', q'⟩ hi ⟨i1, i2, i3, i4⟩
    have i1 : y1 = _ := i1
    have i2 : y2 = _ := i2
    subst i1 i2
    have i3 : KC m m' := i3
    obtain ⟨m2, q2, w1, w2, w3, w4⟩ := nt_C (q := q') (n := n) (p := p) (h.keep i3) (by rw [i3.1 _ (by omega) (by omega)]; exact h4) hf hn hp i4 (yrF_lt hx2 i)
    have gr := s_groundN (q := q2) sb200 w4 (by omega)
    have gn := s_groundN (q := q2) sb23 ((h.keep (i3.trans w2)).2.1.1) (by omega)
    have c7 : m2 200 7 = nI ((ntF P ρ p ((yrF P ρ p n x A i).1, A) n).2 0 0) := w4.2.2.2.1.1
    have c16 := w4.2.2.2.1.2
    refine ⟨((yrF P ρ p n x A (i + 1)).2.1, (yrF P ρ p n x A (i + 1)).2.2, m2, q2), ?_, rfl, rfl, i3.trans w2, w3⟩
    rw [yrF]
    simp only [B_X2_yearsOfNotions_20]
    simp (disch := omega) only [lit, le_F, reduceIte, ob_some, w1, gac_13_4, gac_13_0, gac_14_1, gr, gn, gic_200_7, c7, bitc (show (ntF P ρ p ((yrF P ρ p n x A i).1, A) n).2 0 0 < 128 by omega), nI_add]) mm 0 mk_fu (nI 0, nI 0, mk_u2 m 13 13 (nI x), q) (by omega) (by rw [mk_fu_eq]; omega) ⟨rfl, rfl, ⟨fun i h1 h2 => mk_u2_ne h1, fun k hk => by show mk_u2 m 13 13 (nI x) 13 k = m 13 k; exact u2_b (by omega)⟩, by show mk_u2 m 13 13 (nI x) 13 13 = nI x; exact u2_s⟩
  have i1 : y1 = _ := i1
  have i2 : y2 = _ := i2
  subst i1 i2
  refine ⟨m1, q1, ?_, i3⟩
  unfold F_X2_yearsOfNotions
  simp only [gdc_13, gac_13_0, gic_14_5, hx, pic_13_13, ob_some, lit]
  refine Eq.trans e ?_
  simp only [B_X2_yearsOfNotions_20]
  rcases (show k = 0 ∨ k = 1 by omega) with ek | ek <;> subst ek <;> simp (disch := omega) only [lit, le_T, reduceIte, eq_T, eq_F] <;> rfl
set_option maxRecDepth 4000 in
theorem years_M {m0 m : Nat → Nat → Int32} {q : Nat → Nat → Int64} {P A : Nat → Nat → Nat} {mm n p x k : Nat} {ρ : Option RT} (hQ : QM m0 P ρ (-nI 1)) (hA : MS P (blk m0 997) A) (hAh : A 0 1 ≤ 999) (hm : mm ≤ 10) (hn : n ≤ 60) (hp : p ≤ 100) (hk : k ≤ 1) (hx : m0 997 8 = nI x) (hx2 : x < 2147483648) (hK : KP m0 m) (hB : KB m0 m) (h47 : m 996 47 = -nI 1) : ∃ m1 q1, B_X12_notions_85 mk_fu 996 (nI mm) (nI n) (nI p) (nI k) (nI x) (nI x) (nI (nsum (A 6) (P 0 3))) (nI 0) (nI 0) (KS, m, q) = some (if k = 0 then (yrF P ρ p n x A mm).2.1 else (yrF P ρ p n x A mm).2.2, (KS, m1, q1)) ∧ KP m0 m1 ∧ KB m0 m1 ∧ m1 996 47 = -nI 1 := by
  obtain ⟨B1, B2, B3⟩ := hQ.1.2
  obtain ⟨f1, ⟨y1, y2, m1, q1⟩, e, i1, i2, i3, i4, i5⟩ := loop_up (fun f i (s : Int32 × Int32 × (Nat → Nat → Int32) × (Nat → Nat → Int64)) => B_X12_notions_85 f 996 (nI mm) (nI n) (nI p) (nI k) (nI x) s.1 (nI (nsum (A 6) (P 0 3))) s.2.1 (nI i) (KS, s.2.2.1, s.2.2.2)) mm (fun i s => s.1 = nI (yrF P ρ p n x A i).1 ∧ s.2.1 = (if k = 0 then (yrF P ρ p n x A i).2.1 else (yrF P ρ p n x A i).2.2) ∧ KP m0 s.2.2.1 ∧ KB m0 s.2.2.1 ∧ s.2.2.1 996 47 = -nI 1) (by
    intro f i ⟨y1, y2, m', q'⟩ hi ⟨i1, i2, i3, i4, i5⟩
    have i1 : y1 = _ := i1
    have i2 : y2 = _ := i2
    subst i1 i2
    have i3 : KP m0 m' := i3
    have i4 : KB m0 m' := i4
    have i5 : m' 996 47 = -nI 1 := i5
    have hyl := yrF_lt (P := P) (ρ := ρ) (p := p) (n := n) (A := A) hx2 i
    have eyr : yrF P ρ p n x A (i + 1) = ((ntF P ρ p ((yrF P ρ p n x A i).1, A) n).1, (yrF P ρ p n x A i).2.1 + (nI (nsum ((ntF P ρ p ((yrF P ρ p n x A i).1, A) n).2 6) (P 0 3)) - nI (nsum (A 6) (P 0 3))), (yrF P ρ p n x A i).2.2 + nI (pc ((ntF P ρ p ((yrF P ρ p n x A i).1, A) n).2 0 0))) := rfl
    rw [eyr]
    generalize yrF P ρ p n x A i = Y at *
    obtain ⟨y, g, r⟩ := Y
    have hyl : y < 2147483648 := hyl
    have hQ' := hQ.back i3.1 i4 i5
    have hA' := hA.back hQ.1 i4
    have hAb := ms_8 (v := nI y) hQ'.1 hA'
    have h8b : mk_u2 m' 997 8 (nI y) 997 8 = nI y := u2_s
    have kb : M8 m' (mk_u2 m' 997 8 (nI y)) := M8.d
    generalize hmb : mk_u2 m' 997 8 (nI y) = mb at hAb h8b kb
    obtain ⟨f2, ⟨mc, qc⟩, e2, j1, j2, j3⟩ := loop_up (fun f' j (s : (Nat → Nat → Int32) × (Nat → Nat → Int64)) => B_X12_notions_103 (B_X12_notions_85 f) f' 996 (nI mm) (nI n) (nI p) (nI k) (nI x) (nI (nsum (A 6) (P 0 3))) (if k = 0 then g else r) (nI i) (nI j) (KS, s.1, s.2)) n (fun j s => M8 m' s.1 ∧ s.1 997 8 = nI (ntF P ρ p (y, A) j).1 ∧ MS P (blk s.1 997) (ntF P ρ p (y, A) j).2) (by
      intro f' j ⟨ma, qa⟩ hj ⟨j1, j2, j3⟩
      obtain ⟨g1, g2⟩ := ntF_h (P := P) (ρ := ρ) (p := p) (s := (y, A)) hyl j
      have g1 : (ntF P ρ p (y, A) j).2 0 1 = A 0 1 + j := g1
      obtain ⟨ma1, ma2, qa2, z, x1, x2, x3, x4, x5⟩ := nt_M1 (q := qa) (p := p) (hQ'.m8 j1) j3 (by omega) hp j2 g2
      refine ⟨(ma2, qa2), ?_, j1.trans x3, x4, x5⟩
      simp only [B_X12_notions_103]
      simp (disch := omega) only [lit, le_F, reduceIte, ob_some, x1, x2, nI_add]) n 0 mk_fu (mb, q') (by omega) (by rw [mk_fu_eq]; omega) ⟨kb, h8b, hAb⟩
    have j1 : M8 m' mc := j1
    have j2 : mc 997 8 = nI (ntF P ρ p (y, A) n).1 := j2
    have j3 : MS P (blk mc 997) (ntF P ρ p (y, A) n).2 := j3
    have hPc := (hQ'.m8 j1).1
    have gr := malls (m := mc) (q := qc) (P := P) (A := (ntF P ρ p (y, A) n).2) hPc.1.2.2.2.1 (by omega) (fun k hk => (j3.2.1 k hk).1)
    have c6 : mc 997 6 = nI ((ntF P ρ p (y, A) n).2 0 0) := j3.2.2.2.1.1
    have c16 := j3.2.2.2.1.2
    obtain ⟨md, d1, d2, d3, d4, d5⟩ := laysBack_ok (q := qc) mc (i3.m8 j1)
    refine ⟨(nI (ntF P ρ p (y, A) n).1, if k = 0 then g + (nI (nsum ((ntF P ρ p (y, A) n).2 6) (P 0 3)) - nI (nsum (A 6) (P 0 3))) else r + nI (pc ((ntF P ρ p (y, A) n).2 0 0)), md, qc), ?_, rfl, rfl, d2, d3, by show md 996 47 = -nI 1; rw [d4 47 (by omega) (by omega), j1.1 996 (by omega)]; exact i5⟩
    simp only [B_X12_notions_85]
    simp (disch := omega) only [lit, le_F, reduceIte, gam_1, stm_997, ob_some, hmb]
    refine Eq.trans e2 ?_
    simp only [B_X12_notions_103, B_X12_notions_152]
    rcases (show k = 0 ∨ k = 1 by omega) with ek | ek <;> subst ek
    · simp (disch := omega) only [lit, le_T, reduceIte, eq_T, ob_some, gr, gam_1, ldm_997, j2, d1, nI_add]
    · simp (disch := omega) only [lit, le_T, reduceIte, eq_F, ob_some, gam_1, ldm_997, c6, bits_ok (show (ntF P ρ p (y, A) n).2 0 0 < 128 by omega), j2, d1, nI_add]
      rfl) mm 0 mk_fu (nI x, nI 0, m, q) (by omega) (by rw [mk_fu_eq]; omega) ⟨rfl, by show nI 0 = if k = 0 then nI 0 else nI 0; split <;> rfl, hK, hB, h47⟩
  have i1 : y1 = _ := i1
  have i2 : y2 = _ := i2
  subst i1 i2
  have i3 : KP m0 m1 := i3
  have i4 : KB m0 m1 := i4
  have i5 : m1 996 47 = -nI 1 := i5
  refine ⟨mk_u2 m1 997 8 (nI x), q1, ?_, i3.m8 M8.d, fun j c hj hc => ?_, by rw [u2_a (by omega)]; exact i5⟩
  · refine Eq.trans e ?_
    simp only [B_X12_notions_85]
    simp (disch := omega) only [lit, le_T, reduceIte, gam_1, stm_997, ob_some]
  · by_cases h8 : 997 + j = 997 ∧ c = 8
    · rw [h8.1, h8.2, u2_s]; exact hx.symm
    · rw [u2_at, if_neg h8]; exact i4 j c hj hc
set_option maxRecDepth 4000 in
theorem op_notions (x1 x2 x3 x4 : Int32) : OP (F_X11_notions 0 x1 x2 x3 x4) (F_X12_notions 996 x1 x2 x3 x4) := by
  intro m q hI
  obtain ⟨⟨⟨⟨len, by_⟩, ⟨nr, RS⟩, ⟨P, A, H, n, N, nn, fo, x⟩, IM, md⟩, hC, hM⟩, hE⟩ := id hI
  obtain ⟨⟨ct1, ct2, ct3⟩, ⟨cr1, cr2, cr3⟩, ⟨⟨cP, ⟨cA, cAh⟩, cH, ⟨cn1, cn2⟩, ⟨cf1, cf2⟩, ⟨cx1, cx2⟩⟩, cwf⟩, cm1, cm2⟩ := id hC
  obtain ⟨⟨mt1, mt2⟩, ⟨mr1, mr2⟩, ⟨mP, ⟨mA, mAh⟩, ⟨mh1, mh2, mh3⟩, ⟨mn1, mn2⟩, ⟨mf1, mf2⟩, ⟨mx1, mx2⟩⟩, mm1, mm2, mw, ms⟩ := id hM
  have cP5 : m 15 0 = nI (P 0 0) ∧ m 15 1 = nI (P 0 1) ∧ m 15 2 = nI (P 0 2) ∧ m 15 3 = nI (P 0 3) ∧ m 15 4 = nI (P 0 4) := cP.five
  have mP5 : m 997 0 = nI (P 0 0) ∧ m 997 1 = nI (P 0 1) ∧ m 997 2 = nI (P 0 2) ∧ m 997 3 = nI (P 0 3) ∧ m 997 4 = nI (P 0 4) := mP.five
  obtain ⟨B0, B1, B2, B3, B4, B5⟩ := cP.bd
  by_cases h0 : P 0 0 = 0
  · refine ⟨-nI 1, m, q, m, q, ?_, ?_, hI, fun _ _ => rfl⟩
    · unfold F_X11_notions; simp (disch := omega) only [ob_some, reduceIte, lit, le_T, le_F, lt_T, lt_F, eq_T, eq_F, nI_add, gac_0_0, gac_0_1, gac_0_2, gac_0_3, gac_0_4, gac_0_5, gac_0_6, gac_1_0, gic_1_1, gic_1_2, gic_1_3, gic_1_4, gic_1_5, gic_1_6, gac_3_0, gic_3_1, gic_3_2, gic_3_3, gic_3_4, gic_3_5, gic_3_6, gic_3_7, gic_5_0, gic_5_1, gic_5_2, gic_5_3, gic_5_4, gac_5_5, gac_5_6, gac_5_7, gac_5_8, gac_5_9, gac_5_10, gac_5_11, gac_13_0, gac_13_1, gic_13_2, gac_13_3, gac_13_4, gac_13_5, gac_13_6, gac_13_7, gac_13_8, gac_13_9, gic_13_10, gic_13_11, gic_13_12, gic_13_13, gac_14_0, gac_14_1, gac_14_2, gac_14_3, gic_14_4, gic_14_5, gic_15_0, gic_15_1, gic_15_2, gic_15_3, gic_15_4, gac_15_5, gac_15_6, gac_15_7, gac_15_8, gac_15_9, gac_15_10, gac_15_11, gac_23_0, gac_23_1, gac_23_2, gac_23_3, gac_23_4, gac_23_5, gac_23_6, gic_23_7, gic_23_8, gac_31_0, gic_31_1, gic_31_2, gac_193_0, gac_193_1, gac_193_2, gic_193_3, gac_198_0, gac_200_0, gac_200_1, gac_200_2, gac_200_3, gac_200_4, gac_200_5, gac_200_6, gic_200_7, gic_200_8, pic_1_1, pic_1_2, pic_1_3, pic_1_4, pic_1_5, pic_1_6, pic_3_1, pic_3_2, pic_3_3, pic_3_4, pic_3_5, pic_3_6, pic_3_7, pic_5_0, pic_5_1, pic_5_2, pic_5_3, pic_5_4, pic_13_2, pic_13_10, pic_13_11, pic_13_12, pic_13_13, pic_14_4, pic_14_5, pic_15_0, pic_15_1, pic_15_2, pic_15_3, pic_15_4, pic_23_7, pic_23_8, pic_31_1, pic_31_2, pic_193_3, pic_200_7, pic_200_8, gdc_0, gdc_1, gdc_3, gdc_5, gdc_13, gdc_14, gdc_15, gdc_23, gdc_31, gdc_193, gdc_198, gdc_200, ldc_2, stc_2, ldc_4, stc_4, ldc_6, stc_6, ldc_7, stc_7, ldc_8, stc_8, ldc_9, stc_9, ldc_10, stc_10, ldc_11, stc_11, ldc_12, stc_12, ldc_16, stc_16, ldc_17, stc_17, ldc_18, stc_18, ldc_19, stc_19, ldc_20, stc_20, ldc_21, stc_21, ldc_22, stc_22, ldc_24, stc_24, ldc_25, stc_25, ldc_26, stc_26, ldc_27, stc_27, ldc_28, stc_28, ldc_29, stc_29, ldc_30, stc_30, ldc_194, stc_194, ldc_195, stc_195, ldc_196, stc_196, ldc_199, stc_199, ldc_201, stc_201, ldc_202, stc_202, ldc_203, stc_203, ldc_204, stc_204, ldc_205, stc_205, ldc_206, stc_206, ldc_207, stc_207, ldc_208, stc_208, ldc_209, stc_209, ldc_210, stc_210, ldc_211, stc_211, ldc_213, stc_213, ldc_214, stc_214, ldc_215, stc_215, ldc_216, stc_216, ldc_217, stc_217, ldc_218, stc_218, ldc_219, stc_219, ldc_263, stc_263, lda_197, lda_262, lda_212, lda_32, u2_s, u2_a, u2_b, isPla_C cP5.1, h0]
    · unfold F_X12_notions; simp (disch := omega) only [gdm, gam_1, gam_2, gam_3, gam_4, gam_5, gam_6, gam_7, gam_8, gam_9, gam_10, gam_11, gam_12, gam_13, gam_14, gam_15, gam_16, gam_17, gam_18, gam_19, gam_20, gam_21, gam_22, gam_23, gam_24, gam_25, gam_26, gam_37, gam_38, gam_39, gam_40, gam_41, gam_42, gam_43, gam_44, gam_45, gam_46, gam_48, gam_49, gam_56, gam_57, gam_58, gam_59, gam_60, gam_61, gim_27, gim_28, gim_29, gim_30, gim_31, gim_32, gim_33, gim_34, gim_35, gim_36, gim_47, gim_50, gim_51, gim_52, gim_53, gim_54, gim_55, gim_62, gim_63, ob_some, reduceIte, lit, le_T, le_F, lt_T, lt_F, eq_T, eq_F, nI_add, ldm_997, stm_997, ldm_998, stm_998, ldm_999, stm_999, ldm_1000, stm_1000, ldm_1001, stm_1001, ldm_1002, stm_1002, ldm_1003, stm_1003, ldm_1004, stm_1004, ldm_1005, stm_1005, ldm_1006, stm_1006, ldm_1007, stm_1007, ldm_1008, stm_1008, ldm_1009, stm_1009, ldm_1010, stm_1010, ldm_1011, stm_1011, ldm_1012, stm_1012, ldm_1013, stm_1013, ldm_1014, stm_1014, ldm_1015, stm_1015, ldm_1016, stm_1016, ldm_1017, stm_1017, ldm_1018, stm_1018, ldm_1019, stm_1019, ldm_1020, stm_1020, ldm_1021, stm_1021, ldm_1022, stm_1022, u2_s, u2_a, u2_b, not_true, not_false_iff, isPla_M mP5.1, h0]
  have h0 : 0 < P 0 0 := by omega
  rcases within_CL x1 1 10 (by omega) (by omega) with ⟨mm, hm0, hm1, rfl⟩ | hno
  rotate_left
  · refine ⟨-nI 1, m, q, m, q, ?_, ?_, hI, fun _ _ => rfl⟩
    · unfold F_X11_notions; simp (disch := omega) only [ob_some, reduceIte, lit, le_T, le_F, lt_T, lt_F, eq_T, eq_F, nI_add, gac_0_0, gac_0_1, gac_0_2, gac_0_3, gac_0_4, gac_0_5, gac_0_6, gac_1_0, gic_1_1, gic_1_2, gic_1_3, gic_1_4, gic_1_5, gic_1_6, gac_3_0, gic_3_1, gic_3_2, gic_3_3, gic_3_4, gic_3_5, gic_3_6, gic_3_7, gic_5_0, gic_5_1, gic_5_2, gic_5_3, gic_5_4, gac_5_5, gac_5_6, gac_5_7, gac_5_8, gac_5_9, gac_5_10, gac_5_11, gac_13_0, gac_13_1, gic_13_2, gac_13_3, gac_13_4, gac_13_5, gac_13_6, gac_13_7, gac_13_8, gac_13_9, gic_13_10, gic_13_11, gic_13_12, gic_13_13, gac_14_0, gac_14_1, gac_14_2, gac_14_3, gic_14_4, gic_14_5, gic_15_0, gic_15_1, gic_15_2, gic_15_3, gic_15_4, gac_15_5, gac_15_6, gac_15_7, gac_15_8, gac_15_9, gac_15_10, gac_15_11, gac_23_0, gac_23_1, gac_23_2, gac_23_3, gac_23_4, gac_23_5, gac_23_6, gic_23_7, gic_23_8, gac_31_0, gic_31_1, gic_31_2, gac_193_0, gac_193_1, gac_193_2, gic_193_3, gac_198_0, gac_200_0, gac_200_1, gac_200_2, gac_200_3, gac_200_4, gac_200_5, gac_200_6, gic_200_7, gic_200_8, pic_1_1, pic_1_2, pic_1_3, pic_1_4, pic_1_5, pic_1_6, pic_3_1, pic_3_2, pic_3_3, pic_3_4, pic_3_5, pic_3_6, pic_3_7, pic_5_0, pic_5_1, pic_5_2, pic_5_3, pic_5_4, pic_13_2, pic_13_10, pic_13_11, pic_13_12, pic_13_13, pic_14_4, pic_14_5, pic_15_0, pic_15_1, pic_15_2, pic_15_3, pic_15_4, pic_23_7, pic_23_8, pic_31_1, pic_31_2, pic_193_3, pic_200_7, pic_200_8, gdc_0, gdc_1, gdc_3, gdc_5, gdc_13, gdc_14, gdc_15, gdc_23, gdc_31, gdc_193, gdc_198, gdc_200, ldc_2, stc_2, ldc_4, stc_4, ldc_6, stc_6, ldc_7, stc_7, ldc_8, stc_8, ldc_9, stc_9, ldc_10, stc_10, ldc_11, stc_11, ldc_12, stc_12, ldc_16, stc_16, ldc_17, stc_17, ldc_18, stc_18, ldc_19, stc_19, ldc_20, stc_20, ldc_21, stc_21, ldc_22, stc_22, ldc_24, stc_24, ldc_25, stc_25, ldc_26, stc_26, ldc_27, stc_27, ldc_28, stc_28, ldc_29, stc_29, ldc_30, stc_30, ldc_194, stc_194, ldc_195, stc_195, ldc_196, stc_196, ldc_199, stc_199, ldc_201, stc_201, ldc_202, stc_202, ldc_203, stc_203, ldc_204, stc_204, ldc_205, stc_205, ldc_206, stc_206, ldc_207, stc_207, ldc_208, stc_208, ldc_209, stc_209, ldc_210, stc_210, ldc_211, stc_211, ldc_213, stc_213, ldc_214, stc_214, ldc_215, stc_215, ldc_216, stc_216, ldc_217, stc_217, ldc_218, stc_218, ldc_219, stc_219, ldc_263, stc_263, lda_197, lda_262, lda_212, lda_32, u2_s, u2_a, u2_b, isPla_T cP5.1, hno]
    · unfold F_X12_notions; simp (disch := omega) only [gdm, gam_1, gam_2, gam_3, gam_4, gam_5, gam_6, gam_7, gam_8, gam_9, gam_10, gam_11, gam_12, gam_13, gam_14, gam_15, gam_16, gam_17, gam_18, gam_19, gam_20, gam_21, gam_22, gam_23, gam_24, gam_25, gam_26, gam_37, gam_38, gam_39, gam_40, gam_41, gam_42, gam_43, gam_44, gam_45, gam_46, gam_48, gam_49, gam_56, gam_57, gam_58, gam_59, gam_60, gam_61, gim_27, gim_28, gim_29, gim_30, gim_31, gim_32, gim_33, gim_34, gim_35, gim_36, gim_47, gim_50, gim_51, gim_52, gim_53, gim_54, gim_55, gim_62, gim_63, ob_some, reduceIte, lit, le_T, le_F, lt_T, lt_F, eq_T, eq_F, nI_add, ldm_997, stm_997, ldm_998, stm_998, ldm_999, stm_999, ldm_1000, stm_1000, ldm_1001, stm_1001, ldm_1002, stm_1002, ldm_1003, stm_1003, ldm_1004, stm_1004, ldm_1005, stm_1005, ldm_1006, stm_1006, ldm_1007, stm_1007, ldm_1008, stm_1008, ldm_1009, stm_1009, ldm_1010, stm_1010, ldm_1011, stm_1011, ldm_1012, stm_1012, ldm_1013, stm_1013, ldm_1014, stm_1014, ldm_1015, stm_1015, ldm_1016, stm_1016, ldm_1017, stm_1017, ldm_1018, stm_1018, ldm_1019, stm_1019, ldm_1020, stm_1020, ldm_1021, stm_1021, ldm_1022, stm_1022, u2_s, u2_a, u2_b, not_true, not_false_iff, isPla_TM mP5.1, in_1_10, hno]
  rcases within_CL x2 1 60 (by omega) (by omega) with ⟨n1, hn0, hn1, rfl⟩ | hno
  rotate_left
  · refine ⟨-nI 1, m, q, m, q, ?_, ?_, hI, fun _ _ => rfl⟩
    · unfold F_X11_notions; simp (disch := omega) only [ob_some, reduceIte, lit, le_T, le_F, lt_T, lt_F, eq_T, eq_F, nI_add, gac_0_0, gac_0_1, gac_0_2, gac_0_3, gac_0_4, gac_0_5, gac_0_6, gac_1_0, gic_1_1, gic_1_2, gic_1_3, gic_1_4, gic_1_5, gic_1_6, gac_3_0, gic_3_1, gic_3_2, gic_3_3, gic_3_4, gic_3_5, gic_3_6, gic_3_7, gic_5_0, gic_5_1, gic_5_2, gic_5_3, gic_5_4, gac_5_5, gac_5_6, gac_5_7, gac_5_8, gac_5_9, gac_5_10, gac_5_11, gac_13_0, gac_13_1, gic_13_2, gac_13_3, gac_13_4, gac_13_5, gac_13_6, gac_13_7, gac_13_8, gac_13_9, gic_13_10, gic_13_11, gic_13_12, gic_13_13, gac_14_0, gac_14_1, gac_14_2, gac_14_3, gic_14_4, gic_14_5, gic_15_0, gic_15_1, gic_15_2, gic_15_3, gic_15_4, gac_15_5, gac_15_6, gac_15_7, gac_15_8, gac_15_9, gac_15_10, gac_15_11, gac_23_0, gac_23_1, gac_23_2, gac_23_3, gac_23_4, gac_23_5, gac_23_6, gic_23_7, gic_23_8, gac_31_0, gic_31_1, gic_31_2, gac_193_0, gac_193_1, gac_193_2, gic_193_3, gac_198_0, gac_200_0, gac_200_1, gac_200_2, gac_200_3, gac_200_4, gac_200_5, gac_200_6, gic_200_7, gic_200_8, pic_1_1, pic_1_2, pic_1_3, pic_1_4, pic_1_5, pic_1_6, pic_3_1, pic_3_2, pic_3_3, pic_3_4, pic_3_5, pic_3_6, pic_3_7, pic_5_0, pic_5_1, pic_5_2, pic_5_3, pic_5_4, pic_13_2, pic_13_10, pic_13_11, pic_13_12, pic_13_13, pic_14_4, pic_14_5, pic_15_0, pic_15_1, pic_15_2, pic_15_3, pic_15_4, pic_23_7, pic_23_8, pic_31_1, pic_31_2, pic_193_3, pic_200_7, pic_200_8, gdc_0, gdc_1, gdc_3, gdc_5, gdc_13, gdc_14, gdc_15, gdc_23, gdc_31, gdc_193, gdc_198, gdc_200, ldc_2, stc_2, ldc_4, stc_4, ldc_6, stc_6, ldc_7, stc_7, ldc_8, stc_8, ldc_9, stc_9, ldc_10, stc_10, ldc_11, stc_11, ldc_12, stc_12, ldc_16, stc_16, ldc_17, stc_17, ldc_18, stc_18, ldc_19, stc_19, ldc_20, stc_20, ldc_21, stc_21, ldc_22, stc_22, ldc_24, stc_24, ldc_25, stc_25, ldc_26, stc_26, ldc_27, stc_27, ldc_28, stc_28, ldc_29, stc_29, ldc_30, stc_30, ldc_194, stc_194, ldc_195, stc_195, ldc_196, stc_196, ldc_199, stc_199, ldc_201, stc_201, ldc_202, stc_202, ldc_203, stc_203, ldc_204, stc_204, ldc_205, stc_205, ldc_206, stc_206, ldc_207, stc_207, ldc_208, stc_208, ldc_209, stc_209, ldc_210, stc_210, ldc_211, stc_211, ldc_213, stc_213, ldc_214, stc_214, ldc_215, stc_215, ldc_216, stc_216, ldc_217, stc_217, ldc_218, stc_218, ldc_219, stc_219, ldc_263, stc_263, lda_197, lda_262, lda_212, lda_32, u2_s, u2_a, u2_b, isPla_T cP5.1, within_TL, hno]
    · unfold F_X12_notions; simp (disch := omega) only [gdm, gam_1, gam_2, gam_3, gam_4, gam_5, gam_6, gam_7, gam_8, gam_9, gam_10, gam_11, gam_12, gam_13, gam_14, gam_15, gam_16, gam_17, gam_18, gam_19, gam_20, gam_21, gam_22, gam_23, gam_24, gam_25, gam_26, gam_37, gam_38, gam_39, gam_40, gam_41, gam_42, gam_43, gam_44, gam_45, gam_46, gam_48, gam_49, gam_56, gam_57, gam_58, gam_59, gam_60, gam_61, gim_27, gim_28, gim_29, gim_30, gim_31, gim_32, gim_33, gim_34, gim_35, gim_36, gim_47, gim_50, gim_51, gim_52, gim_53, gim_54, gim_55, gim_62, gim_63, ob_some, reduceIte, lit, le_T, le_F, lt_T, lt_F, eq_T, eq_F, nI_add, ldm_997, stm_997, ldm_998, stm_998, ldm_999, stm_999, ldm_1000, stm_1000, ldm_1001, stm_1001, ldm_1002, stm_1002, ldm_1003, stm_1003, ldm_1004, stm_1004, ldm_1005, stm_1005, ldm_1006, stm_1006, ldm_1007, stm_1007, ldm_1008, stm_1008, ldm_1009, stm_1009, ldm_1010, stm_1010, ldm_1011, stm_1011, ldm_1012, stm_1012, ldm_1013, stm_1013, ldm_1014, stm_1014, ldm_1015, stm_1015, ldm_1016, stm_1016, ldm_1017, stm_1017, ldm_1018, stm_1018, ldm_1019, stm_1019, ldm_1020, stm_1020, ldm_1021, stm_1021, ldm_1022, stm_1022, u2_s, u2_a, u2_b, not_true, not_false_iff, isPla_TM mP5.1, within_TL, in_1_10, in_1_60, hno]
  rcases within_CL x3 0 100 (by omega) (by omega) with ⟨p, -, hp, rfl⟩ | hno
  rotate_left
  · refine ⟨-nI 1, m, q, m, q, ?_, ?_, hI, fun _ _ => rfl⟩
    · unfold F_X11_notions; simp (disch := omega) only [ob_some, reduceIte, lit, le_T, le_F, lt_T, lt_F, eq_T, eq_F, nI_add, gac_0_0, gac_0_1, gac_0_2, gac_0_3, gac_0_4, gac_0_5, gac_0_6, gac_1_0, gic_1_1, gic_1_2, gic_1_3, gic_1_4, gic_1_5, gic_1_6, gac_3_0, gic_3_1, gic_3_2, gic_3_3, gic_3_4, gic_3_5, gic_3_6, gic_3_7, gic_5_0, gic_5_1, gic_5_2, gic_5_3, gic_5_4, gac_5_5, gac_5_6, gac_5_7, gac_5_8, gac_5_9, gac_5_10, gac_5_11, gac_13_0, gac_13_1, gic_13_2, gac_13_3, gac_13_4, gac_13_5, gac_13_6, gac_13_7, gac_13_8, gac_13_9, gic_13_10, gic_13_11, gic_13_12, gic_13_13, gac_14_0, gac_14_1, gac_14_2, gac_14_3, gic_14_4, gic_14_5, gic_15_0, gic_15_1, gic_15_2, gic_15_3, gic_15_4, gac_15_5, gac_15_6, gac_15_7, gac_15_8, gac_15_9, gac_15_10, gac_15_11, gac_23_0, gac_23_1, gac_23_2, gac_23_3, gac_23_4, gac_23_5, gac_23_6, gic_23_7, gic_23_8, gac_31_0, gic_31_1, gic_31_2, gac_193_0, gac_193_1, gac_193_2, gic_193_3, gac_198_0, gac_200_0, gac_200_1, gac_200_2, gac_200_3, gac_200_4, gac_200_5, gac_200_6, gic_200_7, gic_200_8, pic_1_1, pic_1_2, pic_1_3, pic_1_4, pic_1_5, pic_1_6, pic_3_1, pic_3_2, pic_3_3, pic_3_4, pic_3_5, pic_3_6, pic_3_7, pic_5_0, pic_5_1, pic_5_2, pic_5_3, pic_5_4, pic_13_2, pic_13_10, pic_13_11, pic_13_12, pic_13_13, pic_14_4, pic_14_5, pic_15_0, pic_15_1, pic_15_2, pic_15_3, pic_15_4, pic_23_7, pic_23_8, pic_31_1, pic_31_2, pic_193_3, pic_200_7, pic_200_8, gdc_0, gdc_1, gdc_3, gdc_5, gdc_13, gdc_14, gdc_15, gdc_23, gdc_31, gdc_193, gdc_198, gdc_200, ldc_2, stc_2, ldc_4, stc_4, ldc_6, stc_6, ldc_7, stc_7, ldc_8, stc_8, ldc_9, stc_9, ldc_10, stc_10, ldc_11, stc_11, ldc_12, stc_12, ldc_16, stc_16, ldc_17, stc_17, ldc_18, stc_18, ldc_19, stc_19, ldc_20, stc_20, ldc_21, stc_21, ldc_22, stc_22, ldc_24, stc_24, ldc_25, stc_25, ldc_26, stc_26, ldc_27, stc_27, ldc_28, stc_28, ldc_29, stc_29, ldc_30, stc_30, ldc_194, stc_194, ldc_195, stc_195, ldc_196, stc_196, ldc_199, stc_199, ldc_201, stc_201, ldc_202, stc_202, ldc_203, stc_203, ldc_204, stc_204, ldc_205, stc_205, ldc_206, stc_206, ldc_207, stc_207, ldc_208, stc_208, ldc_209, stc_209, ldc_210, stc_210, ldc_211, stc_211, ldc_213, stc_213, ldc_214, stc_214, ldc_215, stc_215, ldc_216, stc_216, ldc_217, stc_217, ldc_218, stc_218, ldc_219, stc_219, ldc_263, stc_263, lda_197, lda_262, lda_212, lda_32, u2_s, u2_a, u2_b, isPla_T cP5.1, within_TL, hno]
    · unfold F_X12_notions; simp (disch := omega) only [gdm, gam_1, gam_2, gam_3, gam_4, gam_5, gam_6, gam_7, gam_8, gam_9, gam_10, gam_11, gam_12, gam_13, gam_14, gam_15, gam_16, gam_17, gam_18, gam_19, gam_20, gam_21, gam_22, gam_23, gam_24, gam_25, gam_26, gam_37, gam_38, gam_39, gam_40, gam_41, gam_42, gam_43, gam_44, gam_45, gam_46, gam_48, gam_49, gam_56, gam_57, gam_58, gam_59, gam_60, gam_61, gim_27, gim_28, gim_29, gim_30, gim_31, gim_32, gim_33, gim_34, gim_35, gim_36, gim_47, gim_50, gim_51, gim_52, gim_53, gim_54, gim_55, gim_62, gim_63, ob_some, reduceIte, lit, le_T, le_F, lt_T, lt_F, eq_T, eq_F, nI_add, ldm_997, stm_997, ldm_998, stm_998, ldm_999, stm_999, ldm_1000, stm_1000, ldm_1001, stm_1001, ldm_1002, stm_1002, ldm_1003, stm_1003, ldm_1004, stm_1004, ldm_1005, stm_1005, ldm_1006, stm_1006, ldm_1007, stm_1007, ldm_1008, stm_1008, ldm_1009, stm_1009, ldm_1010, stm_1010, ldm_1011, stm_1011, ldm_1012, stm_1012, ldm_1013, stm_1013, ldm_1014, stm_1014, ldm_1015, stm_1015, ldm_1016, stm_1016, ldm_1017, stm_1017, ldm_1018, stm_1018, ldm_1019, stm_1019, ldm_1020, stm_1020, ldm_1021, stm_1021, ldm_1022, stm_1022, u2_s, u2_a, u2_b, not_true, not_false_iff, isPla_TM mP5.1, within_TL, in_1_10, in_1_60, in_0_100, hno]
  rcases within_CL x4 0 1 (by omega) (by omega) with ⟨k, -, hk, rfl⟩ | hno
  rotate_left
  · refine ⟨-nI 1, m, q, m, q, ?_, ?_, hI, fun _ _ => rfl⟩
    · unfold F_X11_notions; simp (disch := omega) only [ob_some, reduceIte, lit, le_T, le_F, lt_T, lt_F, eq_T, eq_F, nI_add, gac_0_0, gac_0_1, gac_0_2, gac_0_3, gac_0_4, gac_0_5, gac_0_6, gac_1_0, gic_1_1, gic_1_2, gic_1_3, gic_1_4, gic_1_5, gic_1_6, gac_3_0, gic_3_1, gic_3_2, gic_3_3, gic_3_4, gic_3_5, gic_3_6, gic_3_7, gic_5_0, gic_5_1, gic_5_2, gic_5_3, gic_5_4, gac_5_5, gac_5_6, gac_5_7, gac_5_8, gac_5_9, gac_5_10, gac_5_11, gac_13_0, gac_13_1, gic_13_2, gac_13_3, gac_13_4, gac_13_5, gac_13_6, gac_13_7, gac_13_8, gac_13_9, gic_13_10, gic_13_11, gic_13_12, gic_13_13, gac_14_0, gac_14_1, gac_14_2, gac_14_3, gic_14_4, gic_14_5, gic_15_0, gic_15_1, gic_15_2, gic_15_3, gic_15_4, gac_15_5, gac_15_6, gac_15_7, gac_15_8, gac_15_9, gac_15_10, gac_15_11, gac_23_0, gac_23_1, gac_23_2, gac_23_3, gac_23_4, gac_23_5, gac_23_6, gic_23_7, gic_23_8, gac_31_0, gic_31_1, gic_31_2, gac_193_0, gac_193_1, gac_193_2, gic_193_3, gac_198_0, gac_200_0, gac_200_1, gac_200_2, gac_200_3, gac_200_4, gac_200_5, gac_200_6, gic_200_7, gic_200_8, pic_1_1, pic_1_2, pic_1_3, pic_1_4, pic_1_5, pic_1_6, pic_3_1, pic_3_2, pic_3_3, pic_3_4, pic_3_5, pic_3_6, pic_3_7, pic_5_0, pic_5_1, pic_5_2, pic_5_3, pic_5_4, pic_13_2, pic_13_10, pic_13_11, pic_13_12, pic_13_13, pic_14_4, pic_14_5, pic_15_0, pic_15_1, pic_15_2, pic_15_3, pic_15_4, pic_23_7, pic_23_8, pic_31_1, pic_31_2, pic_193_3, pic_200_7, pic_200_8, gdc_0, gdc_1, gdc_3, gdc_5, gdc_13, gdc_14, gdc_15, gdc_23, gdc_31, gdc_193, gdc_198, gdc_200, ldc_2, stc_2, ldc_4, stc_4, ldc_6, stc_6, ldc_7, stc_7, ldc_8, stc_8, ldc_9, stc_9, ldc_10, stc_10, ldc_11, stc_11, ldc_12, stc_12, ldc_16, stc_16, ldc_17, stc_17, ldc_18, stc_18, ldc_19, stc_19, ldc_20, stc_20, ldc_21, stc_21, ldc_22, stc_22, ldc_24, stc_24, ldc_25, stc_25, ldc_26, stc_26, ldc_27, stc_27, ldc_28, stc_28, ldc_29, stc_29, ldc_30, stc_30, ldc_194, stc_194, ldc_195, stc_195, ldc_196, stc_196, ldc_199, stc_199, ldc_201, stc_201, ldc_202, stc_202, ldc_203, stc_203, ldc_204, stc_204, ldc_205, stc_205, ldc_206, stc_206, ldc_207, stc_207, ldc_208, stc_208, ldc_209, stc_209, ldc_210, stc_210, ldc_211, stc_211, ldc_213, stc_213, ldc_214, stc_214, ldc_215, stc_215, ldc_216, stc_216, ldc_217, stc_217, ldc_218, stc_218, ldc_219, stc_219, ldc_263, stc_263, lda_197, lda_262, lda_212, lda_32, u2_s, u2_a, u2_b, isPla_T cP5.1, within_TL, hno]
    · unfold F_X12_notions; simp (disch := omega) only [gdm, gam_1, gam_2, gam_3, gam_4, gam_5, gam_6, gam_7, gam_8, gam_9, gam_10, gam_11, gam_12, gam_13, gam_14, gam_15, gam_16, gam_17, gam_18, gam_19, gam_20, gam_21, gam_22, gam_23, gam_24, gam_25, gam_26, gam_37, gam_38, gam_39, gam_40, gam_41, gam_42, gam_43, gam_44, gam_45, gam_46, gam_48, gam_49, gam_56, gam_57, gam_58, gam_59, gam_60, gam_61, gim_27, gim_28, gim_29, gim_30, gim_31, gim_32, gim_33, gim_34, gim_35, gim_36, gim_47, gim_50, gim_51, gim_52, gim_53, gim_54, gim_55, gim_62, gim_63, ob_some, reduceIte, lit, le_T, le_F, lt_T, lt_F, eq_T, eq_F, nI_add, ldm_997, stm_997, ldm_998, stm_998, ldm_999, stm_999, ldm_1000, stm_1000, ldm_1001, stm_1001, ldm_1002, stm_1002, ldm_1003, stm_1003, ldm_1004, stm_1004, ldm_1005, stm_1005, ldm_1006, stm_1006, ldm_1007, stm_1007, ldm_1008, stm_1008, ldm_1009, stm_1009, ldm_1010, stm_1010, ldm_1011, stm_1011, ldm_1012, stm_1012, ldm_1013, stm_1013, ldm_1014, stm_1014, ldm_1015, stm_1015, ldm_1016, stm_1016, ldm_1017, stm_1017, ldm_1018, stm_1018, ldm_1019, stm_1019, ldm_1020, stm_1020, ldm_1021, stm_1021, ldm_1022, stm_1022, u2_s, u2_a, u2_b, not_true, not_false_iff, isPla_TM mP5.1, within_TL, in_1_10, in_1_60, in_0_100, in_0_1, hno]
  obtain ⟨hQ, h4, hf6⟩ := qc_of hC hE h0
  obtain ⟨mb, qb, b1, kb⟩ := years_C (q := q) hQ h4 hf6 hm1 hn1 hp hk cx1 cx2
  obtain ⟨hQM, hMS⟩ := qm_of hC hM h0 kb
  have hM1 : MI _ mb := hM.same (fun i h1 h2 => kb.1 i (by omega) (by omega))
  have hx8 : mb 997 8 = nI x := hM1.2.2.1.2.2.2.2.2.1
  obtain ⟨mc, k1, k2, k3, k4, k5⟩ := keepsAll_ok (q := qb) mb
  have gr := malls (m := mb) (q := qb) (P := P) (A := A) hQM.1.1.2.2.2.1 B3 (fun k hk => (hMS.2.1 k hk).1)
  obtain ⟨me, qe, e1, e2, e3, e4⟩ := years_M (q := qb) hQM hMS cAh hm1 hn1 hp hk hx8 cx2 k2 k3 ((k4 47 (by omega) (by omega)).trans hQM.2.2)
  obtain ⟨f1, f2⟩ := ask_fin hC hM hE kb e2.1 e3 (e4.trans hQM.2.2.symm)
  have hP0 : mb 997 0 = nI (P 0 0) := hQM.1.1.1
  refine ⟨_, mb, qb, me, qe, ?_, Eq.trans ?_ e1, f1, f2⟩
  · unfold F_X11_notions
    simp (disch := omega) only [ob_some, reduceIte, lit, le_T, le_F, lt_T, lt_F, eq_T, eq_F, nI_add, gac_0_0, gac_0_1, gac_0_2, gac_0_3, gac_0_4, gac_0_5, gac_0_6, gac_1_0, gic_1_1, gic_1_2, gic_1_3, gic_1_4, gic_1_5, gic_1_6, gac_3_0, gic_3_1, gic_3_2, gic_3_3, gic_3_4, gic_3_5, gic_3_6, gic_3_7, gic_5_0, gic_5_1, gic_5_2, gic_5_3, gic_5_4, gac_5_5, gac_5_6, gac_5_7, gac_5_8, gac_5_9, gac_5_10, gac_5_11, gac_13_0, gac_13_1, gic_13_2, gac_13_3, gac_13_4, gac_13_5, gac_13_6, gac_13_7, gac_13_8, gac_13_9, gic_13_10, gic_13_11, gic_13_12, gic_13_13, gac_14_0, gac_14_1, gac_14_2, gac_14_3, gic_14_4, gic_14_5, gic_15_0, gic_15_1, gic_15_2, gic_15_3, gic_15_4, gac_15_5, gac_15_6, gac_15_7, gac_15_8, gac_15_9, gac_15_10, gac_15_11, gac_23_0, gac_23_1, gac_23_2, gac_23_3, gac_23_4, gac_23_5, gac_23_6, gic_23_7, gic_23_8, gac_31_0, gic_31_1, gic_31_2, gac_193_0, gac_193_1, gac_193_2, gic_193_3, gac_198_0, gac_200_0, gac_200_1, gac_200_2, gac_200_3, gac_200_4, gac_200_5, gac_200_6, gic_200_7, gic_200_8, pic_1_1, pic_1_2, pic_1_3, pic_1_4, pic_1_5, pic_1_6, pic_3_1, pic_3_2, pic_3_3, pic_3_4, pic_3_5, pic_3_6, pic_3_7, pic_5_0, pic_5_1, pic_5_2, pic_5_3, pic_5_4, pic_13_2, pic_13_10, pic_13_11, pic_13_12, pic_13_13, pic_14_4, pic_14_5, pic_15_0, pic_15_1, pic_15_2, pic_15_3, pic_15_4, pic_23_7, pic_23_8, pic_31_1, pic_31_2, pic_193_3, pic_200_7, pic_200_8, gdc_0, gdc_1, gdc_3, gdc_5, gdc_13, gdc_14, gdc_15, gdc_23, gdc_31, gdc_193, gdc_198, gdc_200, ldc_2, stc_2, ldc_4, stc_4, ldc_6, stc_6, ldc_7, stc_7, ldc_8, stc_8, ldc_9, stc_9, ldc_10, stc_10, ldc_11, stc_11, ldc_12, stc_12, ldc_16, stc_16, ldc_17, stc_17, ldc_18, stc_18, ldc_19, stc_19, ldc_20, stc_20, ldc_21, stc_21, ldc_22, stc_22, ldc_24, stc_24, ldc_25, stc_25, ldc_26, stc_26, ldc_27, stc_27, ldc_28, stc_28, ldc_29, stc_29, ldc_30, stc_30, ldc_194, stc_194, ldc_195, stc_195, ldc_196, stc_196, ldc_199, stc_199, ldc_201, stc_201, ldc_202, stc_202, ldc_203, stc_203, ldc_204, stc_204, ldc_205, stc_205, ldc_206, stc_206, ldc_207, stc_207, ldc_208, stc_208, ldc_209, stc_209, ldc_210, stc_210, ldc_211, stc_211, ldc_213, stc_213, ldc_214, stc_214, ldc_215, stc_215, ldc_216, stc_216, ldc_217, stc_217, ldc_218, stc_218, ldc_219, stc_219, ldc_263, stc_263, lda_197, lda_262, lda_212, lda_32, u2_s, u2_a, u2_b, isPla_T cP5.1, within_TL, b1]
  · unfold F_X12_notions
    simp (disch := omega) only [gdm, gam_1, gam_2, gam_3, gam_4, gam_5, gam_6, gam_7, gam_8, gam_9, gam_10, gam_11, gam_12, gam_13, gam_14, gam_15, gam_16, gam_17, gam_18, gam_19, gam_20, gam_21, gam_22, gam_23, gam_24, gam_25, gam_26, gam_37, gam_38, gam_39, gam_40, gam_41, gam_42, gam_43, gam_44, gam_45, gam_46, gam_48, gam_49, gam_56, gam_57, gam_58, gam_59, gam_60, gam_61, gim_27, gim_28, gim_29, gim_30, gim_31, gim_32, gim_33, gim_34, gim_35, gim_36, gim_47, gim_50, gim_51, gim_52, gim_53, gim_54, gim_55, gim_62, gim_63, ob_some, reduceIte, lit, le_T, le_F, lt_T, lt_F, eq_T, eq_F, nI_add, ldm_997, stm_997, ldm_998, stm_998, ldm_999, stm_999, ldm_1000, stm_1000, ldm_1001, stm_1001, ldm_1002, stm_1002, ldm_1003, stm_1003, ldm_1004, stm_1004, ldm_1005, stm_1005, ldm_1006, stm_1006, ldm_1007, stm_1007, ldm_1008, stm_1008, ldm_1009, stm_1009, ldm_1010, stm_1010, ldm_1011, stm_1011, ldm_1012, stm_1012, ldm_1013, stm_1013, ldm_1014, stm_1014, ldm_1015, stm_1015, ldm_1016, stm_1016, ldm_1017, stm_1017, ldm_1018, stm_1018, ldm_1019, stm_1019, ldm_1020, stm_1020, ldm_1021, stm_1021, ldm_1022, stm_1022, u2_s, u2_a, u2_b, not_true, not_false_iff, isPla_TM hP0, within_TL, in_1_10, in_1_60, in_0_100, in_0_1, hx8, gr, k1]
