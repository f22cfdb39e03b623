def M_J3 : mk_M := (yJ3_checkIndex_8e157, cJ3_checkIndex_8e157, 3, some .int, 0, 0)
theorem md_J3 : mk_MD M_J3 3 := ⟨(mk_w3 (i := 63) rfl rfl), (mk_w1 (i := 16) rfl rfl), by decide, by decide, by decide +kernel⟩
theorem ms_J3 : Cond.static M_J3.1 ∈ lw_gw := (mk_w3 (i := 62) rfl rfl)
def M_JC : mk_M := (yJ0_checkIndex_df160, cJ0_checkIndex_df160, 2, none, 1, 22)
theorem md_JC : mk_MD M_JC 2 := ⟨(mk_w3 (i := 58) rfl rfl), (mk_w1 (i := 14) rfl rfl), by decide, by decide, by decide +kernel⟩
theorem ms_JC : Cond.static M_JC.1 ∈ lw_gw := (mk_w3 (i := 57) rfl rfl)
def M_J1 : mk_M := (yJ1_charAt_3b067, cJ1_charAt_3b067, 2, some .char, 2, 43)
theorem md_J1 : mk_MD M_J1 2 := ⟨(mk_w3 (i := 55) rfl rfl), (mk_w1 (i := 15) rfl rfl), by decide, by decide, by decide +kernel⟩
theorem ms_J1 : Cond.static M_J1.1 ∈ lw_gw := (mk_w3 (i := 54) rfl rfl)
def M_JA : mk_M := (yJ0_charAt_5068e, cJ0_charAt_5068e, 2, some .char, 3, 64)
theorem md_JA : mk_MD M_JA 1 := ⟨(mk_w3 (i := 48) rfl rfl), (mk_w1 (i := 14) rfl rfl), by decide, by decide, by decide +kernel⟩
theorem mv_JA : mk_MV M_JA := ⟨(mk_w3 (i := 46) rfl rfl), (mk_w3 (i := 47) rfl rfl)⟩
def M_JL : mk_M := (yJ0_isLatin1_aae02, cJ0_isLatin1_aae02, 1, some .boolean, 0, 0)
theorem md_JL : mk_MD M_JL 0 := ⟨(mk_w3 (i := 52) rfl rfl), (mk_w1 (i := 14) rfl rfl), by decide, by decide, by decide +kernel⟩
theorem mv_JL : mk_MV M_JL := ⟨(mk_w3 (i := 50) rfl rfl), (mk_w3 (i := 51) rfl rfl)⟩
def M_JO : mk_M := (yJ0_coder_7d493, cJ0_coder_7d493, 1, some .byte, 0, 0)
theorem md_JO : mk_MD M_JO 0 := ⟨(mk_w3 (i := 42) rfl rfl), (mk_w1 (i := 14) rfl rfl), by decide, by decide, by decide +kernel⟩
theorem mv_JO : mk_MV M_JO := ⟨(mk_w3 (i := 40) rfl rfl), (mk_w3 (i := 41) rfl rfl)⟩
def M_JN : mk_M := (yJ0_length_8abf5, cJ0_length_8abf5, 1, some .int, 1, 20)
theorem md_JN : mk_MD M_JN 0 := ⟨(mk_w3 (i := 38) rfl rfl), (mk_w1 (i := 14) rfl rfl), by decide, by decide, by decide +kernel⟩
theorem mv_JN : mk_MV M_JN := ⟨(mk_w3 (i := 36) rfl rfl), (mk_w3 (i := 37) rfl rfl)⟩
theorem sj_all : ∀ i, i < 41 → (Int32.ofNat (mk_str i).2.2.2.length >>> ((0 : Int32) &&& 31) = Int32.ofNat (mk_str i).2.2.2.length ∧ (mk_str i).2.2.2.length < 100 ∧ ∀ b ∈ (mk_str i).2.2.2, ((b &&& 255).toUInt32 % 65536).toInt32 = b ∧ narrow .char (.int b) = .int b) := by decide +kernel
theorem p_J3 (x0 x1 : Int32) (r : Option Nat) (t : mk_S) : mk_O mk_wi M_J3 0 [some (.int x0), some (.int x1), some (va_rf r)] [] t (if x0 < 0 then none else if x0 < x1 then some (x0, t) else none) := by
  refine xo_iload_n rfl rfl dJ3_checkIndex_8e157_0 ?_
  refine xo_if_lt (tgt := 9) dJ3_checkIndex_8e157_1 rfl (fun _ => mk_O.none) (fun _ => ?_)
  refine xo_iload_n rfl rfl dJ3_checkIndex_8e157_4 ?_
  refine xo_iload_n rfl rfl dJ3_checkIndex_8e157_5 ?_
  refine xo_icmp_lt (tgt := 16) dJ3_checkIndex_8e157_6 rfl (fun _ => ?_) (fun _ => mk_O.none)
  refine xo_iload_n rfl rfl dJ3_checkIndex_8e157_16 ?_
  exact xo_iret dJ3_checkIndex_8e157_17 rfl
theorem c_J3 (x0 x1 : Int32) (r : Option Nat) (t : mk_S) (z : Int32 × mk_S) (h : (if x0 < 0 then none else if x0 < x1 then some (x0, t) else none) = some z) : mk_Ct M_J3 [.int x0, .int x1, va_rf r] t (mk_wi z.1, z.2) := by
  cases r with
  | none => exact mk_ct (w := mk_wi) (by decide +kernel) (Nat.le_of_ble_eq_true rfl) (p_J3 x0 x1 none t) z h
  | some a => exact mk_ct (w := mk_wi) (by decide +kernel) (Nat.le_of_ble_eq_true rfl) (p_J3 x0 x1 (some a) t) z h
def F_JC (x0 x1 : Int32) (t : mk_S) : Option (Unit × mk_S) := ((if x0 < 0 then none else if x0 < x1 then some (x0, t) else none) : Option (Int32 × mk_S)).bind fun z => some ((), z.2)
theorem p_JC (x0 x1 : Int32) (t : mk_S) : mk_O mk_wu M_JC 0 [some (.int x0), some (.int x1)] [] t (F_JC x0 x1 t) := by
  refine xo_iload_n rfl rfl dJ0_checkIndex_df160_0 ?_
  refine xo_iload_n rfl rfl dJ0_checkIndex_df160_1 ?_
  unfold F_JC
  refine xo_sio (mk_w3 (i := 59) rfl rfl) dJ0_checkIndex_df160_2 ?_ ?_
  · refine mk_O.callS (N := M_J3) (As := [.int x0, .int x1, va_rf none]) (S := []) md_J3 ms_J3 (Or.inl (mk_w3 (i := 61) rfl rfl)) rfl (Nat.le_of_ble_eq_true rfl) (by decide) dJ0_checkIndex_df160_5 rfl (fun z hz => c_J3 x0 x1 none t z hz) (fun z _ => ?_)
    show mk_O _ _ _ _ [.int z.1] _ _
    refine xo_pop rfl dJ0_checkIndex_df160_8 ?_
    exact xo_vret dJ0_checkIndex_df160_9 rfl
  · refine mk_O.callS (N := M_J3) (As := [.int x0, .int x1, va_rf (some 1600000)]) (S := []) md_J3 ms_J3 (Or.inl (mk_w3 (i := 61) rfl rfl)) rfl (Nat.le_of_ble_eq_true rfl) (by decide) dJ0_checkIndex_df160_5 rfl (fun z hz => c_J3 x0 x1 (some 1600000) t z hz) (fun z _ => ?_)
    show mk_O _ _ _ _ [.int z.1] _ _
    refine xo_pop rfl dJ0_checkIndex_df160_8 ?_
    exact xo_vret dJ0_checkIndex_df160_9 rfl
theorem c_JC (x0 x1 : Int32) (t : mk_S) (z : Unit × mk_S) (h : F_JC x0 x1 t = some z) : mk_Ct M_JC [.int x0, .int x1] t (mk_wu z.1, z.2) := mk_ct (w := mk_wu) (by decide +kernel) (Nat.le_of_ble_eq_true rfl) (p_JC x0 x1 t) z h
theorem F_JC_spec {x0 x1 : Int32} {t : mk_S} {z : Unit × mk_S} (h : F_JC x0 x1 t = some z) : ¬ x0 < 0 ∧ x0 < x1 ∧ z.2 = t := by
  unfold F_JC at h
  by_cases h1 : x0 < 0
  · simp [h1] at h
  · by_cases h2 : x0 < x1
    · simp [h1, h2] at h
      subst h
      exact ⟨h1, h2, rfl⟩
    · simp [h1, h2] at h
def F_J1 (i : Nat) (x : Int32) (t : mk_S) : Option (Int32 × mk_S) := (F_JC x (Int32.ofNat (mk_str i).2.2.2.length) t).bind fun z => some ((mk_str i).2.2.2.getD x.toNatClampNeg 0, z.2)
theorem sj_in {x : Int32} {n : Nat} (hn : n < 100) (h1 : ¬ x < 0) (h2 : x < Int32.ofNat n) : vp_in x n := by
  rw [vp_in_iff]
  rw [Int32.lt_iff_toInt_lt] at h1 h2
  have e : (Int32.ofNat n).toInt = (n : Int) := nI_toInt (n := n) (by omega)
  rw [e] at h2
  rw [Int32.toInt_zero] at h1
  omega
theorem p_J1 (i : Nat) (x : Int32) (t : mk_S) (hi : i < 41) : mk_O mk_wi M_J1 0 [some (.ref (1500000 + i)), some (.int x)] [] t (F_J1 i x t) := by
  obtain ⟨-, hl, hb⟩ := sj_all i hi
  refine xo_iload_n rfl rfl dJ1_charAt_3b067_0 ?_
  refine xo_aload_n rfl rfl dJ1_charAt_3b067_1 ?_
  refine xo_salen hi dJ1_charAt_3b067_2 ?_
  unfold F_J1
  refine mk_O.callS (N := M_JC) (As := [.int x, .int (Int32.ofNat (mk_str i).2.2.2.length)]) (S := []) md_JC ms_JC (Or.inl (mk_w3 (i := 56) rfl rfl)) rfl (Nat.le_of_ble_eq_true rfl) (by decide) dJ1_charAt_3b067_3 rfl (fun z hz => c_JC _ _ t z hz) (fun z hz => ?_)
  show mk_O _ _ _ _ [] _ _
  obtain ⟨h1, h2, h3⟩ := F_JC_spec hz
  have hin := sj_in hl h1 h2
  have hlt : x.toNatClampNeg < (mk_str i).2.2.2.length := Nat.not_le.mp fun q => hin (Or.inr q)
  have hmem : (mk_str i).2.2.2.getD x.toNatClampNeg 0 ∈ (mk_str i).2.2.2 := by
    rw [List.getD_eq_getElem?_getD, List.getElem?_eq_getElem hlt]
    exact List.getElem_mem hlt
  obtain ⟨e1, e2⟩ := hb _ hmem
  refine xo_aload_n rfl rfl dJ1_charAt_3b067_6 ?_
  refine xo_iload_n rfl rfl dJ1_charAt_3b067_7 ?_
  refine xo_sald hi hin dJ1_charAt_3b067_8 ?_
  refine xo_sipush (v := 255) (by decide) dJ1_charAt_3b067_9 ?_
  refine xo_iand dJ1_charAt_3b067_12 ?_
  refine xo_i2c dJ1_charAt_3b067_13 ?_
  rw [e1]
  exact xo_nret dJ1_charAt_3b067_14 rfl e2
theorem c_J1 (i : Nat) (x : Int32) (t : mk_S) (hi : i < 41) (z : Int32 × mk_S) (h : F_J1 i x t = some z) : mk_Ct M_J1 [.ref (1500000 + i), .int x] t (mk_wi z.1, z.2) := mk_ct (w := mk_wi) (by decide +kernel) (Nat.le_of_ble_eq_true rfl) (p_J1 i x t hi) z h
theorem p_JL (i : Nat) (t : mk_S) (hi : i < 41) : mk_O mk_wi M_JL 0 [some (.ref (1000000 + i))] [] t (some (1, t)) := by
  refine xo_cst (mk_w3 (i := 43) rfl rfl) dJ0_isLatin1_aae02_0 ?_
  have e : (some ((1 : Int32), t) : Option (Int32 × mk_S)) = if (1 : Int32) = 0 then none else some (1, t) := rfl
  rw [e]
  refine xo_if_eq (tgt := 17) dJ0_isLatin1_aae02_3 rfl (fun h => absurd h (by decide)) (fun _ => ?_)
  refine xo_aload_n rfl rfl dJ0_isLatin1_aae02_6 ?_
  refine xo_sget hi (Or.inl ⟨rfl, rfl, rfl⟩) (mk_w8 (i := 104) rfl rfl) dJ0_isLatin1_aae02_7 ?_
  have e2 : (some ((1 : Int32), t) : Option (Int32 × mk_S)) = if (0 : Int32) = 0 then some (1, t) else none := rfl
  rw [e2]
  refine xo_if_ne (tgt := 17) dJ0_isLatin1_aae02_10 rfl (fun _ => ?_) (fun h => absurd rfl h)
  refine xo_iconst (v := 1) (by decide) dJ0_isLatin1_aae02_13 ?_
  refine xo_goto (tgt := 18) dJ0_isLatin1_aae02_14 rfl ?_
  exact xo_nret dJ0_isLatin1_aae02_18 rfl rfl
theorem c_JL (i : Nat) (t : mk_S) (hi : i < 41) (z : Int32 × mk_S) (h : some (1, t) = some z) : mk_Ct M_JL [.ref (1000000 + i)] t (mk_wi z.1, z.2) := mk_ct (w := mk_wi) (by decide +kernel) (Nat.le_of_ble_eq_true rfl) (p_JL i t hi) z h
theorem p_JA (i : Nat) (x : Int32) (t : mk_S) (hi : i < 41) : mk_O mk_wi M_JA 0 [some (.ref (1000000 + i)), some (.int x)] [] t ((F_J1 i x t).bind fun z => some (z.1, z.2)) := by
  refine xo_aload_n rfl rfl dJ0_charAt_5068e_0 ?_
  have e : ((F_J1 i x t).bind fun z => some (z.1, z.2)) = ((some ((1 : Int32), t)) : Option (Int32 × mk_S)).bind (fun y => if y.1 = 0 then none else (F_J1 i x y.2).bind fun z => some (z.1, z.2)) := rfl
  rw [e]
  refine mk_O.callT (N := M_JL) (i := i) (As1 := []) (S := []) hi md_JL mv_JL (mk_w3 (i := 49) rfl rfl) rfl (Nat.le_of_ble_eq_true rfl) (by decide) dJ0_charAt_5068e_1 rfl rfl (fun z hz => c_JL i t hi z hz) (fun y hy => ?_)
  cases hy
  show mk_O _ _ _ _ [.int 1] _ _
  refine xo_if_eq (tgt := 16) dJ0_charAt_5068e_4 rfl (fun h => absurd h (by decide)) (fun _ => ?_)
  refine xo_aload_n rfl rfl dJ0_charAt_5068e_7 ?_
  refine xo_sget hi (Or.inr ⟨rfl, rfl, rfl⟩) (mk_w8 (i := 103) rfl rfl) dJ0_charAt_5068e_8 ?_
  refine xo_iload_n rfl rfl dJ0_charAt_5068e_11 ?_
  refine mk_O.callS (N := M_J1) (As := [.ref (1500000 + i), .int x]) (S := []) md_J1 ms_J1 (Or.inl (mk_w3 (i := 53) rfl rfl)) rfl (Nat.le_of_ble_eq_true rfl) (by decide) dJ0_charAt_5068e_12 rfl (fun z hz => c_J1 i x t hi z hz) (fun z hz => ?_)
  show mk_O _ _ _ _ [.int z.1] _ _
  refine xo_nret dJ0_charAt_5068e_15 rfl ?_
  unfold F_J1 at hz
  cases hc : F_JC x (Int32.ofNat (mk_str i).2.2.2.length) t with
  | none => rw [hc] at hz; cases hz
  | some y =>
    rw [hc] at hz
    cases hz
    obtain ⟨-, hl, hb⟩ := sj_all i hi
    obtain ⟨h1, h2, h3⟩ := F_JC_spec hc
    have hin := sj_in hl h1 h2
    have hlt : x.toNatClampNeg < (mk_str i).2.2.2.length := Nat.not_le.mp fun q => hin (Or.inr q)
    refine (hb _ ?_).2
    rw [List.getD_eq_getElem?_getD, List.getElem?_eq_getElem hlt]
    exact List.getElem_mem hlt
theorem p_JO (i : Nat) (t : mk_S) (hi : i < 41) : mk_O mk_wi M_JO 0 [some (.ref (1000000 + i))] [] t (some (0, t)) := by
  refine xo_cst (mk_w3 (i := 43) rfl rfl) dJ0_coder_7d493_0 ?_
  have e : (some ((0 : Int32), t) : Option (Int32 × mk_S)) = if (1 : Int32) = 0 then none else some (0, t) := rfl
  rw [e]
  refine xo_if_eq (tgt := 13) dJ0_coder_7d493_3 rfl (fun h => absurd h (by decide)) (fun _ => ?_)
  refine xo_aload_n rfl rfl dJ0_coder_7d493_6 ?_
  refine xo_sget hi (Or.inl ⟨rfl, rfl, rfl⟩) (mk_w8 (i := 104) rfl rfl) dJ0_coder_7d493_7 ?_
  refine xo_goto (tgt := 14) dJ0_coder_7d493_10 rfl ?_
  exact xo_nret dJ0_coder_7d493_14 rfl rfl
theorem p_JN (i : Nat) (t : mk_S) (hi : i < 41) : mk_O mk_wi M_JN 0 [some (.ref (1000000 + i))] [] t (some (Int32.ofNat (mk_str i).2.2.2.length, t)) := by
  refine xo_aload_n rfl rfl dJ0_length_8abf5_0 ?_
  refine xo_sget hi (Or.inr ⟨rfl, rfl, rfl⟩) (mk_w8 (i := 103) rfl rfl) dJ0_length_8abf5_1 ?_
  refine xo_salen hi dJ0_length_8abf5_4 ?_
  refine xo_aload_n rfl rfl dJ0_length_8abf5_5 ?_
  have e : (some (Int32.ofNat (mk_str i).2.2.2.length, t) : Option (Int32 × mk_S)) = ((some ((0 : Int32), t)) : Option (Int32 × mk_S)).bind (fun y => some (Int32.ofNat (mk_str i).2.2.2.length, y.2)) := rfl
  rw [e]
  refine mk_O.callT (N := M_JO) (i := i) (As1 := []) (S := [.int (Int32.ofNat (mk_str i).2.2.2.length)]) hi md_JO mv_JO (mk_w3 (i := 39) rfl rfl) rfl (Nat.le_of_ble_eq_true rfl) (by decide) dJ0_length_8abf5_6 rfl rfl (fun z hz => mk_ct (w := mk_wi) (by decide +kernel) (Nat.le_of_ble_eq_true rfl) (p_JO i t hi) z hz) (fun y hy => ?_)
  cases hy
  show mk_O _ _ _ _ [.int 0, .int (Int32.ofNat (mk_str i).2.2.2.length)] _ _
  refine xo_ishr dJ0_length_8abf5_9 ?_
  rw [(sj_all i hi).1]
  exact xo_iret dJ0_length_8abf5_10 rfl
/-- length() and charAt(k) of a constant, told by its place -/
def mk_sln (a : Nat) (t : mk_S) : Option (Int32 × mk_S) := if 1000000 ≤ a ∧ a < 1000041 then some (Int32.ofNat (mk_str (a - 1000000)).2.2.2.length, t) else none
def mk_sch (a : Nat) (x : Int32) (t : mk_S) : Option (Int32 × mk_S) := if 1000000 ≤ a ∧ a < 1000041 then F_J1 (a - 1000000) x t else none
section MKJ
variable {α : Type} {w : α → Option Value} {M : mk_M} {pc : Nat} {L : List (Option Value)} {S : List Value} {t : mk_S}
theorem xo_sln {index a : Nat} {f : Int32 × mk_S → Option (α × mk_S)} (hl : Cond.methodLink M.1.cls index M_JN.1 ∈ lw_gw) (hcat : (S.map fun v => v.category).sum ≤ 8) (hroom : M_JN.2.2.2.2.1 + 1 ≤ M.2.2.2.2.1 ∧ 8 + (M_JN.2.2.1 + 11) + M_JN.2.2.2.2.2 ≤ M.2.2.2.2.2) (hd : decode M.2.1 pc = .ok (.invokevirtual index, 3)) (kk : ∀ z, mk_sln a t = some z → mk_O w M (pc + 3) L (.int z.1 :: S) z.2 (f z)) : mk_O w M pc L (.ref a :: S) t ((mk_sln a t).bind f) := by
  by_cases h : 1000000 ≤ a ∧ a < 1000041
  · obtain ⟨i, hi, e⟩ : ∃ i, i < 41 ∧ a = 1000000 + i := ⟨a - 1000000, by omega, by omega⟩
    have e2 : mk_sln a t = some (Int32.ofNat (mk_str i).2.2.2.length, t) := by
      unfold mk_sln
      rw [if_pos h, e, Nat.add_sub_cancel_left]
    rw [e2] at kk ⊢
    rw [e]
    exact mk_O.callT (wc := mk_wi) (i := i) (As1 := []) (S := S) hi md_JN mv_JN hl rfl hcat hroom hd rfl rfl (fun z hz => mk_ct (w := mk_wi) (by decide +kernel) (Nat.le_of_ble_eq_true rfl) (p_JN i t hi) z hz) kk
  · have e2 : mk_sln a t = none := by
      unfold mk_sln
      rw [if_neg h]
    rw [e2]
    exact mk_O.none
theorem xo_sch {index a : Nat} {x : Int32} {f : Int32 × mk_S → Option (α × mk_S)} (hl : Cond.methodLink M.1.cls index M_JA.1 ∈ lw_gw) (hcat : (S.map fun v => v.category).sum ≤ 8) (hroom : M_JA.2.2.2.2.1 + 1 ≤ M.2.2.2.2.1 ∧ 8 + (M_JA.2.2.1 + 11) + M_JA.2.2.2.2.2 ≤ M.2.2.2.2.2) (hd : decode M.2.1 pc = .ok (.invokevirtual index, 3)) (kk : ∀ z, mk_sch a x t = some z → mk_O w M (pc + 3) L (.int z.1 :: S) z.2 (f z)) : mk_O w M pc L (.int x :: .ref a :: S) t ((mk_sch a x t).bind f) := by
  by_cases h : 1000000 ≤ a ∧ a < 1000041
  · obtain ⟨i, hi, e⟩ : ∃ i, i < 41 ∧ a = 1000000 + i := ⟨a - 1000000, by omega, by omega⟩
    have e2 : mk_sch a x t = (F_J1 i x t).bind fun z => some (z.1, z.2) := by
      unfold mk_sch
      rw [if_pos h, e, Nat.add_sub_cancel_left]
      cases F_J1 i x t <;> rfl
    rw [e2] at kk ⊢
    rw [e]
    exact mk_O.callT (wc := mk_wi) (i := i) (As1 := [.int x]) (S := S) hi md_JA mv_JA hl rfl hcat hroom hd rfl rfl (fun z hz => mk_ct (w := mk_wi) (by decide +kernel) (Nat.le_of_ble_eq_true rfl) (p_JA i x t hi) z hz) kk
  · have e2 : mk_sch a x t = none := by
      unfold mk_sch
      rw [if_neg h]
    rw [e2]
    exact mk_O.none
end MKJ
