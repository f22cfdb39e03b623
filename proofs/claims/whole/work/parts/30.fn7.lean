def B_X12_harvest_77 (k43 : Nat → Int32 → Int32 → Int32 → Int32 → Int32 → mk_S → Option (Int32 × mk_S)) (x0 : Nat) (x1 : Int32) (x2 : Int32) (x3 : Int32) (x4 : Int32) (x5 : Int32) (t : mk_S) : Option (Int32 × mk_S) := k43 x0 x1 x2 x3 x4 (x5 + (1 : Int32)) t
def B_X12_harvest_43 : Nat → Nat → Int32 → Int32 → Int32 → Int32 → Int32 → mk_S → Option (Int32 × mk_S)
  | 0, _, _, _, _, _, _, _ => none
  | n + 1, x0, x1, x2, x3, x4, x5, t => if x1 ≤ x5 then ((F_X12_laysBack x0 t).bind fun z1 => if x2 = 0 then (some (x4, z1.2)) else (some (x3, z1.2))) else ((F_X12_goes x0 t).bind fun z2 => (F_X12_allWind x0 z2.2).bind fun z3 => if z3.1 ≤ x3 then (B_X12_harvest_77 (B_X12_harvest_43 n) x0 x1 x2 x3 x4 x5 z3.2) else ((F_X12_allWind x0 z3.2).bind fun z4 => (mk_ga z4.2 x0 11 1).bind fun v5 => (mk_ld 100 z4.2 v5 (5 : Int32)).bind fun v6 => B_X12_harvest_77 (B_X12_harvest_43 n) x0 x1 x2 z4.1 (v6 - (1 : Int32)) x5 z4.2))
def F_X12_harvest (x0 : Nat) (x1 : Int32) (x2 : Int32) (t : mk_S) : Option (Int32 × mk_S) := mk_gd t x0 11 ((F_X12_isPlateau x0 t).bind fun z1 => if z1.1 = 0 then (some ((-1 : Int32), z1.2)) else ((F_X12_in ((x1).toInt64) (1 : Int64) (100 : Int64) z1.2).bind fun z2 => if z2.1 = 0 then (some ((-1 : Int32), z2.2)) else ((F_X12_in ((x2).toInt64) (0 : Int64) (1 : Int64) z2.2).bind fun z3 => if z3.1 = 0 then (some ((-1 : Int32), z3.2)) else ((F_X12_keepsAll x0 z3.2).bind fun z4 => B_X12_harvest_43 mk_fu x0 x1 x2 (-1 : Int32) (-1 : Int32) (0 : Int32) z4.2))))
theorem o_X12_harvest_77 (k43 : Nat → Int32 → Int32 → Int32 → Int32 → Int32 → mk_S → Option (Int32 × mk_S)) (h43 : ∀ (x0 : Nat) (x1 : Int32) (x2 : Int32) (x3 : Int32) (x4 : Int32) (x5 : Int32) (t : mk_S), mk_O mk_wi M_X12_harvest 43 [some (.ref x0), some (.int x1), some (.int x2), some (.int x3), some (.int x4), some (.int x5)] [] t (k43 x0 x1 x2 x3 x4 x5 t)) (x0 : Nat) (x1 : Int32) (x2 : Int32) (x3 : Int32) (x4 : Int32) (x5 : Int32) (t : mk_S) : mk_O mk_wi M_X12_harvest 77 [some (.ref x0), some (.int x1), some (.int x2), some (.int x3), some (.int x4), some (.int x5)] [] t (B_X12_harvest_77 k43 x0 x1 x2 x3 x4 x5 t) := by
  unfold B_X12_harvest_77
  refine xo_iinc rfl (congrArg _ kc_1) (by decide) (mk_p1_v rfl rfl) dX12_harvest_77 ?_
  refine xo_goto (tgt := 43) dX12_harvest_80 rfl ?_
  exact mk_O.wk (h43 x0 x1 x2 x3 x4 (x5 + (1 : Int32)) t) ⟨rfl, ⟨rfl, ⟨rfl, ⟨rfl, ⟨rfl, ⟨rfl, trivial⟩⟩⟩⟩⟩⟩
theorem o_X12_harvest_43 : ∀ (n : Nat) (x0 : Nat) (x1 : Int32) (x2 : Int32) (x3 : Int32) (x4 : Int32) (x5 : Int32) (t : mk_S), mk_O mk_wi M_X12_harvest 43 [some (.ref x0), some (.int x1), some (.int x2), some (.int x3), some (.int x4), some (.int x5)] [] t (B_X12_harvest_43 n x0 x1 x2 x3 x4 x5 t) := by
  intro n
  induction n with
  | zero =>
    intro x0 x1 x2 x3 x4 x5 t
    exact mk_O.none
  | succ n ih =>
    intro x0 x1 x2 x3 x4 x5 t
    rw [B_X12_harvest_43]
    refine xo_iload rfl dX12_harvest_43 ?_
    refine xo_iload_n rfl rfl dX12_harvest_45 ?_
    refine xo_icmp_ge (tgt := 83) dX12_harvest_46 rfl (fun _ => ?_) (fun _ => ?_)
    · refine xo_aload_n rfl rfl dX12_harvest_83 ?_
      refine mk_O.callV (N := M_X12_laysBack) (ci := 11) (q := (RX12, TX12, 64)) (b := x0) (As1 := []) (S := []) md_X12_laysBack mv_X12_laysBack lk_RX12_449 rfl (Nat.le_of_ble_eq_true rfl) (by decide) dX12_harvest_84 rfl rfl rfl (fun z hz => (c_X12_laysBack x0 t z hz).1) (fun z hz => (c_X12_laysBack x0 t z hz).2) (fun z1 _ => ?_)
      show mk_O _ _ _ _ [] _ _
      refine xo_iload_n rfl rfl dX12_harvest_87 ?_
      refine xo_if_ne (tgt := 96) dX12_harvest_88 rfl (fun _ => ?_) (fun _ => ?_)
      · refine xo_iload rfl dX12_harvest_91 ?_
        refine xo_goto (tgt := 97) dX12_harvest_93 rfl ?_
        exact xo_iret dX12_harvest_97 rfl
      · refine xo_iload_n rfl rfl dX12_harvest_96 ?_
        exact xo_iret dX12_harvest_97 rfl
    · refine xo_aload_n rfl rfl dX12_harvest_49 ?_
      refine mk_O.callV (N := M_X12_goes) (ci := 11) (q := (RX12, TX12, 64)) (b := x0) (As1 := []) (S := []) md_X12_goes mv_X12_goes lk_RX12_407 rfl (Nat.le_of_ble_eq_true rfl) (by decide) dX12_harvest_50 rfl rfl rfl (fun z hz => (c_X12_goes x0 t z hz).1) (fun z hz => (c_X12_goes x0 t z hz).2) (fun z2 _ => ?_)
      show mk_O _ _ _ _ (.int z2.1 :: []) _ _
      refine xo_pop rfl dX12_harvest_53 ?_
      refine xo_aload_n rfl rfl dX12_harvest_54 ?_
      refine mk_O.callV (N := M_X12_allWind) (ci := 11) (q := (RX12, TX12, 64)) (b := x0) (As1 := []) (S := []) md_X12_allWind mv_X12_allWind lk_RX12_478 rfl (Nat.le_of_ble_eq_true rfl) (by decide) dX12_harvest_55 rfl rfl rfl (fun z hz => (c_X12_allWind x0 z2.2 z hz).1) (fun z hz => (c_X12_allWind x0 z2.2 z hz).2) (fun z3 _ => ?_)
      show mk_O _ _ _ _ (.int z3.1 :: []) _ _
      refine xo_iload_n rfl rfl dX12_harvest_58 ?_
      refine xo_icmp_le (tgt := 77) dX12_harvest_59 rfl (fun _ => ?_) (fun _ => ?_)
      · exact mk_O.wk (o_X12_harvest_77 _ ih x0 x1 x2 x3 x4 x5 z3.2) ⟨rfl, ⟨rfl, ⟨rfl, ⟨rfl, ⟨rfl, ⟨rfl, trivial⟩⟩⟩⟩⟩⟩
      · refine xo_aload_n rfl rfl dX12_harvest_62 ?_
        refine mk_O.callV (N := M_X12_allWind) (ci := 11) (q := (RX12, TX12, 64)) (b := x0) (As1 := []) (S := []) md_X12_allWind mv_X12_allWind lk_RX12_478 rfl (Nat.le_of_ble_eq_true rfl) (by decide) dX12_harvest_63 rfl rfl rfl (fun z hz => (c_X12_allWind x0 z3.2 z hz).1) (fun z hz => (c_X12_allWind x0 z3.2 z hz).2) (fun z4 _ => ?_)
        show mk_O _ _ _ _ (.int z4.1 :: []) _ _
        refine xo_istore_n rfl (by decide) (mk_p1_v rfl rfl) dX12_harvest_66 ?_
        refine xo_aload_n rfl rfl dX12_harvest_67 ?_
        refine xo_geta dX12_harvest_68 cl_11 fl_RX12_9 rfl (fun v5 => ?_)
        refine xo_iconst kc_5 dX12_harvest_71 ?_
        refine xo_iald dX12_harvest_72 (fun v6 => ?_)
        refine xo_iconst kc_1 dX12_harvest_73 ?_
        refine xo_isub dX12_harvest_74 ?_
        refine xo_istore (by decide) (mk_p1_v rfl rfl) dX12_harvest_75 ?_
        exact mk_O.wk (o_X12_harvest_77 _ ih x0 x1 x2 z4.1 (v6 - (1 : Int32)) x5 z4.2) ⟨rfl, ⟨rfl, ⟨rfl, ⟨rfl, ⟨rfl, ⟨rfl, trivial⟩⟩⟩⟩⟩⟩
theorem p_X12_harvest (x0 : Nat) (x1 : Int32) (x2 : Int32) (t : mk_S) : mk_O mk_wi M_X12_harvest 0 [some (.ref x0), some (.int x1), some (.int x2), none, none, none] [] t ((F_X12_isPlateau x0 t).bind fun z1 => if z1.1 = 0 then (some ((-1 : Int32), z1.2)) else ((F_X12_in ((x1).toInt64) (1 : Int64) (100 : Int64) z1.2).bind fun z2 => if z2.1 = 0 then (some ((-1 : Int32), z2.2)) else ((F_X12_in ((x2).toInt64) (0 : Int64) (1 : Int64) z2.2).bind fun z3 => if z3.1 = 0 then (some ((-1 : Int32), z3.2)) else ((F_X12_keepsAll x0 z3.2).bind fun z4 => B_X12_harvest_43 mk_fu x0 x1 x2 (-1 : Int32) (-1 : Int32) (0 : Int32) z4.2)))) := by
  refine xo_aload_n rfl rfl dX12_harvest_0 ?_
  refine mk_O.callV (N := M_X12_isPlateau) (ci := 11) (q := (RX12, TX12, 64)) (b := x0) (As1 := []) (S := []) md_X12_isPlateau mv_X12_isPlateau lk_RX12_428 rfl (Nat.le_of_ble_eq_true rfl) (by decide) dX12_harvest_1 rfl rfl rfl (fun z hz => (c_X12_isPlateau x0 t z hz).1) (fun z hz => (c_X12_isPlateau x0 t z hz).2) (fun z1 _ => ?_)
  show mk_O _ _ _ _ (.int z1.1 :: []) _ _
  refine xo_if_eq (tgt := 29) dX12_harvest_4 rfl (fun _ => ?_) (fun _ => ?_)
  · refine xo_iconst kc_m1 dX12_harvest_29 ?_
    exact xo_iret dX12_harvest_30 rfl
  · refine xo_iload_n rfl rfl dX12_harvest_7 ?_
    refine xo_i2l dX12_harvest_8 ?_
    refine xo_lconst kl_1 dX12_harvest_9 ?_
    refine xo_ldc2 (v := 100) (mk_w7 (i := 192) rfl rfl) dX12_harvest_10 ?_
    refine mk_O.callS (N := M_X12_in) (As := [.long ((x1).toInt64), .long (1 : Int64), .long (100 : Int64)]) (S := []) md_X12_in ms_X12_in lk_RX12_159 rfl (Nat.le_of_ble_eq_true rfl) (by decide) dX12_harvest_13 rfl (fun z hz => c_X12_in ((x1).toInt64) (1 : Int64) (100 : Int64) z1.2 z hz) (fun z2 _ => ?_)
    show mk_O _ _ _ _ (.int z2.1 :: []) _ _
    refine xo_if_eq (tgt := 29) dX12_harvest_16 rfl (fun _ => ?_) (fun _ => ?_)
    · refine xo_iconst kc_m1 dX12_harvest_29 ?_
      exact xo_iret dX12_harvest_30 rfl
    · refine xo_iload_n rfl rfl dX12_harvest_19 ?_
      refine xo_i2l dX12_harvest_20 ?_
      refine xo_lconst kl_0 dX12_harvest_21 ?_
      refine xo_lconst kl_1 dX12_harvest_22 ?_
      refine mk_O.callS (N := M_X12_in) (As := [.long ((x2).toInt64), .long (0 : Int64), .long (1 : Int64)]) (S := []) md_X12_in ms_X12_in lk_RX12_159 rfl (Nat.le_of_ble_eq_true rfl) (by decide) dX12_harvest_23 rfl (fun z hz => c_X12_in ((x2).toInt64) (0 : Int64) (1 : Int64) z2.2 z hz) (fun z3 _ => ?_)
      show mk_O _ _ _ _ (.int z3.1 :: []) _ _
      refine xo_if_ne (tgt := 31) dX12_harvest_26 rfl (fun _ => ?_) (fun _ => ?_)
      · refine xo_iconst kc_m1 dX12_harvest_29 ?_
        exact xo_iret dX12_harvest_30 rfl
      · refine xo_iconst kc_m1 dX12_harvest_31 ?_
        refine xo_istore_n rfl (by decide) (mk_p1_v rfl rfl) dX12_harvest_32 ?_
        refine xo_iconst kc_m1 dX12_harvest_33 ?_
        refine xo_istore (by decide) (mk_p1_v rfl rfl) dX12_harvest_34 ?_
        refine xo_aload_n rfl rfl dX12_harvest_36 ?_
        refine mk_O.callV (N := M_X12_keepsAll) (ci := 11) (q := (RX12, TX12, 64)) (b := x0) (As1 := []) (S := []) md_X12_keepsAll mv_X12_keepsAll lk_RX12_443 rfl (Nat.le_of_ble_eq_true rfl) (by decide) dX12_harvest_37 rfl rfl rfl (fun z hz => (c_X12_keepsAll x0 z3.2 z hz).1) (fun z hz => (c_X12_keepsAll x0 z3.2 z hz).2) (fun z4 _ => ?_)
        show mk_O _ _ _ _ [] _ _
        refine xo_iconst kc_0 dX12_harvest_40 ?_
        refine xo_istore (by decide) (mk_p1_v rfl rfl) dX12_harvest_41 ?_
        exact mk_O.wk (o_X12_harvest_43 mk_fu x0 x1 x2 (-1 : Int32) (-1 : Int32) (0 : Int32) z4.2) ⟨rfl, ⟨rfl, ⟨rfl, ⟨rfl, ⟨rfl, ⟨rfl, trivial⟩⟩⟩⟩⟩⟩
theorem c_X12_harvest (x0 : Nat) (x1 : Int32) (x2 : Int32) (t : mk_S) (z : Int32 × mk_S) (h : F_X12_harvest x0 x1 x2 t = some z) : mk_is t x0 11 ∧ mk_Ct M_X12_harvest [.ref x0, .int x1, .int x2] t (mk_wi z.1, z.2) :=
  ⟨(mk_gd_spec h).1, mk_ct (w := mk_wi) (by decide +kernel) (Nat.le_of_ble_eq_true rfl) (p_X12_harvest x0 x1 x2 t) z (mk_gd_spec h).2⟩
def B_X12_laysFaces_7 : Nat → Nat → Int32 → Int32 → Int32 → Int32 → mk_S → Option (Unit × mk_S)
  | 0, _, _, _, _, _, _ => none
  | n + 1, x0, x1, x2, x3, x4, t => if (16 : Int32) ≤ x4 then (some ((), t)) else ((mk_ga t x0 11 3).bind fun v1 => if (4 : Int32) = 0 then none else (mk_st 100 t v1 x1 (x4 / (4 : Int32))).bind fun t2 => (mk_ga t2 x0 11 3).bind fun v3 => if (4 : Int32) = 0 then none else (mk_st 100 t2 v3 x2 (x4 - x4 / (4 : Int32) * (4 : Int32))).bind fun t4 => (F_X12_goFor x0 x3 t4).bind fun z5 => (mk_ga z5.2 x0 11 56).bind fun v6 => (mk_ga z5.2 x0 11 5).bind fun v7 => (mk_ld 100 z5.2 v7 x1).bind fun v8 => (mk_st 100 z5.2 v6 x4 v8).bind fun t9 => (mk_ga t9 x0 11 57).bind fun v10 => (mk_ga t9 x0 11 5).bind fun v11 => (mk_ld 100 t9 v11 x2).bind fun v12 => (mk_st 100 t9 v10 x4 v12).bind fun t13 => (F_X12_laysBack x0 t13).bind fun z14 => B_X12_laysFaces_7 n x0 x1 x2 x3 (x4 + (1 : Int32)) z14.2)
def F_X12_laysFaces (x0 : Nat) (x1 : Int32) (x2 : Int32) (x3 : Int32) (t : mk_S) : Option (Unit × mk_S) := mk_gd t x0 11 ((F_X12_keepsAll x0 t).bind fun z1 => B_X12_laysFaces_7 mk_fu x0 x1 x2 x3 (0 : Int32) z1.2)
theorem o_X12_laysFaces_7 : ∀ (n : Nat) (x0 : Nat) (x1 : Int32) (x2 : Int32) (x3 : Int32) (x4 : Int32) (t : mk_S), mk_O mk_wu M_X12_laysFaces 7 [some (.ref x0), some (.int x1), some (.int x2), some (.int x3), some (.int x4)] [] t (B_X12_laysFaces_7 n x0 x1 x2 x3 x4 t) := by
  intro n
  induction n with
  | zero =>
    intro x0 x1 x2 x3 x4 t
    exact mk_O.none
  | succ n ih =>
    intro x0 x1 x2 x3 x4 t
    rw [B_X12_laysFaces_7]
    refine xo_iload rfl dX12_laysFaces_7 ?_
    refine xo_bipush kb_16 dX12_laysFaces_9 ?_
    refine xo_icmp_ge (tgt := 75) dX12_laysFaces_11 rfl (fun _ => ?_) (fun _ => ?_)
    · exact xo_vret dX12_laysFaces_75 rfl
    · refine xo_aload_n rfl rfl dX12_laysFaces_14 ?_
      refine xo_geta dX12_laysFaces_15 cl_11 fl_RX12_16 rfl (fun v1 => ?_)
      refine xo_iload_n rfl rfl dX12_laysFaces_18 ?_
      refine xo_iload rfl dX12_laysFaces_19 ?_
      refine xo_iconst kc_4 dX12_laysFaces_21 ?_
      refine xo_idiv dX12_laysFaces_22 (fun _ => ?_)
      refine xo_iast dX12_laysFaces_23 (fun t2 => ?_)
      refine xo_aload_n rfl rfl dX12_laysFaces_24 ?_
      refine xo_geta dX12_laysFaces_25 cl_11 fl_RX12_16 rfl (fun v3 => ?_)
      refine xo_iload_n rfl rfl dX12_laysFaces_28 ?_
      refine xo_iload rfl dX12_laysFaces_29 ?_
      refine xo_iconst kc_4 dX12_laysFaces_31 ?_
      refine xo_irem dX12_laysFaces_32 (fun _ => ?_)
      refine xo_iast dX12_laysFaces_33 (fun t4 => ?_)
      refine xo_aload_n rfl rfl dX12_laysFaces_34 ?_
      refine xo_iload_n rfl rfl dX12_laysFaces_35 ?_
      refine mk_O.callV (N := M_X12_goFor) (ci := 11) (q := (RX12, TX12, 64)) (b := x0) (As1 := [.int x3]) (S := []) md_X12_goFor mv_X12_goFor lk_RX12_446 rfl (Nat.le_of_ble_eq_true rfl) (by decide) dX12_laysFaces_36 rfl rfl rfl (fun z hz => (c_X12_goFor x0 x3 t4 z hz).1) (fun z hz => (c_X12_goFor x0 x3 t4 z hz).2) (fun z5 _ => ?_)
      show mk_O _ _ _ _ [] _ _
      refine xo_aload_n rfl rfl dX12_laysFaces_39 ?_
      refine xo_geta dX12_laysFaces_40 cl_11 fl_RX12_133 rfl (fun v6 => ?_)
      refine xo_iload rfl dX12_laysFaces_43 ?_
      refine xo_aload_n rfl rfl dX12_laysFaces_45 ?_
      refine xo_geta dX12_laysFaces_46 cl_11 fl_RX12_22 rfl (fun v7 => ?_)
      refine xo_iload_n rfl rfl dX12_laysFaces_49 ?_
      refine xo_iald dX12_laysFaces_50 (fun v8 => ?_)
      refine xo_iast dX12_laysFaces_51 (fun t9 => ?_)
      refine xo_aload_n rfl rfl dX12_laysFaces_52 ?_
      refine xo_geta dX12_laysFaces_53 cl_11 fl_RX12_136 rfl (fun v10 => ?_)
      refine xo_iload rfl dX12_laysFaces_56 ?_
      refine xo_aload_n rfl rfl dX12_laysFaces_58 ?_
      refine xo_geta dX12_laysFaces_59 cl_11 fl_RX12_22 rfl (fun v11 => ?_)
      refine xo_iload_n rfl rfl dX12_laysFaces_62 ?_
      refine xo_iald dX12_laysFaces_63 (fun v12 => ?_)
      refine xo_iast dX12_laysFaces_64 (fun t13 => ?_)
      refine xo_aload_n rfl rfl dX12_laysFaces_65 ?_
      refine mk_O.callV (N := M_X12_laysBack) (ci := 11) (q := (RX12, TX12, 64)) (b := x0) (As1 := []) (S := []) md_X12_laysBack mv_X12_laysBack lk_RX12_449 rfl (Nat.le_of_ble_eq_true rfl) (by decide) dX12_laysFaces_66 rfl rfl rfl (fun z hz => (c_X12_laysBack x0 t13 z hz).1) (fun z hz => (c_X12_laysBack x0 t13 z hz).2) (fun z14 _ => ?_)
      show mk_O _ _ _ _ [] _ _
      refine xo_iinc rfl (congrArg _ kc_1) (by decide) (mk_p1_v rfl rfl) dX12_laysFaces_69 ?_
      refine xo_goto (tgt := 7) dX12_laysFaces_72 rfl ?_
      exact mk_O.wk (ih x0 x1 x2 x3 (x4 + (1 : Int32)) z14.2) ⟨rfl, ⟨rfl, ⟨rfl, ⟨rfl, ⟨rfl, trivial⟩⟩⟩⟩⟩
theorem p_X12_laysFaces (x0 : Nat) (x1 : Int32) (x2 : Int32) (x3 : Int32) (t : mk_S) : mk_O mk_wu M_X12_laysFaces 0 [some (.ref x0), some (.int x1), some (.int x2), some (.int x3), none] [] t ((F_X12_keepsAll x0 t).bind fun z1 => B_X12_laysFaces_7 mk_fu x0 x1 x2 x3 (0 : Int32) z1.2) := by
  refine xo_aload_n rfl rfl dX12_laysFaces_0 ?_
  refine mk_O.callV (N := M_X12_keepsAll) (ci := 11) (q := (RX12, TX12, 64)) (b := x0) (As1 := []) (S := []) md_X12_keepsAll mv_X12_keepsAll lk_RX12_443 rfl (Nat.le_of_ble_eq_true rfl) (by decide) dX12_laysFaces_1 rfl rfl rfl (fun z hz => (c_X12_keepsAll x0 t z hz).1) (fun z hz => (c_X12_keepsAll x0 t z hz).2) (fun z1 _ => ?_)
  show mk_O _ _ _ _ [] _ _
  refine xo_iconst kc_0 dX12_laysFaces_4 ?_
  refine xo_istore (by decide) (mk_p1_v rfl rfl) dX12_laysFaces_5 ?_
  exact mk_O.wk (o_X12_laysFaces_7 mk_fu x0 x1 x2 x3 (0 : Int32) z1.2) ⟨rfl, ⟨rfl, ⟨rfl, ⟨rfl, ⟨rfl, trivial⟩⟩⟩⟩⟩
theorem c_X12_laysFaces (x0 : Nat) (x1 : Int32) (x2 : Int32) (x3 : Int32) (t : mk_S) (z : Unit × mk_S) (h : F_X12_laysFaces x0 x1 x2 x3 t = some z) : mk_is t x0 11 ∧ mk_Ct M_X12_laysFaces [.ref x0, .int x1, .int x2, .int x3] t (mk_wu z.1, z.2) :=
  ⟨(mk_gd_spec h).1, mk_ct (w := mk_wu) (by decide +kernel) (Nat.le_of_ble_eq_true rfl) (p_X12_laysFaces x0 x1 x2 x3 t) z (mk_gd_spec h).2⟩
def B_X12_isRest_2 : Nat → Nat → Int32 → Int32 → mk_S → Option (Int32 × mk_S)
  | 0, _, _, _, _ => none
  | n + 1, x0, x1, x2, t => if (4 : Int32) ≤ x2 then (mk_rz (1 : Int32) t) else ((mk_ga t x0 11 56).bind fun v1 => if (4 : Int32) = 0 then none else (mk_ld 100 t v1 (((4 : Int32) * x2) + (x1 - x1 / (4 : Int32) * (4 : Int32)))).bind fun v2 => (mk_ga t x0 11 56).bind fun v3 => (mk_ld 100 t v3 x1).bind fun v4 => if v4 < v2 then (mk_rz (0 : Int32) t) else ((mk_ga t x0 11 57).bind fun v5 => if (4 : Int32) = 0 then none else (mk_ld 100 t v5 ((x1 - (x1 - x1 / (4 : Int32) * (4 : Int32))) + x2)).bind fun v6 => (mk_ga t x0 11 57).bind fun v7 => (mk_ld 100 t v7 x1).bind fun v8 => if v6 ≤ v8 then (B_X12_isRest_2 n x0 x1 (x2 + (1 : Int32)) t) else (mk_rz (0 : Int32) t)))
def F_X12_isRest (x0 : Nat) (x1 : Int32) (t : mk_S) : Option (Int32 × mk_S) := mk_gd t x0 11 (B_X12_isRest_2 mk_fu x0 x1 (0 : Int32) t)
theorem o_X12_isRest_2 : ∀ (n : Nat) (x0 : Nat) (x1 : Int32) (x2 : Int32) (t : mk_S), mk_O mk_wi M_X12_isRest 2 [some (.ref x0), some (.int x1), some (.int x2)] [] t (B_X12_isRest_2 n x0 x1 x2 t) := by
  intro n
  induction n with
  | zero =>
    intro x0 x1 x2 t
    exact mk_O.none
  | succ n ih =>
    intro x0 x1 x2 t
    rw [B_X12_isRest_2]
    refine xo_iload_n rfl rfl dX12_isRest_2 ?_
    refine xo_iconst kc_4 dX12_isRest_3 ?_
    refine xo_icmp_ge (tgt := 57) dX12_isRest_4 rfl (fun _ => ?_) (fun _ => ?_)
    · refine xo_iconst kc_1 dX12_isRest_57 ?_
      exact xo_zret dX12_isRest_58 rfl
    · refine xo_aload_n rfl rfl dX12_isRest_7 ?_
      refine xo_geta dX12_isRest_8 cl_11 fl_RX12_133 rfl (fun v1 => ?_)
      refine xo_iconst kc_4 dX12_isRest_11 ?_
      refine xo_iload_n rfl rfl dX12_isRest_12 ?_
      refine xo_imul dX12_isRest_13 ?_
      refine xo_iload_n rfl rfl dX12_isRest_14 ?_
      refine xo_iconst kc_4 dX12_isRest_15 ?_
      refine xo_irem dX12_isRest_16 (fun _ => ?_)
      refine xo_iadd dX12_isRest_17 ?_
      refine xo_iald dX12_isRest_18 (fun v2 => ?_)
      refine xo_aload_n rfl rfl dX12_isRest_19 ?_
      refine xo_geta dX12_isRest_20 cl_11 fl_RX12_133 rfl (fun v3 => ?_)
      refine xo_iload_n rfl rfl dX12_isRest_23 ?_
      refine xo_iald dX12_isRest_24 (fun v4 => ?_)
      refine xo_icmp_gt (tgt := 49) dX12_isRest_25 rfl (fun _ => ?_) (fun _ => ?_)
      · refine xo_iconst kc_0 dX12_isRest_49 ?_
        exact xo_zret dX12_isRest_50 rfl
      · refine xo_aload_n rfl rfl dX12_isRest_28 ?_
        refine xo_geta dX12_isRest_29 cl_11 fl_RX12_136 rfl (fun v5 => ?_)
        refine xo_iload_n rfl rfl dX12_isRest_32 ?_
        refine xo_iload_n rfl rfl dX12_isRest_33 ?_
        refine xo_iconst kc_4 dX12_isRest_34 ?_
        refine xo_irem dX12_isRest_35 (fun _ => ?_)
        refine xo_isub dX12_isRest_36 ?_
        refine xo_iload_n rfl rfl dX12_isRest_37 ?_
        refine xo_iadd dX12_isRest_38 ?_
        refine xo_iald dX12_isRest_39 (fun v6 => ?_)
        refine xo_aload_n rfl rfl dX12_isRest_40 ?_
        refine xo_geta dX12_isRest_41 cl_11 fl_RX12_136 rfl (fun v7 => ?_)
        refine xo_iload_n rfl rfl dX12_isRest_44 ?_
        refine xo_iald dX12_isRest_45 (fun v8 => ?_)
        refine xo_icmp_le (tgt := 51) dX12_isRest_46 rfl (fun _ => ?_) (fun _ => ?_)
        · refine xo_iinc rfl (congrArg _ kc_1) (by decide) (mk_p1_v rfl rfl) dX12_isRest_51 ?_
          refine xo_goto (tgt := 2) dX12_isRest_54 rfl ?_
          exact mk_O.wk (ih x0 x1 (x2 + (1 : Int32)) t) ⟨rfl, ⟨rfl, ⟨rfl, trivial⟩⟩⟩
        · refine xo_iconst kc_0 dX12_isRest_49 ?_
          exact xo_zret dX12_isRest_50 rfl
theorem p_X12_isRest (x0 : Nat) (x1 : Int32) (t : mk_S) : mk_O mk_wi M_X12_isRest 0 [some (.ref x0), some (.int x1), none] [] t (B_X12_isRest_2 mk_fu x0 x1 (0 : Int32) t) := by
  refine xo_iconst kc_0 dX12_isRest_0 ?_
  refine xo_istore_n rfl (by decide) (mk_p1_v rfl rfl) dX12_isRest_1 ?_
  exact mk_O.wk (o_X12_isRest_2 mk_fu x0 x1 (0 : Int32) t) ⟨rfl, ⟨rfl, ⟨rfl, trivial⟩⟩⟩
theorem c_X12_isRest (x0 : Nat) (x1 : Int32) (t : mk_S) (z : Int32 × mk_S) (h : F_X12_isRest x0 x1 t = some z) : mk_is t x0 11 ∧ mk_Ct M_X12_isRest [.ref x0, .int x1] t (mk_wi z.1, z.2) :=
  ⟨(mk_gd_spec h).1, mk_ct (w := mk_wi) (by decide +kernel) (Nat.le_of_ble_eq_true rfl) (p_X12_isRest x0 x1 t) z (mk_gd_spec h).2⟩
def B_X12_rests_97 (k64 : Nat → Int32 → Int32 → Int32 → Int32 → mk_S → Option (Int32 × mk_S)) (x0 : Nat) (x4 : Int32) (x5 : Int32) (x6 : Int32) (x7 : Int32) (t : mk_S) : Option (Int32 × mk_S) := k64 x0 x4 x5 x6 (x7 + (1 : Int32)) t
def B_X12_rests_92 (k64 : Nat → Int32 → Int32 → Int32 → Int32 → mk_S → Option (Int32 × mk_S)) (x0 : Nat) (x4 : Int32) (x5 : Int32) (x7 : Int32) (s0 : Int32) (t : mk_S) : Option (Int32 × mk_S) := B_X12_rests_97 k64 x0 x4 (x5 + (1 : Int32)) s0 x7 t
def B_X12_rests_64 : Nat → Nat → Int32 → Int32 → Int32 → Int32 → mk_S → Option (Int32 × mk_S)
  | 0, _, _, _, _, _, _ => none
  | n + 1, x0, x4, x5, x6, x7, t => if (16 : Int32) ≤ x7 then (if x4 = 0 then (some (x5, t)) else (if x6 = (-1 : Int32) then (some ((-2 : Int32), t)) else (if x4 = (1 : Int32) then (if (4 : Int32) = 0 then none else some ((x6 / (4 : Int32)), t)) else (if (4 : Int32) = 0 then none else some ((x6 - x6 / (4 : Int32) * (4 : Int32)), t))))) else ((F_X12_isRest x0 x7 t).bind fun z1 => if z1.1 = 0 then (B_X12_rests_97 (B_X12_rests_64 n) x0 x4 x5 x6 x7 z1.2) else (if x5 = 0 then (B_X12_rests_92 (B_X12_rests_64 n) x0 x4 x5 x7 x7 z1.2) else (B_X12_rests_92 (B_X12_rests_64 n) x0 x4 x5 x7 x6 z1.2)))
def F_X12_rests (x0 : Nat) (x1 : Int32) (x2 : Int32) (x3 : Int32) (x4 : Int32) (t : mk_S) : Option (Int32 × mk_S) := mk_gd t x0 11 ((F_X12_isPerson x0 x1 t).bind fun z1 => if z1.1 = 0 then (some ((-1 : Int32), z1.2)) else ((F_X12_isPerson x0 x2 z1.2).bind fun z2 => if z2.1 = 0 then (some ((-1 : Int32), z2.2)) else (if x1 = x2 then (some ((-1 : Int32), z2.2)) else ((F_X12_in ((x3).toInt64) (1 : Int64) (20 : Int64) z2.2).bind fun z3 => if z3.1 = 0 then (some ((-1 : Int32), z3.2)) else ((F_X12_in ((x4).toInt64) (0 : Int64) (2 : Int64) z3.2).bind fun z4 => if z4.1 = 0 then (some ((-1 : Int32), z4.2)) else ((F_X12_laysFaces x0 x1 x2 x3 z4.2).bind fun z5 => B_X12_rests_64 mk_fu x0 x4 (0 : Int32) (-1 : Int32) (0 : Int32) z5.2))))))
theorem o_X12_rests_97 (k64 : Nat → Int32 → Int32 → Int32 → Int32 → mk_S → Option (Int32 × mk_S)) (h64 : ∀ (x0 : Nat) (x4 : Int32) (x5 : Int32) (x6 : Int32) (x7 : Int32) (t : mk_S), mk_O mk_wi M_X12_rests 64 [some (.ref x0), none, none, none, some (.int x4), some (.int x5), some (.int x6), some (.int x7)] [] t (k64 x0 x4 x5 x6 x7 t)) (x0 : Nat) (x4 : Int32) (x5 : Int32) (x6 : Int32) (x7 : Int32) (t : mk_S) : mk_O mk_wi M_X12_rests 97 [some (.ref x0), none, none, none, some (.int x4), some (.int x5), some (.int x6), some (.int x7)] [] t (B_X12_rests_97 k64 x0 x4 x5 x6 x7 t) := by
  unfold B_X12_rests_97
  refine xo_iinc rfl (congrArg _ kc_1) (by decide) (mk_p1_v rfl rfl) dX12_rests_97 ?_
  refine xo_goto (tgt := 64) dX12_rests_100 rfl ?_
  exact mk_O.wk (h64 x0 x4 x5 x6 (x7 + (1 : Int32)) t) ⟨rfl, ⟨rfl, ⟨rfl, ⟨rfl, ⟨rfl, trivial⟩⟩⟩⟩⟩
theorem o_X12_rests_92 (k64 : Nat → Int32 → Int32 → Int32 → Int32 → mk_S → Option (Int32 × mk_S)) (h64 : ∀ (x0 : Nat) (x4 : Int32) (x5 : Int32) (x6 : Int32) (x7 : Int32) (t : mk_S), mk_O mk_wi M_X12_rests 64 [some (.ref x0), none, none, none, some (.int x4), some (.int x5), some (.int x6), some (.int x7)] [] t (k64 x0 x4 x5 x6 x7 t)) (x0 : Nat) (x4 : Int32) (x5 : Int32) (x7 : Int32) (s0 : Int32) (t : mk_S) : mk_O mk_wi M_X12_rests 92 [some (.ref x0), none, none, none, some (.int x4), some (.int x5), none, some (.int x7)] [.int s0] t (B_X12_rests_92 k64 x0 x4 x5 x7 s0 t) := by
  unfold B_X12_rests_92
  refine xo_istore (by decide) (mk_p1_v rfl rfl) dX12_rests_92 ?_
  refine xo_iinc rfl (congrArg _ kc_1) (by decide) (mk_p1_v rfl rfl) dX12_rests_94 ?_
  exact mk_O.wk (o_X12_rests_97 _ h64 x0 x4 (x5 + (1 : Int32)) s0 x7 t) ⟨rfl, ⟨rfl, ⟨rfl, ⟨rfl, ⟨rfl, trivial⟩⟩⟩⟩⟩
theorem o_X12_rests_64 : ∀ (n : Nat) (x0 : Nat) (x4 : Int32) (x5 : Int32) (x6 : Int32) (x7 : Int32) (t : mk_S), mk_O mk_wi M_X12_rests 64 [some (.ref x0), none, none, none, some (.int x4), some (.int x5), some (.int x6), some (.int x7)] [] t (B_X12_rests_64 n x0 x4 x5 x6 x7 t) := by
  intro n
  induction n with
  | zero =>
    intro x0 x4 x5 x6 x7 t
    exact mk_O.none
  | succ n ih =>
    intro x0 x4 x5 x6 x7 t
    rw [B_X12_rests_64]
    refine xo_iload rfl dX12_rests_64 ?_
    refine xo_bipush kb_16 dX12_rests_66 ?_
    refine xo_icmp_ge (tgt := 103) dX12_rests_68 rfl (fun _ => ?_) (fun _ => ?_)
    · refine xo_iload rfl dX12_rests_103 ?_
      refine xo_if_ne (tgt := 111) dX12_rests_105 rfl (fun _ => ?_) (fun _ => ?_)
      · refine xo_iload rfl dX12_rests_108 ?_
        exact xo_iret dX12_rests_110 rfl
      · refine xo_iload rfl dX12_rests_111 ?_
        refine xo_iconst kc_m1 dX12_rests_113 ?_
        refine xo_icmp_ne (tgt := 122) dX12_rests_114 rfl (fun _ => ?_) (fun _ => ?_)
        · refine xo_bipush kb_m2 dX12_rests_117 ?_
          refine xo_goto (tgt := 139) dX12_rests_119 rfl ?_
          exact xo_iret dX12_rests_139 rfl
        · refine xo_iload rfl dX12_rests_122 ?_
          refine xo_iconst kc_1 dX12_rests_124 ?_
          refine xo_icmp_ne (tgt := 135) dX12_rests_125 rfl (fun _ => ?_) (fun _ => ?_)
          · refine xo_iload rfl dX12_rests_128 ?_
            refine xo_iconst kc_4 dX12_rests_130 ?_
            refine xo_idiv dX12_rests_131 (fun _ => ?_)
            refine xo_goto (tgt := 139) dX12_rests_132 rfl ?_
            exact xo_iret dX12_rests_139 rfl
          · refine xo_iload rfl dX12_rests_135 ?_
            refine xo_iconst kc_4 dX12_rests_137 ?_
            refine xo_irem dX12_rests_138 (fun _ => ?_)
            exact xo_iret dX12_rests_139 rfl
    · refine xo_aload_n rfl rfl dX12_rests_71 ?_
      refine xo_iload rfl dX12_rests_72 ?_
      refine mk_O.callV (N := M_X12_isRest) (ci := 11) (q := (RX12, TX12, 64)) (b := x0) (As1 := [.int x7]) (S := []) md_X12_isRest mv_X12_isRest lk_RX12_487 rfl (Nat.le_of_ble_eq_true rfl) (by decide) dX12_rests_74 rfl rfl rfl (fun z hz => (c_X12_isRest x0 x7 t z hz).1) (fun z hz => (c_X12_isRest x0 x7 t z hz).2) (fun z1 _ => ?_)
      show mk_O _ _ _ _ (.int z1.1 :: []) _ _
      refine xo_if_eq (tgt := 97) dX12_rests_77 rfl (fun _ => ?_) (fun _ => ?_)
      · exact mk_O.wk (o_X12_rests_97 _ ih x0 x4 x5 x6 x7 z1.2) ⟨rfl, ⟨rfl, ⟨rfl, ⟨rfl, ⟨rfl, trivial⟩⟩⟩⟩⟩
      · refine xo_iload rfl dX12_rests_80 ?_
        refine xo_if_ne (tgt := 90) dX12_rests_82 rfl (fun _ => ?_) (fun _ => ?_)
        · refine xo_iload rfl dX12_rests_85 ?_
          refine xo_goto (tgt := 92) dX12_rests_87 rfl ?_
          exact mk_O.wk (o_X12_rests_92 _ ih x0 x4 x5 x7 x7 z1.2) ⟨rfl, ⟨rfl, ⟨rfl, ⟨rfl, trivial⟩⟩⟩⟩
        · refine xo_iload rfl dX12_rests_90 ?_
          exact mk_O.wk (o_X12_rests_92 _ ih x0 x4 x5 x7 x6 z1.2) ⟨rfl, ⟨rfl, ⟨rfl, ⟨rfl, trivial⟩⟩⟩⟩
theorem p_X12_rests (x0 : Nat) (x1 : Int32) (x2 : Int32) (x3 : Int32) (x4 : Int32) (t : mk_S) : mk_O mk_wi M_X12_rests 0 [some (.ref x0), some (.int x1), some (.int x2), some (.int x3), some (.int x4), none, none, none] [] t ((F_X12_isPerson x0 x1 t).bind fun z1 => if z1.1 = 0 then (some ((-1 : Int32), z1.2)) else ((F_X12_isPerson x0 x2 z1.2).bind fun z2 => if z2.1 = 0 then (some ((-1 : Int32), z2.2)) else (if x1 = x2 then (some ((-1 : Int32), z2.2)) else ((F_X12_in ((x3).toInt64) (1 : Int64) (20 : Int64) z2.2).bind fun z3 => if z3.1 = 0 then (some ((-1 : Int32), z3.2)) else ((F_X12_in ((x4).toInt64) (0 : Int64) (2 : Int64) z3.2).bind fun z4 => if z4.1 = 0 then (some ((-1 : Int32), z4.2)) else ((F_X12_laysFaces x0 x1 x2 x3 z4.2).bind fun z5 => B_X12_rests_64 mk_fu x0 x4 (0 : Int32) (-1 : Int32) (0 : Int32) z5.2)))))) := by
  refine xo_aload_n rfl rfl dX12_rests_0 ?_
  refine xo_iload_n rfl rfl dX12_rests_1 ?_
  refine mk_O.callV (N := M_X12_isPerson) (ci := 11) (q := (RX12, TX12, 64)) (b := x0) (As1 := [.int x1]) (S := []) md_X12_isPerson mv_X12_isPerson lk_RX12_358 rfl (Nat.le_of_ble_eq_true rfl) (by decide) dX12_rests_2 rfl rfl rfl (fun z hz => (c_X12_isPerson x0 x1 t z hz).1) (fun z hz => (c_X12_isPerson x0 x1 t z hz).2) (fun z1 _ => ?_)
  show mk_O _ _ _ _ (.int z1.1 :: []) _ _
  refine xo_if_eq (tgt := 46) dX12_rests_5 rfl (fun _ => ?_) (fun _ => ?_)
  · refine xo_iconst kc_m1 dX12_rests_46 ?_
    exact xo_iret dX12_rests_47 rfl
  · refine xo_aload_n rfl rfl dX12_rests_8 ?_
    refine xo_iload_n rfl rfl dX12_rests_9 ?_
    refine mk_O.callV (N := M_X12_isPerson) (ci := 11) (q := (RX12, TX12, 64)) (b := x0) (As1 := [.int x2]) (S := []) md_X12_isPerson mv_X12_isPerson lk_RX12_358 rfl (Nat.le_of_ble_eq_true rfl) (by decide) dX12_rests_10 rfl rfl rfl (fun z hz => (c_X12_isPerson x0 x2 z1.2 z hz).1) (fun z hz => (c_X12_isPerson x0 x2 z1.2 z hz).2) (fun z2 _ => ?_)
    show mk_O _ _ _ _ (.int z2.1 :: []) _ _
    refine xo_if_eq (tgt := 46) dX12_rests_13 rfl (fun _ => ?_) (fun _ => ?_)
    · refine xo_iconst kc_m1 dX12_rests_46 ?_
      exact xo_iret dX12_rests_47 rfl
    · refine xo_iload_n rfl rfl dX12_rests_16 ?_
      refine xo_iload_n rfl rfl dX12_rests_17 ?_
      refine xo_icmp_eq (tgt := 46) dX12_rests_18 rfl (fun _ => ?_) (fun _ => ?_)
      · refine xo_iconst kc_m1 dX12_rests_46 ?_
        exact xo_iret dX12_rests_47 rfl
      · refine xo_iload_n rfl rfl dX12_rests_21 ?_
        refine xo_i2l dX12_rests_22 ?_
        refine xo_lconst kl_1 dX12_rests_23 ?_
        refine xo_ldc2 (v := 20) (mk_w8 (i := 33) rfl rfl) dX12_rests_24 ?_
        refine mk_O.callS (N := M_X12_in) (As := [.long ((x3).toInt64), .long (1 : Int64), .long (20 : Int64)]) (S := []) md_X12_in ms_X12_in lk_RX12_159 rfl (Nat.le_of_ble_eq_true rfl) (by decide) dX12_rests_27 rfl (fun z hz => c_X12_in ((x3).toInt64) (1 : Int64) (20 : Int64) z2.2 z hz) (fun z3 _ => ?_)
        show mk_O _ _ _ _ (.int z3.1 :: []) _ _
        refine xo_if_eq (tgt := 46) dX12_rests_30 rfl (fun _ => ?_) (fun _ => ?_)
        · refine xo_iconst kc_m1 dX12_rests_46 ?_
          exact xo_iret dX12_rests_47 rfl
        · refine xo_iload rfl dX12_rests_33 ?_
          refine xo_i2l dX12_rests_35 ?_
          refine xo_lconst kl_0 dX12_rests_36 ?_
          refine xo_ldc2 (v := 2) (mk_w7 (i := 70) rfl rfl) dX12_rests_37 ?_
          refine mk_O.callS (N := M_X12_in) (As := [.long ((x4).toInt64), .long (0 : Int64), .long (2 : Int64)]) (S := []) md_X12_in ms_X12_in lk_RX12_159 rfl (Nat.le_of_ble_eq_true rfl) (by decide) dX12_rests_40 rfl (fun z hz => c_X12_in ((x4).toInt64) (0 : Int64) (2 : Int64) z3.2 z hz) (fun z4 _ => ?_)
          show mk_O _ _ _ _ (.int z4.1 :: []) _ _
          refine xo_if_ne (tgt := 48) dX12_rests_43 rfl (fun _ => ?_) (fun _ => ?_)
          · refine xo_iconst kc_m1 dX12_rests_46 ?_
            exact xo_iret dX12_rests_47 rfl
          · refine xo_aload_n rfl rfl dX12_rests_48 ?_
            refine xo_iload_n rfl rfl dX12_rests_49 ?_
            refine xo_iload_n rfl rfl dX12_rests_50 ?_
            refine xo_iload_n rfl rfl dX12_rests_51 ?_
            refine mk_O.callV (N := M_X12_laysFaces) (ci := 11) (q := (RX12, TX12, 64)) (b := x0) (As1 := [.int x1, .int x2, .int x3]) (S := []) md_X12_laysFaces mv_X12_laysFaces lk_RX12_483 rfl (Nat.le_of_ble_eq_true rfl) (by decide) dX12_rests_52 rfl rfl rfl (fun z hz => (c_X12_laysFaces x0 x1 x2 x3 z4.2 z hz).1) (fun z hz => (c_X12_laysFaces x0 x1 x2 x3 z4.2 z hz).2) (fun z5 _ => ?_)
            show mk_O _ _ _ _ [] _ _
            refine xo_iconst kc_0 dX12_rests_55 ?_
            refine xo_istore (by decide) (mk_p1_v rfl rfl) dX12_rests_56 ?_
            refine xo_iconst kc_m1 dX12_rests_58 ?_
            refine xo_istore (by decide) (mk_p1_v rfl rfl) dX12_rests_59 ?_
            refine xo_iconst kc_0 dX12_rests_61 ?_
            refine xo_istore (by decide) (mk_p1_v rfl rfl) dX12_rests_62 ?_
            exact mk_O.wk (o_X12_rests_64 mk_fu x0 x4 (0 : Int32) (-1 : Int32) (0 : Int32) z5.2) ⟨rfl, ⟨rfl, ⟨rfl, ⟨rfl, ⟨rfl, trivial⟩⟩⟩⟩⟩
theorem c_X12_rests (x0 : Nat) (x1 : Int32) (x2 : Int32) (x3 : Int32) (x4 : Int32) (t : mk_S) (z : Int32 × mk_S) (h : F_X12_rests x0 x1 x2 x3 x4 t = some z) : mk_is t x0 11 ∧ mk_Ct M_X12_rests [.ref x0, .int x1, .int x2, .int x3, .int x4] t (mk_wi z.1, z.2) :=
  ⟨(mk_gd_spec h).1, mk_ct (w := mk_wi) (by decide +kernel) (Nat.le_of_ble_eq_true rfl) (p_X12_rests x0 x1 x2 x3 x4 t) z (mk_gd_spec h).2⟩
def B_X12_pence_116 (k42 : Nat → Int32 → Int32 → Int32 → Int32 → Int32 → Int32 → mk_S → Option (Int32 × mk_S)) (x0 : Nat) (x1 : Int32) (x2 : Int32) (x3 : Int32) (x4 : Int32) (x6 : Int32) (s0 : Int32) (s1 : Int32) (t : mk_S) : Option (Int32 × mk_S) := k42 x0 x1 x2 x3 x4 (s0 + s1) (x6 + (1 : Int32)) t
def B_X12_pence_111 (k42 : Nat → Int32 → Int32 → Int32 → Int32 → Int32 → Int32 → mk_S → Option (Int32 × mk_S)) (x0 : Nat) (x1 : Int32) (x2 : Int32) (x3 : Int32) (x4 : Int32) (x6 : Int32) (s0 : Int32) (t : mk_S) : Option (Int32 × mk_S) := B_X12_pence_116 k42 x0 x1 x2 x3 x4 x6 s0 (1 : Int32) t
def B_X12_pence_115 (k42 : Nat → Int32 → Int32 → Int32 → Int32 → Int32 → Int32 → mk_S → Option (Int32 × mk_S)) (x0 : Nat) (x1 : Int32) (x2 : Int32) (x3 : Int32) (x4 : Int32) (x6 : Int32) (s0 : Int32) (t : mk_S) : Option (Int32 × mk_S) := B_X12_pence_116 k42 x0 x1 x2 x3 x4 x6 s0 (0 : Int32) t
def B_X12_pence_42 : Nat → Nat → Int32 → Int32 → Int32 → Int32 → Int32 → Int32 → mk_S → Option (Int32 × mk_S)
  | 0, _, _, _, _, _, _, _, _ => none
  | n + 1, x0, x1, x2, x3, x4, x5, x6, t => (mk_ga t x0 11 1).bind fun v1 => (mk_ld 100 t v1 (2 : Int32)).bind fun v2 => if v2 ≤ x6 then ((mk_ga t x0 11 5).bind fun v3 => (mk_ld 100 t v3 x2).bind fun v4 => if x3 = 0 then none else if x4 ≤ x5 then (some ((((x1 * v4) / x3) + (0 : Int32)), t)) else (some ((((x1 * v4) / x3) + (1 : Int32)), t))) else ((mk_ga t x0 11 5).bind fun v5 => (mk_ld 100 t v5 x6).bind fun v6 => if x3 = 0 then none else (mk_ga t x0 11 5).bind fun v7 => (mk_ld 100 t v7 x6).bind fun v8 => if x3 = 0 then none else (mk_ga t x0 11 5).bind fun v9 => (mk_ld 100 t v9 x2).bind fun v10 => if x3 = 0 then none else if 0 < (((x1 * v8) - (x1 * v8) / x3 * x3) - ((x1 * v10) - (x1 * v10) / x3 * x3)) then (B_X12_pence_111 (B_X12_pence_42 n) x0 x1 x2 x3 (x4 - ((x1 * v6) / x3)) x6 x5 t) else (if (((x1 * v8) - (x1 * v8) / x3 * x3) - ((x1 * v10) - (x1 * v10) / x3 * x3)) = 0 then (if x2 ≤ x6 then (B_X12_pence_115 (B_X12_pence_42 n) x0 x1 x2 x3 (x4 - ((x1 * v6) / x3)) x6 x5 t) else (B_X12_pence_111 (B_X12_pence_42 n) x0 x1 x2 x3 (x4 - ((x1 * v6) / x3)) x6 x5 t)) else (B_X12_pence_115 (B_X12_pence_42 n) x0 x1 x2 x3 (x4 - ((x1 * v6) / x3)) x6 x5 t)))
def F_X12_pence (x0 : Nat) (x1 : Int32) (x2 : Int32) (t : mk_S) : Option (Int32 × mk_S) := mk_gd t x0 11 ((F_X12_isPerson x0 x2 t).bind fun z1 => if z1.1 = 0 then (some ((-1 : Int32), z1.2)) else ((F_X12_in ((x1).toInt64) (0 : Int64) (9999 : Int64) z1.2).bind fun z2 => if z2.1 = 0 then (some ((-1 : Int32), z2.2)) else ((F_X12_allActed x0 z2.2).bind fun z3 => if z3.1 = 0 then (some ((0 : Int32), z3.2)) else (B_X12_pence_42 mk_fu x0 x1 x2 z3.1 x1 (0 : Int32) (0 : Int32) z3.2))))
theorem o_X12_pence_116 (k42 : Nat → Int32 → Int32 → Int32 → Int32 → Int32 → Int32 → mk_S → Option (Int32 × mk_S)) (h42 : ∀ (x0 : Nat) (x1 : Int32) (x2 : Int32) (x3 : Int32) (x4 : Int32) (x5 : Int32) (x6 : Int32) (t : mk_S), mk_O mk_wi M_X12_pence 42 [some (.ref x0), some (.int x1), some (.int x2), some (.int x3), some (.int x4), some (.int x5), some (.int x6), none] [] t (k42 x0 x1 x2 x3 x4 x5 x6 t)) (x0 : Nat) (x1 : Int32) (x2 : Int32) (x3 : Int32) (x4 : Int32) (x6 : Int32) (s0 : Int32) (s1 : Int32) (t : mk_S) : mk_O mk_wi M_X12_pence 116 [some (.ref x0), some (.int x1), some (.int x2), some (.int x3), some (.int x4), none, some (.int x6), none] [.int s1, .int s0] t (B_X12_pence_116 k42 x0 x1 x2 x3 x4 x6 s0 s1 t) := by
  unfold B_X12_pence_116
  refine xo_iadd dX12_pence_116 ?_
  refine xo_istore (by decide) (mk_p1_v rfl rfl) dX12_pence_117 ?_
  refine xo_iinc rfl (congrArg _ kc_1) (by decide) (mk_p1_v rfl rfl) dX12_pence_119 ?_
  refine xo_goto (tgt := 42) dX12_pence_122 rfl ?_
  exact mk_O.wk (h42 x0 x1 x2 x3 x4 (s0 + s1) (x6 + (1 : Int32)) t) ⟨rfl, ⟨rfl, ⟨rfl, ⟨rfl, ⟨rfl, ⟨rfl, ⟨rfl, trivial⟩⟩⟩⟩⟩⟩⟩
theorem o_X12_pence_111 (k42 : Nat → Int32 → Int32 → Int32 → Int32 → Int32 → Int32 → mk_S → Option (Int32 × mk_S)) (h42 : ∀ (x0 : Nat) (x1 : Int32) (x2 : Int32) (x3 : Int32) (x4 : Int32) (x5 : Int32) (x6 : Int32) (t : mk_S), mk_O mk_wi M_X12_pence 42 [some (.ref x0), some (.int x1), some (.int x2), some (.int x3), some (.int x4), some (.int x5), some (.int x6), none] [] t (k42 x0 x1 x2 x3 x4 x5 x6 t)) (x0 : Nat) (x1 : Int32) (x2 : Int32) (x3 : Int32) (x4 : Int32) (x6 : Int32) (s0 : Int32) (t : mk_S) : mk_O mk_wi M_X12_pence 111 [some (.ref x0), some (.int x1), some (.int x2), some (.int x3), some (.int x4), none, some (.int x6), none] [.int s0] t (B_X12_pence_111 k42 x0 x1 x2 x3 x4 x6 s0 t) := by
  unfold B_X12_pence_111
  refine xo_iconst kc_1 dX12_pence_111 ?_
  refine xo_goto (tgt := 116) dX12_pence_112 rfl ?_
  exact mk_O.wk (o_X12_pence_116 _ h42 x0 x1 x2 x3 x4 x6 s0 (1 : Int32) t) ⟨rfl, ⟨rfl, ⟨rfl, ⟨rfl, ⟨rfl, ⟨rfl, trivial⟩⟩⟩⟩⟩⟩
theorem o_X12_pence_115 (k42 : Nat → Int32 → Int32 → Int32 → Int32 → Int32 → Int32 → mk_S → Option (Int32 × mk_S)) (h42 : ∀ (x0 : Nat) (x1 : Int32) (x2 : Int32) (x3 : Int32) (x4 : Int32) (x5 : Int32) (x6 : Int32) (t : mk_S), mk_O mk_wi M_X12_pence 42 [some (.ref x0), some (.int x1), some (.int x2), some (.int x3), some (.int x4), some (.int x5), some (.int x6), none] [] t (k42 x0 x1 x2 x3 x4 x5 x6 t)) (x0 : Nat) (x1 : Int32) (x2 : Int32) (x3 : Int32) (x4 : Int32) (x6 : Int32) (s0 : Int32) (t : mk_S) : mk_O mk_wi M_X12_pence 115 [some (.ref x0), some (.int x1), some (.int x2), some (.int x3), some (.int x4), none, some (.int x6), none] [.int s0] t (B_X12_pence_115 k42 x0 x1 x2 x3 x4 x6 s0 t) := by
  unfold B_X12_pence_115
  refine xo_iconst kc_0 dX12_pence_115 ?_
  exact mk_O.wk (o_X12_pence_116 _ h42 x0 x1 x2 x3 x4 x6 s0 (0 : Int32) t) ⟨rfl, ⟨rfl, ⟨rfl, ⟨rfl, ⟨rfl, ⟨rfl, trivial⟩⟩⟩⟩⟩⟩
theorem o_X12_pence_42 : ∀ (n : Nat) (x0 : Nat) (x1 : Int32) (x2 : Int32) (x3 : Int32) (x4 : Int32) (x5 : Int32) (x6 : Int32) (t : mk_S), mk_O mk_wi M_X12_pence 42 [some (.ref x0), some (.int x1), some (.int x2), some (.int x3), some (.int x4), some (.int x5), some (.int x6), none] [] t (B_X12_pence_42 n x0 x1 x2 x3 x4 x5 x6 t) := by
  intro n
  induction n with
  | zero =>
    intro x0 x1 x2 x3 x4 x5 x6 t
    exact mk_O.none
  | succ n ih =>
    intro x0 x1 x2 x3 x4 x5 x6 t
    rw [B_X12_pence_42]
    refine xo_iload rfl dX12_pence_42 ?_
    refine xo_aload_n rfl rfl dX12_pence_44 ?_
    refine xo_geta dX12_pence_45 cl_11 fl_RX12_9 rfl (fun v1 => ?_)
    refine xo_iconst kc_2 dX12_pence_48 ?_
    refine xo_iald dX12_pence_49 (fun v2 => ?_)
    refine xo_icmp_ge (tgt := 125) dX12_pence_50 rfl (fun _ => ?_) (fun _ => ?_)
    · refine xo_iload_n rfl rfl dX12_pence_125 ?_
      refine xo_aload_n rfl rfl dX12_pence_126 ?_
      refine xo_geta dX12_pence_127 cl_11 fl_RX12_22 rfl (fun v3 => ?_)
      refine xo_iload_n rfl rfl dX12_pence_130 ?_
      refine xo_iald dX12_pence_131 (fun v4 => ?_)
      refine xo_imul dX12_pence_132 ?_
      refine xo_iload_n rfl rfl dX12_pence_133 ?_
      refine xo_idiv dX12_pence_134 (fun _ => ?_)
      refine xo_iload rfl dX12_pence_135 ?_
      refine xo_iload rfl dX12_pence_137 ?_
      refine xo_icmp_ge (tgt := 146) dX12_pence_139 rfl (fun _ => ?_) (fun _ => ?_)
      · refine xo_iconst kc_0 dX12_pence_146 ?_
        refine xo_iadd dX12_pence_147 ?_
        exact xo_iret dX12_pence_148 rfl
      · refine xo_iconst kc_1 dX12_pence_142 ?_
        refine xo_goto (tgt := 147) dX12_pence_143 rfl ?_
        refine xo_iadd dX12_pence_147 ?_
        exact xo_iret dX12_pence_148 rfl
    · refine xo_iload rfl dX12_pence_53 ?_
      refine xo_iload_n rfl rfl dX12_pence_55 ?_
      refine xo_aload_n rfl rfl dX12_pence_56 ?_
      refine xo_geta dX12_pence_57 cl_11 fl_RX12_22 rfl (fun v5 => ?_)
      refine xo_iload rfl dX12_pence_60 ?_
      refine xo_iald dX12_pence_62 (fun v6 => ?_)
      refine xo_imul dX12_pence_63 ?_
      refine xo_iload_n rfl rfl dX12_pence_64 ?_
      refine xo_idiv dX12_pence_65 (fun _ => ?_)
      refine xo_isub dX12_pence_66 ?_
      refine xo_istore (by decide) (mk_p1_v rfl rfl) dX12_pence_67 ?_
      refine xo_iload_n rfl rfl dX12_pence_69 ?_
      refine xo_aload_n rfl rfl dX12_pence_70 ?_
      refine xo_geta dX12_pence_71 cl_11 fl_RX12_22 rfl (fun v7 => ?_)
      refine xo_iload rfl dX12_pence_74 ?_
      refine xo_iald dX12_pence_76 (fun v8 => ?_)
      refine xo_imul dX12_pence_77 ?_
      refine xo_iload_n rfl rfl dX12_pence_78 ?_
      refine xo_irem dX12_pence_79 (fun _ => ?_)
      refine xo_iload_n rfl rfl dX12_pence_80 ?_
      refine xo_aload_n rfl rfl dX12_pence_81 ?_
      refine xo_geta dX12_pence_82 cl_11 fl_RX12_22 rfl (fun v9 => ?_)
      refine xo_iload_n rfl rfl dX12_pence_85 ?_
      refine xo_iald dX12_pence_86 (fun v10 => ?_)
      refine xo_imul dX12_pence_87 ?_
      refine xo_iload_n rfl rfl dX12_pence_88 ?_
      refine xo_irem dX12_pence_89 (fun _ => ?_)
      refine xo_isub dX12_pence_90 ?_
      refine xo_istore (by decide) (mk_p1_v rfl rfl) dX12_pence_91 ?_
      refine xo_iload rfl dX12_pence_93 ?_
      refine xo_iload rfl dX12_pence_95 ?_
      refine xo_if_gt (tgt := 111) dX12_pence_97 rfl (fun _ => ?_) (fun _ => ?_)
      · exact mk_O.wk (o_X12_pence_111 _ ih x0 x1 x2 x3 (x4 - ((x1 * v6) / x3)) x6 x5 t) ⟨rfl, ⟨rfl, ⟨rfl, ⟨rfl, ⟨rfl, ⟨rfl, trivial⟩⟩⟩⟩⟩⟩
      · refine xo_iload rfl dX12_pence_100 ?_
        refine xo_if_ne (tgt := 115) dX12_pence_102 rfl (fun _ => ?_) (fun _ => ?_)
        · refine xo_iload rfl dX12_pence_105 ?_
          refine xo_iload_n rfl rfl dX12_pence_107 ?_
          refine xo_icmp_ge (tgt := 115) dX12_pence_108 rfl (fun _ => ?_) (fun _ => ?_)
          · exact mk_O.wk (o_X12_pence_115 _ ih x0 x1 x2 x3 (x4 - ((x1 * v6) / x3)) x6 x5 t) ⟨rfl, ⟨rfl, ⟨rfl, ⟨rfl, ⟨rfl, ⟨rfl, trivial⟩⟩⟩⟩⟩⟩
          · exact mk_O.wk (o_X12_pence_111 _ ih x0 x1 x2 x3 (x4 - ((x1 * v6) / x3)) x6 x5 t) ⟨rfl, ⟨rfl, ⟨rfl, ⟨rfl, ⟨rfl, ⟨rfl, trivial⟩⟩⟩⟩⟩⟩
        · exact mk_O.wk (o_X12_pence_115 _ ih x0 x1 x2 x3 (x4 - ((x1 * v6) / x3)) x6 x5 t) ⟨rfl, ⟨rfl, ⟨rfl, ⟨rfl, ⟨rfl, ⟨rfl, trivial⟩⟩⟩⟩⟩⟩
theorem p_X12_pence (x0 : Nat) (x1 : Int32) (x2 : Int32) (t : mk_S) : mk_O mk_wi M_X12_pence 0 [some (.ref x0), some (.int x1), some (.int x2), none, none, none, none, none] [] t ((F_X12_isPerson x0 x2 t).bind fun z1 => if z1.1 = 0 then (some ((-1 : Int32), z1.2)) else ((F_X12_in ((x1).toInt64) (0 : Int64) (9999 : Int64) z1.2).bind fun z2 => if z2.1 = 0 then (some ((-1 : Int32), z2.2)) else ((F_X12_allActed x0 z2.2).bind fun z3 => if z3.1 = 0 then (some ((0 : Int32), z3.2)) else (B_X12_pence_42 mk_fu x0 x1 x2 z3.1 x1 (0 : Int32) (0 : Int32) z3.2)))) := by
  refine xo_aload_n rfl rfl dX12_pence_0 ?_
  refine xo_iload_n rfl rfl dX12_pence_1 ?_
  refine mk_O.callV (N := M_X12_isPerson) (ci := 11) (q := (RX12, TX12, 64)) (b := x0) (As1 := [.int x2]) (S := []) md_X12_isPerson mv_X12_isPerson lk_RX12_358 rfl (Nat.le_of_ble_eq_true rfl) (by decide) dX12_pence_2 rfl rfl rfl (fun z hz => (c_X12_isPerson x0 x2 t z hz).1) (fun z hz => (c_X12_isPerson x0 x2 t z hz).2) (fun z1 _ => ?_)
  show mk_O _ _ _ _ (.int z1.1 :: []) _ _
  refine xo_if_eq (tgt := 20) dX12_pence_5 rfl (fun _ => ?_) (fun _ => ?_)
  · refine xo_iconst kc_m1 dX12_pence_20 ?_
    exact xo_iret dX12_pence_21 rfl
  · refine xo_iload_n rfl rfl dX12_pence_8 ?_
    refine xo_i2l dX12_pence_9 ?_
    refine xo_lconst kl_0 dX12_pence_10 ?_
    refine xo_ldc2 (v := 9999) (mk_w8 (i := 7) rfl rfl) dX12_pence_11 ?_
    refine mk_O.callS (N := M_X12_in) (As := [.long ((x1).toInt64), .long (0 : Int64), .long (9999 : Int64)]) (S := []) md_X12_in ms_X12_in lk_RX12_159 rfl (Nat.le_of_ble_eq_true rfl) (by decide) dX12_pence_14 rfl (fun z hz => c_X12_in ((x1).toInt64) (0 : Int64) (9999 : Int64) z1.2 z hz) (fun z2 _ => ?_)
    show mk_O _ _ _ _ (.int z2.1 :: []) _ _
    refine xo_if_ne (tgt := 22) dX12_pence_17 rfl (fun _ => ?_) (fun _ => ?_)
    · refine xo_iconst kc_m1 dX12_pence_20 ?_
      exact xo_iret dX12_pence_21 rfl
    · refine xo_aload_n rfl rfl dX12_pence_22 ?_
      refine mk_O.callV (N := M_X12_allActed) (ci := 11) (q := (RX12, TX12, 64)) (b := x0) (As1 := []) (S := []) md_X12_allActed mv_X12_allActed lk_RX12_490 rfl (Nat.le_of_ble_eq_true rfl) (by decide) dX12_pence_23 rfl rfl rfl (fun z hz => (c_X12_allActed x0 z2.2 z hz).1) (fun z hz => (c_X12_allActed x0 z2.2 z hz).2) (fun z3 _ => ?_)
      show mk_O _ _ _ _ (.int z3.1 :: []) _ _
      refine xo_istore_n rfl (by decide) (mk_p1_v rfl rfl) dX12_pence_26 ?_
      refine xo_iload_n rfl rfl dX12_pence_27 ?_
      refine xo_if_ne (tgt := 33) dX12_pence_28 rfl (fun _ => ?_) (fun _ => ?_)
      · refine xo_iconst kc_0 dX12_pence_31 ?_
        exact xo_iret dX12_pence_32 rfl
      · refine xo_iload_n rfl rfl dX12_pence_33 ?_
        refine xo_istore (by decide) (mk_p1_v rfl rfl) dX12_pence_34 ?_
        refine xo_iconst kc_0 dX12_pence_36 ?_
        refine xo_istore (by decide) (mk_p1_v rfl rfl) dX12_pence_37 ?_
        refine xo_iconst kc_0 dX12_pence_39 ?_
        refine xo_istore (by decide) (mk_p1_v rfl rfl) dX12_pence_40 ?_
        exact mk_O.wk (o_X12_pence_42 mk_fu x0 x1 x2 z3.1 x1 (0 : Int32) (0 : Int32) z3.2) ⟨rfl, ⟨rfl, ⟨rfl, ⟨rfl, ⟨rfl, ⟨rfl, ⟨rfl, trivial⟩⟩⟩⟩⟩⟩⟩
theorem c_X12_pence (x0 : Nat) (x1 : Int32) (x2 : Int32) (t : mk_S) (z : Int32 × mk_S) (h : F_X12_pence x0 x1 x2 t = some z) : mk_is t x0 11 ∧ mk_Ct M_X12_pence [.ref x0, .int x1, .int x2] t (mk_wi z.1, z.2) :=
  ⟨(mk_gd_spec h).1, mk_ct (w := mk_wi) (by decide +kernel) (Nat.le_of_ble_eq_true rfl) (p_X12_pence x0 x1 x2 t) z (mk_gd_spec h).2⟩
def F_X12_note (x0 : Nat) (x1 : Int32) (x2 : Int32) (x3 : Int32) (t : mk_S) : Option (Int32 × mk_S) := mk_gd t x0 11 (if x1 = (-1 : Int32) then ((mk_ga t x0 11 1).bind fun v1 => (mk_st 100 t v1 (7 : Int32) (0 : Int32)).bind fun t2 => some ((0 : Int32), t2)) else ((mk_ga t x0 11 1).bind fun v3 => (mk_ld 100 t v3 (7 : Int32)).bind fun v4 => (F_X12_in ((x1).toInt64) (0 : Int64) (60 : Int64) t).bind fun z5 => if z5.1 = 0 then (some ((-2 : Int32), z5.2)) else ((F_X12_isCell x0 x2 z5.2).bind fun z6 => if z6.1 = 0 then (some ((-2 : Int32), z6.2)) else ((F_X12_in ((x3).toInt64) (0 : Int64) (999 : Int64) z6.2).bind fun z7 => if z7.1 = 0 then (some ((-2 : Int32), z7.2)) else (if v4 = (10 : Int32) then (some ((-2 : Int32), z7.2)) else ((mk_ga z7.2 x0 11 14).bind fun v8 => (mk_st 100 z7.2 v8 v4 x1).bind fun t9 => (mk_ga t9 x0 11 15).bind fun v10 => (mk_st 100 t9 v10 v4 x2).bind fun t11 => (mk_ga t11 x0 11 16).bind fun v12 => (mk_st 100 t11 v12 v4 x3).bind fun t13 => (mk_ga t13 x0 11 1).bind fun v14 => (mk_ld 100 t13 v14 (7 : Int32)).bind fun v15 => (mk_st 100 t13 v14 (7 : Int32) (v15 + (1 : Int32))).bind fun t16 => some ((v4 + (1 : Int32)), t16)))))))
theorem p_X12_note (x0 : Nat) (x1 : Int32) (x2 : Int32) (x3 : Int32) (t : mk_S) : mk_O mk_wi M_X12_note 0 [some (.ref x0), some (.int x1), some (.int x2), some (.int x3), none] [] t (if x1 = (-1 : Int32) then ((mk_ga t x0 11 1).bind fun v1 => (mk_st 100 t v1 (7 : Int32) (0 : Int32)).bind fun t2 => some ((0 : Int32), t2)) else ((mk_ga t x0 11 1).bind fun v3 => (mk_ld 100 t v3 (7 : Int32)).bind fun v4 => (F_X12_in ((x1).toInt64) (0 : Int64) (60 : Int64) t).bind fun z5 => if z5.1 = 0 then (some ((-2 : Int32), z5.2)) else ((F_X12_isCell x0 x2 z5.2).bind fun z6 => if z6.1 = 0 then (some ((-2 : Int32), z6.2)) else ((F_X12_in ((x3).toInt64) (0 : Int64) (999 : Int64) z6.2).bind fun z7 => if z7.1 = 0 then (some ((-2 : Int32), z7.2)) else (if v4 = (10 : Int32) then (some ((-2 : Int32), z7.2)) else ((mk_ga z7.2 x0 11 14).bind fun v8 => (mk_st 100 z7.2 v8 v4 x1).bind fun t9 => (mk_ga t9 x0 11 15).bind fun v10 => (mk_st 100 t9 v10 v4 x2).bind fun t11 => (mk_ga t11 x0 11 16).bind fun v12 => (mk_st 100 t11 v12 v4 x3).bind fun t13 => (mk_ga t13 x0 11 1).bind fun v14 => (mk_ld 100 t13 v14 (7 : Int32)).bind fun v15 => (mk_st 100 t13 v14 (7 : Int32) (v15 + (1 : Int32))).bind fun t16 => some ((v4 + (1 : Int32)), t16))))))) := by
  refine xo_iload_n rfl rfl dX12_note_0 ?_
  refine xo_iconst kc_m1 dX12_note_1 ?_
  refine xo_icmp_ne (tgt := 15) dX12_note_2 rfl (fun _ => ?_) (fun _ => ?_)
  · refine xo_aload_n rfl rfl dX12_note_5 ?_
    refine xo_geta dX12_note_6 cl_11 fl_RX12_9 rfl (fun v1 => ?_)
    refine xo_bipush kb_7 dX12_note_9 ?_
    refine xo_iconst kc_0 dX12_note_11 ?_
    refine xo_iast dX12_note_12 (fun t2 => ?_)
    refine xo_iconst kc_0 dX12_note_13 ?_
    exact xo_iret dX12_note_14 rfl
  · refine xo_aload_n rfl rfl dX12_note_15 ?_
    refine xo_geta dX12_note_16 cl_11 fl_RX12_9 rfl (fun v3 => ?_)
    refine xo_bipush kb_7 dX12_note_19 ?_
    refine xo_iald dX12_note_21 (fun v4 => ?_)
    refine xo_istore (by decide) (mk_p1_v rfl rfl) dX12_note_22 ?_
    refine xo_iload_n rfl rfl dX12_note_24 ?_
    refine xo_i2l dX12_note_25 ?_
    refine xo_lconst kl_0 dX12_note_26 ?_
    refine xo_ldc2 (v := 60) (mk_w7 (i := 226) rfl rfl) dX12_note_27 ?_
    refine mk_O.callS (N := M_X12_in) (As := [.long ((x1).toInt64), .long (0 : Int64), .long (60 : Int64)]) (S := []) md_X12_in ms_X12_in lk_RX12_159 rfl (Nat.le_of_ble_eq_true rfl) (by decide) dX12_note_30 rfl (fun z hz => c_X12_in ((x1).toInt64) (0 : Int64) (60 : Int64) t z hz) (fun z5 _ => ?_)
    show mk_O _ _ _ _ (.int z5.1 :: []) _ _
    refine xo_if_eq (tgt := 63) dX12_note_33 rfl (fun _ => ?_) (fun _ => ?_)
    · refine xo_bipush kb_m2 dX12_note_63 ?_
      exact xo_iret dX12_note_65 rfl
    · refine xo_aload_n rfl rfl dX12_note_36 ?_
      refine xo_iload_n rfl rfl dX12_note_37 ?_
      refine mk_O.callV (N := M_X12_isCell) (ci := 11) (q := (RX12, TX12, 64)) (b := x0) (As1 := [.int x2]) (S := []) md_X12_isCell mv_X12_isCell lk_RX12_373 rfl (Nat.le_of_ble_eq_true rfl) (by decide) dX12_note_38 rfl rfl rfl (fun z hz => (c_X12_isCell x0 x2 z5.2 z hz).1) (fun z hz => (c_X12_isCell x0 x2 z5.2 z hz).2) (fun z6 _ => ?_)
      show mk_O _ _ _ _ (.int z6.1 :: []) _ _
      refine xo_if_eq (tgt := 63) dX12_note_41 rfl (fun _ => ?_) (fun _ => ?_)
      · refine xo_bipush kb_m2 dX12_note_63 ?_
        exact xo_iret dX12_note_65 rfl
      · refine xo_iload_n rfl rfl dX12_note_44 ?_
        refine xo_i2l dX12_note_45 ?_
        refine xo_lconst kl_0 dX12_note_46 ?_
        refine xo_ldc2 (v := 999) (mk_w8 (i := 12) rfl rfl) dX12_note_47 ?_
        refine mk_O.callS (N := M_X12_in) (As := [.long ((x3).toInt64), .long (0 : Int64), .long (999 : Int64)]) (S := []) md_X12_in ms_X12_in lk_RX12_159 rfl (Nat.le_of_ble_eq_true rfl) (by decide) dX12_note_50 rfl (fun z hz => c_X12_in ((x3).toInt64) (0 : Int64) (999 : Int64) z6.2 z hz) (fun z7 _ => ?_)
        show mk_O _ _ _ _ (.int z7.1 :: []) _ _
        refine xo_if_eq (tgt := 63) dX12_note_53 rfl (fun _ => ?_) (fun _ => ?_)
        · refine xo_bipush kb_m2 dX12_note_63 ?_
          exact xo_iret dX12_note_65 rfl
        · refine xo_iload rfl dX12_note_56 ?_
          refine xo_bipush kb_10 dX12_note_58 ?_
          refine xo_icmp_ne (tgt := 66) dX12_note_60 rfl (fun _ => ?_) (fun _ => ?_)
          · refine xo_bipush kb_m2 dX12_note_63 ?_
            exact xo_iret dX12_note_65 rfl
          · refine xo_aload_n rfl rfl dX12_note_66 ?_
            refine xo_geta dX12_note_67 cl_11 fl_RX12_49 rfl (fun v8 => ?_)
            refine xo_iload rfl dX12_note_70 ?_
            refine xo_iload_n rfl rfl dX12_note_72 ?_
            refine xo_iast dX12_note_73 (fun t9 => ?_)
            refine xo_aload_n rfl rfl dX12_note_74 ?_
            refine xo_geta dX12_note_75 cl_11 fl_RX12_52 rfl (fun v10 => ?_)
            refine xo_iload rfl dX12_note_78 ?_
            refine xo_iload_n rfl rfl dX12_note_80 ?_
            refine xo_iast dX12_note_81 (fun t11 => ?_)
            refine xo_aload_n rfl rfl dX12_note_82 ?_
            refine xo_geta dX12_note_83 cl_11 fl_RX12_55 rfl (fun v12 => ?_)
            refine xo_iload rfl dX12_note_86 ?_
            refine xo_iload_n rfl rfl dX12_note_88 ?_
            refine xo_iast dX12_note_89 (fun t13 => ?_)
            refine xo_aload_n rfl rfl dX12_note_90 ?_
            refine xo_geta dX12_note_91 cl_11 fl_RX12_9 rfl (fun v14 => ?_)
            refine xo_bipush kb_7 dX12_note_94 ?_
            refine xo_dup2 rfl rfl dX12_note_96 ?_
            refine xo_iald dX12_note_97 (fun v15 => ?_)
            refine xo_iconst kc_1 dX12_note_98 ?_
            refine xo_iadd dX12_note_99 ?_
            refine xo_iast dX12_note_100 (fun t16 => ?_)
            refine xo_iload rfl dX12_note_101 ?_
            refine xo_iconst kc_1 dX12_note_103 ?_
            refine xo_iadd dX12_note_104 ?_
            exact xo_iret dX12_note_105 rfl
theorem c_X12_note (x0 : Nat) (x1 : Int32) (x2 : Int32) (x3 : Int32) (t : mk_S) (z : Int32 × mk_S) (h : F_X12_note x0 x1 x2 x3 t = some z) : mk_is t x0 11 ∧ mk_Ct M_X12_note [.ref x0, .int x1, .int x2, .int x3] t (mk_wi z.1, z.2) :=
  ⟨(mk_gd_spec h).1, mk_ct (w := mk_wi) (by decide +kernel) (Nat.le_of_ble_eq_true rfl) (p_X12_note x0 x1 x2 x3 t) z (mk_gd_spec h).2⟩
def B_X12_couldRule_27 (k14 : Nat → Int32 → mk_S → Option (Int32 × mk_S)) : Nat → Nat → Int32 → Int32 → mk_S → Option (Int32 × mk_S)
  | 0, _, _, _, _ => none
  | n + 1, x0, x2, x3, t => if (36 : Int32) ≤ x3 then (k14 x0 (x2 + (1 : Int32)) t) else ((mk_ga t x0 11 58).bind fun v1 => (mk_ga t x0 11 8).bind fun v2 => (mk_ld 100 t v2 x3).bind fun v3 => (mk_st 100 t v1 (((36 : Int32) * x2) + x3) v3).bind fun t4 => B_X12_couldRule_27 k14 n x0 x2 (x3 + (1 : Int32)) t4)
def B_X12_couldRule_68 : Nat → Nat → Int32 → mk_S → Option (Int32 × mk_S)
  | 0, _, _, _ => none
  | n + 1, x0, x2, t => (mk_ga t x0 11 1).bind fun v1 => (mk_ld 100 t v1 (7 : Int32)).bind fun v2 => if v2 ≤ x2 then (mk_rz (1 : Int32) t) else ((mk_ga t x0 11 58).bind fun v3 => (mk_ga t x0 11 14).bind fun v4 => (mk_ld 100 t v4 x2).bind fun v5 => (mk_ga t x0 11 15).bind fun v6 => (mk_ld 100 t v6 x2).bind fun v7 => (mk_ld 100 t v3 (((36 : Int32) * v5) + v7)).bind fun v8 => (mk_ga t x0 11 16).bind fun v9 => (mk_ld 100 t v9 x2).bind fun v10 => if v8 = v10 then (B_X12_couldRule_68 n x0 (x2 + (1 : Int32)) t) else (mk_rz (0 : Int32) t))
def B_X12_couldRule_14 : Nat → Nat → Int32 → mk_S → Option (Int32 × mk_S)
  | 0, _, _, _ => none
  | n + 1, x0, x2, t => if (60 : Int32) < x2 then ((F_X12_laysBack x0 t).bind fun z1 => B_X12_couldRule_68 mk_fu x0 (0 : Int32) z1.2) else ((F_X12_goes x0 t).bind fun z2 => B_X12_couldRule_27 (B_X12_couldRule_14 n) mk_fu x0 x2 (0 : Int32) z2.2)
def F_X12_couldRule (x0 : Nat) (x1 : Int32) (t : mk_S) : Option (Int32 × mk_S) := mk_gd t x0 11 ((mk_ga t x0 11 1).bind fun v1 => (mk_st 100 t v1 (9 : Int32) x1).bind fun t2 => (F_X12_begins x0 t2).bind fun z3 => B_X12_couldRule_14 mk_fu x0 (0 : Int32) z3.2)
theorem o_X12_couldRule_27 (k14 : Nat → Int32 → mk_S → Option (Int32 × mk_S)) (h14 : ∀ (x0 : Nat) (x2 : Int32) (t : mk_S), mk_O mk_wi M_X12_couldRule 14 [some (.ref x0), none, some (.int x2), none] [] t (k14 x0 x2 t)) : ∀ (n : Nat) (x0 : Nat) (x2 : Int32) (x3 : Int32) (t : mk_S), mk_O mk_wi M_X12_couldRule 27 [some (.ref x0), none, some (.int x2), some (.int x3)] [] t (B_X12_couldRule_27 k14 n x0 x2 x3 t) := by
  intro n
  induction n with
  | zero =>
    intro x0 x2 x3 t
    exact mk_O.none
  | succ n ih =>
    intro x0 x2 x3 t
    rw [B_X12_couldRule_27]
    refine xo_iload_n rfl rfl dX12_couldRule_27 ?_
    refine xo_bipush kb_36 dX12_couldRule_28 ?_
    refine xo_icmp_ge (tgt := 56) dX12_couldRule_30 rfl (fun _ => ?_) (fun _ => ?_)
    · refine xo_iinc rfl (congrArg _ kc_1) (by decide) (mk_p1_n rfl) dX12_couldRule_56 ?_
      refine xo_goto (tgt := 14) dX12_couldRule_59 rfl ?_
      exact mk_O.wk (h14 x0 (x2 + (1 : Int32)) t) ⟨rfl, ⟨rfl, trivial⟩⟩
    · refine xo_aload_n rfl rfl dX12_couldRule_33 ?_
      refine xo_geta dX12_couldRule_34 cl_11 fl_RX12_139 rfl (fun v1 => ?_)
      refine xo_bipush kb_36 dX12_couldRule_37 ?_
      refine xo_iload_n rfl rfl dX12_couldRule_39 ?_
      refine xo_imul dX12_couldRule_40 ?_
      refine xo_iload_n rfl rfl dX12_couldRule_41 ?_
      refine xo_iadd dX12_couldRule_42 ?_
      refine xo_aload_n rfl rfl dX12_couldRule_43 ?_
      refine xo_geta dX12_couldRule_44 cl_11 fl_RX12_31 rfl (fun v2 => ?_)
      refine xo_iload_n rfl rfl dX12_couldRule_47 ?_
      refine xo_iald dX12_couldRule_48 (fun v3 => ?_)
      refine xo_iast dX12_couldRule_49 (fun t4 => ?_)
      refine xo_iinc rfl (congrArg _ kc_1) (by decide) (mk_p1_v rfl rfl) dX12_couldRule_50 ?_
      refine xo_goto (tgt := 27) dX12_couldRule_53 rfl ?_
      exact mk_O.wk (ih x0 x2 (x3 + (1 : Int32)) t4) ⟨rfl, ⟨rfl, ⟨rfl, trivial⟩⟩⟩
theorem o_X12_couldRule_68 : ∀ (n : Nat) (x0 : Nat) (x2 : Int32) (t : mk_S), mk_O mk_wi M_X12_couldRule 68 [some (.ref x0), none, some (.int x2), none] [] t (B_X12_couldRule_68 n x0 x2 t) := by
  intro n
  induction n with
  | zero =>
    intro x0 x2 t
    exact mk_O.none
  | succ n ih =>
    intro x0 x2 t
    rw [B_X12_couldRule_68]
    refine xo_iload_n rfl rfl dX12_couldRule_68 ?_
    refine xo_aload_n rfl rfl dX12_couldRule_69 ?_
    refine xo_geta dX12_couldRule_70 cl_11 fl_RX12_9 rfl (fun v1 => ?_)
    refine xo_bipush kb_7 dX12_couldRule_73 ?_
    refine xo_iald dX12_couldRule_75 (fun v2 => ?_)
    refine xo_icmp_ge (tgt := 117) dX12_couldRule_76 rfl (fun _ => ?_) (fun _ => ?_)
    · refine xo_iconst kc_1 dX12_couldRule_117 ?_
      exact xo_zret dX12_couldRule_118 rfl
    · refine xo_aload_n rfl rfl dX12_couldRule_79 ?_
      refine xo_geta dX12_couldRule_80 cl_11 fl_RX12_139 rfl (fun v3 => ?_)
      refine xo_bipush kb_36 dX12_couldRule_83 ?_
      refine xo_aload_n rfl rfl dX12_couldRule_85 ?_
      refine xo_geta dX12_couldRule_86 cl_11 fl_RX12_49 rfl (fun v4 => ?_)
      refine xo_iload_n rfl rfl dX12_couldRule_89 ?_
      refine xo_iald dX12_couldRule_90 (fun v5 => ?_)
      refine xo_imul dX12_couldRule_91 ?_
      refine xo_aload_n rfl rfl dX12_couldRule_92 ?_
      refine xo_geta dX12_couldRule_93 cl_11 fl_RX12_52 rfl (fun v6 => ?_)
      refine xo_iload_n rfl rfl dX12_couldRule_96 ?_
      refine xo_iald dX12_couldRule_97 (fun v7 => ?_)
      refine xo_iadd dX12_couldRule_98 ?_
      refine xo_iald dX12_couldRule_99 (fun v8 => ?_)
      refine xo_aload_n rfl rfl dX12_couldRule_100 ?_
      refine xo_geta dX12_couldRule_101 cl_11 fl_RX12_55 rfl (fun v9 => ?_)
      refine xo_iload_n rfl rfl dX12_couldRule_104 ?_
      refine xo_iald dX12_couldRule_105 (fun v10 => ?_)
      refine xo_icmp_eq (tgt := 111) dX12_couldRule_106 rfl (fun _ => ?_) (fun _ => ?_)
      · refine xo_iinc rfl (congrArg _ kc_1) (by decide) (mk_p1_n rfl) dX12_couldRule_111 ?_
        refine xo_goto (tgt := 68) dX12_couldRule_114 rfl ?_
        exact mk_O.wk (ih x0 (x2 + (1 : Int32)) t) ⟨rfl, ⟨rfl, trivial⟩⟩
      · refine xo_iconst kc_0 dX12_couldRule_109 ?_
        exact xo_zret dX12_couldRule_110 rfl
theorem o_X12_couldRule_14 : ∀ (n : Nat) (x0 : Nat) (x2 : Int32) (t : mk_S), mk_O mk_wi M_X12_couldRule 14 [some (.ref x0), none, some (.int x2), none] [] t (B_X12_couldRule_14 n x0 x2 t) := by
  intro n
  induction n with
  | zero =>
    intro x0 x2 t
    exact mk_O.none
  | succ n ih =>
    intro x0 x2 t
    rw [B_X12_couldRule_14]
    refine xo_iload_n rfl rfl dX12_couldRule_14 ?_
    refine xo_bipush kb_60 dX12_couldRule_15 ?_
    refine xo_icmp_gt (tgt := 62) dX12_couldRule_17 rfl (fun _ => ?_) (fun _ => ?_)
    · refine xo_aload_n rfl rfl dX12_couldRule_62 ?_
      refine mk_O.callV (N := M_X12_laysBack) (ci := 11) (q := (RX12, TX12, 64)) (b := x0) (As1 := []) (S := []) md_X12_laysBack mv_X12_laysBack lk_RX12_449 rfl (Nat.le_of_ble_eq_true rfl) (by decide) dX12_couldRule_63 rfl rfl rfl (fun z hz => (c_X12_laysBack x0 t z hz).1) (fun z hz => (c_X12_laysBack x0 t z hz).2) (fun z1 _ => ?_)
      show mk_O _ _ _ _ [] _ _
      refine xo_iconst kc_0 dX12_couldRule_66 ?_
      refine xo_istore_n rfl (by decide) (mk_p1_n rfl) dX12_couldRule_67 ?_
      exact mk_O.wk (o_X12_couldRule_68 mk_fu x0 (0 : Int32) z1.2) ⟨rfl, ⟨rfl, trivial⟩⟩
    · refine xo_aload_n rfl rfl dX12_couldRule_20 ?_
      refine mk_O.callV (N := M_X12_goes) (ci := 11) (q := (RX12, TX12, 64)) (b := x0) (As1 := []) (S := []) md_X12_goes mv_X12_goes lk_RX12_407 rfl (Nat.le_of_ble_eq_true rfl) (by decide) dX12_couldRule_21 rfl rfl rfl (fun z hz => (c_X12_goes x0 t z hz).1) (fun z hz => (c_X12_goes x0 t z hz).2) (fun z2 _ => ?_)
      show mk_O _ _ _ _ (.int z2.1 :: []) _ _
      refine xo_pop rfl dX12_couldRule_24 ?_
      refine xo_iconst kc_0 dX12_couldRule_25 ?_
      refine xo_istore_n rfl (by decide) (mk_p1_v rfl rfl) dX12_couldRule_26 ?_
      exact mk_O.wk (o_X12_couldRule_27 _ ih mk_fu x0 x2 (0 : Int32) z2.2) ⟨rfl, ⟨rfl, ⟨rfl, trivial⟩⟩⟩
theorem p_X12_couldRule (x0 : Nat) (x1 : Int32) (t : mk_S) : mk_O mk_wi M_X12_couldRule 0 [some (.ref x0), some (.int x1), none, none] [] t ((mk_ga t x0 11 1).bind fun v1 => (mk_st 100 t v1 (9 : Int32) x1).bind fun t2 => (F_X12_begins x0 t2).bind fun z3 => B_X12_couldRule_14 mk_fu x0 (0 : Int32) z3.2) := by
  refine xo_aload_n rfl rfl dX12_couldRule_0 ?_
  refine xo_geta dX12_couldRule_1 cl_11 fl_RX12_9 rfl (fun v1 => ?_)
  refine xo_bipush kb_9 dX12_couldRule_4 ?_
  refine xo_iload_n rfl rfl dX12_couldRule_6 ?_
  refine xo_iast dX12_couldRule_7 (fun t2 => ?_)
  refine xo_aload_n rfl rfl dX12_couldRule_8 ?_
  refine mk_O.callV (N := M_X12_begins) (ci := 11) (q := (RX12, TX12, 64)) (b := x0) (As1 := []) (S := []) md_X12_begins mv_X12_begins lk_RX12_322 rfl (Nat.le_of_ble_eq_true rfl) (by decide) dX12_couldRule_9 rfl rfl rfl (fun z hz => (c_X12_begins x0 t2 z hz).1) (fun z hz => (c_X12_begins x0 t2 z hz).2) (fun z3 _ => ?_)
  show mk_O _ _ _ _ [] _ _
  refine xo_iconst kc_0 dX12_couldRule_12 ?_
  refine xo_istore_n rfl (by decide) (mk_p1_v rfl rfl) dX12_couldRule_13 ?_
  exact mk_O.wk (o_X12_couldRule_14 mk_fu x0 (0 : Int32) z3.2) ⟨rfl, ⟨rfl, trivial⟩⟩
theorem c_X12_couldRule (x0 : Nat) (x1 : Int32) (t : mk_S) (z : Int32 × mk_S) (h : F_X12_couldRule x0 x1 t = some z) : mk_is t x0 11 ∧ mk_Ct M_X12_couldRule [.ref x0, .int x1] t (mk_wi z.1, z.2) :=
  ⟨(mk_gd_spec h).1, mk_ct (w := mk_wi) (by decide +kernel) (Nat.le_of_ble_eq_true rfl) (p_X12_couldRule x0 x1 t) z (mk_gd_spec h).2⟩
def B_X12_ruled_64 (k32 : Nat → Int32 → Int32 → Int32 → Int32 → mk_S → Option (Int32 × mk_S)) (x0 : Nat) (x1 : Int32) (x2 : Int32) (x3 : Int32) (x4 : Int32) (t : mk_S) : Option (Int32 × mk_S) := k32 x0 x1 x2 x3 (x4 + (1 : Int32)) t
def B_X12_ruled_60 (k32 : Nat → Int32 → Int32 → Int32 → Int32 → mk_S → Option (Int32 × mk_S)) (x0 : Nat) (x1 : Int32) (x2 : Int32) (x4 : Int32) (s0 : Int32) (t : mk_S) : Option (Int32 × mk_S) := B_X12_ruled_64 k32 x0 x1 (x2 + (1 : Int32)) s0 x4 t
def B_X12_ruled_32 : Nat → Nat → Int32 → Int32 → Int32 → Int32 → mk_S → Option (Int32 × mk_S)
  | 0, _, _, _, _, _, _ => none
  | n + 1, x0, x1, x2, x3, x4, t => (mk_gi t x0 11 31).bind fun v1 => if v1 ≤ x4 then (if x1 = 0 then (some (x2, t)) else (some (x3, t))) else ((F_X12_couldRule x0 x4 t).bind fun z2 => if z2.1 = 0 then (B_X12_ruled_64 (B_X12_ruled_32 n) x0 x1 x2 x3 x4 z2.2) else (if x2 = 0 then (B_X12_ruled_60 (B_X12_ruled_32 n) x0 x1 x2 x4 x4 z2.2) else (B_X12_ruled_60 (B_X12_ruled_32 n) x0 x1 x2 x4 x3 z2.2)))
def F_X12_ruled (x0 : Nat) (x1 : Int32) (t : mk_S) : Option (Int32 × mk_S) := mk_gd t x0 11 ((F_X12_isPlateau x0 t).bind fun z1 => if z1.1 = 0 then (some ((-3 : Int32), z1.2)) else ((F_X12_in ((x1).toInt64) (0 : Int64) (1 : Int64) z1.2).bind fun z2 => if z2.1 = 0 then (some ((-3 : Int32), z2.2)) else ((F_X12_keepsAll x0 z2.2).bind fun z3 => B_X12_ruled_32 mk_fu x0 x1 (0 : Int32) (-2 : Int32) (-1 : Int32) z3.2)))
theorem o_X12_ruled_64 (k32 : Nat → Int32 → Int32 → Int32 → Int32 → mk_S → Option (Int32 × mk_S)) (h32 : ∀ (x0 : Nat) (x1 : Int32) (x2 : Int32) (x3 : Int32) (x4 : Int32) (t : mk_S), mk_O mk_wi M_X12_ruled 32 [some (.ref x0), some (.int x1), some (.int x2), some (.int x3), some (.int x4)] [] t (k32 x0 x1 x2 x3 x4 t)) (x0 : Nat) (x1 : Int32) (x2 : Int32) (x3 : Int32) (x4 : Int32) (t : mk_S) : mk_O mk_wi M_X12_ruled 64 [some (.ref x0), some (.int x1), some (.int x2), some (.int x3), some (.int x4)] [] t (B_X12_ruled_64 k32 x0 x1 x2 x3 x4 t) := by
  unfold B_X12_ruled_64
  refine xo_iinc rfl (congrArg _ kc_1) (by decide) (mk_p1_v rfl rfl) dX12_ruled_64 ?_
  refine xo_goto (tgt := 32) dX12_ruled_67 rfl ?_
  exact mk_O.wk (h32 x0 x1 x2 x3 (x4 + (1 : Int32)) t) ⟨rfl, ⟨rfl, ⟨rfl, ⟨rfl, ⟨rfl, trivial⟩⟩⟩⟩⟩
theorem o_X12_ruled_60 (k32 : Nat → Int32 → Int32 → Int32 → Int32 → mk_S → Option (Int32 × mk_S)) (h32 : ∀ (x0 : Nat) (x1 : Int32) (x2 : Int32) (x3 : Int32) (x4 : Int32) (t : mk_S), mk_O mk_wi M_X12_ruled 32 [some (.ref x0), some (.int x1), some (.int x2), some (.int x3), some (.int x4)] [] t (k32 x0 x1 x2 x3 x4 t)) (x0 : Nat) (x1 : Int32) (x2 : Int32) (x4 : Int32) (s0 : Int32) (t : mk_S) : mk_O mk_wi M_X12_ruled 60 [some (.ref x0), some (.int x1), some (.int x2), none, some (.int x4)] [.int s0] t (B_X12_ruled_60 k32 x0 x1 x2 x4 s0 t) := by
  unfold B_X12_ruled_60
  refine xo_istore_n rfl (by decide) (mk_p1_v rfl rfl) dX12_ruled_60 ?_
  refine xo_iinc rfl (congrArg _ kc_1) (by decide) (mk_p1_v rfl rfl) dX12_ruled_61 ?_
  exact mk_O.wk (o_X12_ruled_64 _ h32 x0 x1 (x2 + (1 : Int32)) s0 x4 t) ⟨rfl, ⟨rfl, ⟨rfl, ⟨rfl, ⟨rfl, trivial⟩⟩⟩⟩⟩
theorem o_X12_ruled_32 : ∀ (n : Nat) (x0 : Nat) (x1 : Int32) (x2 : Int32) (x3 : Int32) (x4 : Int32) (t : mk_S), mk_O mk_wi M_X12_ruled 32 [some (.ref x0), some (.int x1), some (.int x2), some (.int x3), some (.int x4)] [] t (B_X12_ruled_32 n x0 x1 x2 x3 x4 t) := by
  intro n
  induction n with
  | zero =>
    intro x0 x1 x2 x3 x4 t
    exact mk_O.none
  | succ n ih =>
    intro x0 x1 x2 x3 x4 t
    rw [B_X12_ruled_32]
    refine xo_iload rfl dX12_ruled_32 ?_
    refine xo_aload_n rfl rfl dX12_ruled_34 ?_
    refine xo_geti dX12_ruled_35 cl_11 fl_RX12_338 rfl (fun v1 => ?_)
    refine xo_icmp_ge (tgt := 70) dX12_ruled_38 rfl (fun _ => ?_) (fun _ => ?_)
    · refine xo_iload_n rfl rfl dX12_ruled_70 ?_
      refine xo_if_ne (tgt := 78) dX12_ruled_71 rfl (fun _ => ?_) (fun _ => ?_)
      · refine xo_iload_n rfl rfl dX12_ruled_74 ?_
        refine xo_goto (tgt := 79) dX12_ruled_75 rfl ?_
        exact xo_iret dX12_ruled_79 rfl
      · refine xo_iload_n rfl rfl dX12_ruled_78 ?_
        exact xo_iret dX12_ruled_79 rfl
    · refine xo_aload_n rfl rfl dX12_ruled_41 ?_
      refine xo_iload rfl dX12_ruled_42 ?_
      refine mk_O.callV (N := M_X12_couldRule) (ci := 11) (q := (RX12, TX12, 64)) (b := x0) (As1 := [.int x4]) (S := []) md_X12_couldRule mv_X12_couldRule lk_RX12_493 rfl (Nat.le_of_ble_eq_true rfl) (by decide) dX12_ruled_44 rfl rfl rfl (fun z hz => (c_X12_couldRule x0 x4 t z hz).1) (fun z hz => (c_X12_couldRule x0 x4 t z hz).2) (fun z2 _ => ?_)
      show mk_O _ _ _ _ (.int z2.1 :: []) _ _
      refine xo_if_eq (tgt := 64) dX12_ruled_47 rfl (fun _ => ?_) (fun _ => ?_)
      · exact mk_O.wk (o_X12_ruled_64 _ ih x0 x1 x2 x3 x4 z2.2) ⟨rfl, ⟨rfl, ⟨rfl, ⟨rfl, ⟨rfl, trivial⟩⟩⟩⟩⟩
      · refine xo_iload_n rfl rfl dX12_ruled_50 ?_
        refine xo_if_ne (tgt := 59) dX12_ruled_51 rfl (fun _ => ?_) (fun _ => ?_)
        · refine xo_iload rfl dX12_ruled_54 ?_
          refine xo_goto (tgt := 60) dX12_ruled_56 rfl ?_
          exact mk_O.wk (o_X12_ruled_60 _ ih x0 x1 x2 x4 x4 z2.2) ⟨rfl, ⟨rfl, ⟨rfl, ⟨rfl, trivial⟩⟩⟩⟩
        · refine xo_iload_n rfl rfl dX12_ruled_59 ?_
          exact mk_O.wk (o_X12_ruled_60 _ ih x0 x1 x2 x4 x3 z2.2) ⟨rfl, ⟨rfl, ⟨rfl, ⟨rfl, trivial⟩⟩⟩⟩
theorem p_X12_ruled (x0 : Nat) (x1 : Int32) (t : mk_S) : mk_O mk_wi M_X12_ruled 0 [some (.ref x0), some (.int x1), none, none, none] [] t ((F_X12_isPlateau x0 t).bind fun z1 => if z1.1 = 0 then (some ((-3 : Int32), z1.2)) else ((F_X12_in ((x1).toInt64) (0 : Int64) (1 : Int64) z1.2).bind fun z2 => if z2.1 = 0 then (some ((-3 : Int32), z2.2)) else ((F_X12_keepsAll x0 z2.2).bind fun z3 => B_X12_ruled_32 mk_fu x0 x1 (0 : Int32) (-2 : Int32) (-1 : Int32) z3.2))) := by
  refine xo_aload_n rfl rfl dX12_ruled_0 ?_
  refine mk_O.callV (N := M_X12_isPlateau) (ci := 11) (q := (RX12, TX12, 64)) (b := x0) (As1 := []) (S := []) md_X12_isPlateau mv_X12_isPlateau lk_RX12_428 rfl (Nat.le_of_ble_eq_true rfl) (by decide) dX12_ruled_1 rfl rfl rfl (fun z hz => (c_X12_isPlateau x0 t z hz).1) (fun z hz => (c_X12_isPlateau x0 t z hz).2) (fun z1 _ => ?_)
  show mk_O _ _ _ _ (.int z1.1 :: []) _ _
  refine xo_if_eq (tgt := 17) dX12_ruled_4 rfl (fun _ => ?_) (fun _ => ?_)
  · refine xo_bipush kb_m3 dX12_ruled_17 ?_
    exact xo_iret dX12_ruled_19 rfl
  · refine xo_iload_n rfl rfl dX12_ruled_7 ?_
    refine xo_i2l dX12_ruled_8 ?_
    refine xo_lconst kl_0 dX12_ruled_9 ?_
    refine xo_lconst kl_1 dX12_ruled_10 ?_
    refine mk_O.callS (N := M_X12_in) (As := [.long ((x1).toInt64), .long (0 : Int64), .long (1 : Int64)]) (S := []) md_X12_in ms_X12_in lk_RX12_159 rfl (Nat.le_of_ble_eq_true rfl) (by decide) dX12_ruled_11 rfl (fun z hz => c_X12_in ((x1).toInt64) (0 : Int64) (1 : Int64) z1.2 z hz) (fun z2 _ => ?_)
    show mk_O _ _ _ _ (.int z2.1 :: []) _ _
    refine xo_if_ne (tgt := 20) dX12_ruled_14 rfl (fun _ => ?_) (fun _ => ?_)
    · refine xo_bipush kb_m3 dX12_ruled_17 ?_
      exact xo_iret dX12_ruled_19 rfl
    · refine xo_aload_n rfl rfl dX12_ruled_20 ?_
      refine mk_O.callV (N := M_X12_keepsAll) (ci := 11) (q := (RX12, TX12, 64)) (b := x0) (As1 := []) (S := []) md_X12_keepsAll mv_X12_keepsAll lk_RX12_443 rfl (Nat.le_of_ble_eq_true rfl) (by decide) dX12_ruled_21 rfl rfl rfl (fun z hz => (c_X12_keepsAll x0 z2.2 z hz).1) (fun z hz => (c_X12_keepsAll x0 z2.2 z hz).2) (fun z3 _ => ?_)
      show mk_O _ _ _ _ [] _ _
      refine xo_iconst kc_0 dX12_ruled_24 ?_
      refine xo_istore_n rfl (by decide) (mk_p1_v rfl rfl) dX12_ruled_25 ?_
      refine xo_bipush kb_m2 dX12_ruled_26 ?_
      refine xo_istore_n rfl (by decide) (mk_p1_v rfl rfl) dX12_ruled_28 ?_
      refine xo_iconst kc_m1 dX12_ruled_29 ?_
      refine xo_istore (by decide) (mk_p1_v rfl rfl) dX12_ruled_30 ?_
      exact mk_O.wk (o_X12_ruled_32 mk_fu x0 x1 (0 : Int32) (-2 : Int32) (-1 : Int32) z3.2) ⟨rfl, ⟨rfl, ⟨rfl, ⟨rfl, ⟨rfl, trivial⟩⟩⟩⟩⟩
theorem c_X12_ruled (x0 : Nat) (x1 : Int32) (t : mk_S) (z : Int32 × mk_S) (h : F_X12_ruled x0 x1 t = some z) : mk_is t x0 11 ∧ mk_Ct M_X12_ruled [.ref x0, .int x1] t (mk_wi z.1, z.2) :=
  ⟨(mk_gd_spec h).1, mk_ct (w := mk_wi) (by decide +kernel) (Nat.le_of_ble_eq_true rfl) (p_X12_ruled x0 x1 t) z (mk_gd_spec h).2⟩
def B_X12_mostAlike_57 (k5 : Nat → Int32 → Int32 → Int32 → Int32 → mk_S → Option (Int32 × mk_S)) (k17 : Nat → Int32 → Int32 → Int32 → Int32 → Int32 → Int32 → mk_S → Option (Int32 × mk_S)) (x0 : Nat) (x1 : Int32) (x2 : Int32) (x3 : Int32) (x4 : Int32) (x6 : Int32) (s0 : Int32) (s1 : Int32) (t : mk_S) : Option (Int32 × mk_S) := k17 x0 x1 x2 x3 x4 (s0 + s1) (x6 + (1 : Int32)) t
def B_X12_mostAlike_78 (k5 : Nat → Int32 → Int32 → Int32 → Int32 → mk_S → Option (Int32 × mk_S)) (x0 : Nat) (x1 : Int32) (x2 : Int32) (x4 : Int32) (s0 : Int32) (t : mk_S) : Option (Int32 × mk_S) := k5 x0 x1 x2 s0 (x4 + (1 : Int32)) t
def B_X12_mostAlike_17 (k5 : Nat → Int32 → Int32 → Int32 → Int32 → mk_S → Option (Int32 × mk_S)) : Nat → Nat → Int32 → Int32 → Int32 → Int32 → Int32 → Int32 → mk_S → Option (Int32 × mk_S)
  | 0, _, _, _, _, _, _, _, _ => none
  | n + 1, x0, x1, x2, x3, x4, x5, x6, t => if x2 ≤ x6 then (if x5 ≤ x3 then (B_X12_mostAlike_78 k5 x0 x1 x2 x4 x3 t) else (B_X12_mostAlike_78 k5 x0 x1 x2 x4 x5 t)) else ((mk_ga t x0 11 59).bind fun v1 => (mk_ld 100 t v1 (((36 : Int32) * x6) + x1)).bind fun v2 => (mk_ga t x0 11 59).bind fun v3 => (mk_ld 100 t v3 (((36 : Int32) * x4) + x1)).bind fun v4 => if v2 = v4 then (B_X12_mostAlike_57 k5 (B_X12_mostAlike_17 k5 n) x0 x1 x2 x3 x4 x6 x5 (1 : Int32) t) else (B_X12_mostAlike_57 k5 (B_X12_mostAlike_17 k5 n) x0 x1 x2 x3 x4 x6 x5 (0 : Int32) t))
def B_X12_mostAlike_5 : Nat → Nat → Int32 → Int32 → Int32 → Int32 → mk_S → Option (Int32 × mk_S)
  | 0, _, _, _, _, _, _ => none
  | n + 1, x0, x1, x2, x3, x4, t => if x2 ≤ x4 then (some (x3, t)) else (B_X12_mostAlike_17 (B_X12_mostAlike_5 n) mk_fu x0 x1 x2 x3 x4 (0 : Int32) (0 : Int32) t)
def F_X12_mostAlike (x0 : Nat) (x1 : Int32) (x2 : Int32) (t : mk_S) : Option (Int32 × mk_S) := mk_gd t x0 11 (B_X12_mostAlike_5 mk_fu x0 x1 x2 (0 : Int32) (0 : Int32) t)
theorem o_X12_mostAlike_57 (k5 : Nat → Int32 → Int32 → Int32 → Int32 → mk_S → Option (Int32 × mk_S)) (k17 : Nat → Int32 → Int32 → Int32 → Int32 → Int32 → Int32 → mk_S → Option (Int32 × mk_S)) (h5 : ∀ (x0 : Nat) (x1 : Int32) (x2 : Int32) (x3 : Int32) (x4 : Int32) (t : mk_S), mk_O mk_wi M_X12_mostAlike 5 [some (.ref x0), some (.int x1), some (.int x2), some (.int x3), some (.int x4), none, none] [] t (k5 x0 x1 x2 x3 x4 t)) (h17 : ∀ (x0 : Nat) (x1 : Int32) (x2 : Int32) (x3 : Int32) (x4 : Int32) (x5 : Int32) (x6 : Int32) (t : mk_S), mk_O mk_wi M_X12_mostAlike 17 [some (.ref x0), some (.int x1), some (.int x2), some (.int x3), some (.int x4), some (.int x5), some (.int x6)] [] t (k17 x0 x1 x2 x3 x4 x5 x6 t)) (x0 : Nat) (x1 : Int32) (x2 : Int32) (x3 : Int32) (x4 : Int32) (x6 : Int32) (s0 : Int32) (s1 : Int32) (t : mk_S) : mk_O mk_wi M_X12_mostAlike 57 [some (.ref x0), some (.int x1), some (.int x2), some (.int x3), some (.int x4), none, some (.int x6)] [.int s1, .int s0] t (B_X12_mostAlike_57 k5 k17 x0 x1 x2 x3 x4 x6 s0 s1 t) := by
  unfold B_X12_mostAlike_57
  refine xo_iadd dX12_mostAlike_57 ?_
  refine xo_istore (by decide) (mk_p1_v rfl rfl) dX12_mostAlike_58 ?_
  refine xo_iinc rfl (congrArg _ kc_1) (by decide) (mk_p1_v rfl rfl) dX12_mostAlike_60 ?_
  refine xo_goto (tgt := 17) dX12_mostAlike_63 rfl ?_
  exact mk_O.wk (h17 x0 x1 x2 x3 x4 (s0 + s1) (x6 + (1 : Int32)) t) ⟨rfl, ⟨rfl, ⟨rfl, ⟨rfl, ⟨rfl, ⟨rfl, ⟨rfl, trivial⟩⟩⟩⟩⟩⟩⟩
theorem o_X12_mostAlike_78 (k5 : Nat → Int32 → Int32 → Int32 → Int32 → mk_S → Option (Int32 × mk_S)) (h5 : ∀ (x0 : Nat) (x1 : Int32) (x2 : Int32) (x3 : Int32) (x4 : Int32) (t : mk_S), mk_O mk_wi M_X12_mostAlike 5 [some (.ref x0), some (.int x1), some (.int x2), some (.int x3), some (.int x4), none, none] [] t (k5 x0 x1 x2 x3 x4 t)) (x0 : Nat) (x1 : Int32) (x2 : Int32) (x4 : Int32) (s0 : Int32) (t : mk_S) : mk_O mk_wi M_X12_mostAlike 78 [some (.ref x0), some (.int x1), some (.int x2), none, some (.int x4), none, none] [.int s0] t (B_X12_mostAlike_78 k5 x0 x1 x2 x4 s0 t) := by
  unfold B_X12_mostAlike_78
  refine xo_istore_n rfl (by decide) (mk_p1_v rfl rfl) dX12_mostAlike_78 ?_
  refine xo_iinc rfl (congrArg _ kc_1) (by decide) (mk_p1_v rfl rfl) dX12_mostAlike_79 ?_
  refine xo_goto (tgt := 5) dX12_mostAlike_82 rfl ?_
  exact mk_O.wk (h5 x0 x1 x2 s0 (x4 + (1 : Int32)) t) ⟨rfl, ⟨rfl, ⟨rfl, ⟨rfl, ⟨rfl, trivial⟩⟩⟩⟩⟩
theorem o_X12_mostAlike_17 (k5 : Nat → Int32 → Int32 → Int32 → Int32 → mk_S → Option (Int32 × mk_S)) (h5 : ∀ (x0 : Nat) (x1 : Int32) (x2 : Int32) (x3 : Int32) (x4 : Int32) (t : mk_S), mk_O mk_wi M_X12_mostAlike 5 [some (.ref x0), some (.int x1), some (.int x2), some (.int x3), some (.int x4), none, none] [] t (k5 x0 x1 x2 x3 x4 t)) : ∀ (n : Nat) (x0 : Nat) (x1 : Int32) (x2 : Int32) (x3 : Int32) (x4 : Int32) (x5 : Int32) (x6 : Int32) (t : mk_S), mk_O mk_wi M_X12_mostAlike 17 [some (.ref x0), some (.int x1), some (.int x2), some (.int x3), some (.int x4), some (.int x5), some (.int x6)] [] t (B_X12_mostAlike_17 k5 n x0 x1 x2 x3 x4 x5 x6 t) := by
  intro n
  induction n with
  | zero =>
    intro x0 x1 x2 x3 x4 x5 x6 t
    exact mk_O.none
  | succ n ih =>
    intro x0 x1 x2 x3 x4 x5 x6 t
    rw [B_X12_mostAlike_17]
    refine xo_iload rfl dX12_mostAlike_17 ?_
    refine xo_iload_n rfl rfl dX12_mostAlike_19 ?_
    refine xo_icmp_ge (tgt := 66) dX12_mostAlike_20 rfl (fun _ => ?_) (fun _ => ?_)
    · refine xo_iload rfl dX12_mostAlike_66 ?_
      refine xo_iload_n rfl rfl dX12_mostAlike_68 ?_
      refine xo_icmp_le (tgt := 77) dX12_mostAlike_69 rfl (fun _ => ?_) (fun _ => ?_)
      · refine xo_iload_n rfl rfl dX12_mostAlike_77 ?_
        exact mk_O.wk (o_X12_mostAlike_78 _ h5 x0 x1 x2 x4 x3 t) ⟨rfl, ⟨rfl, ⟨rfl, ⟨rfl, trivial⟩⟩⟩⟩
      · refine xo_iload rfl dX12_mostAlike_72 ?_
        refine xo_goto (tgt := 78) dX12_mostAlike_74 rfl ?_
        exact mk_O.wk (o_X12_mostAlike_78 _ h5 x0 x1 x2 x4 x5 t) ⟨rfl, ⟨rfl, ⟨rfl, ⟨rfl, trivial⟩⟩⟩⟩
    · refine xo_iload rfl dX12_mostAlike_23 ?_
      refine xo_aload_n rfl rfl dX12_mostAlike_25 ?_
      refine xo_geta dX12_mostAlike_26 cl_11 fl_RX12_142 rfl (fun v1 => ?_)
      refine xo_bipush kb_36 dX12_mostAlike_29 ?_
      refine xo_iload rfl dX12_mostAlike_31 ?_
      refine xo_imul dX12_mostAlike_33 ?_
      refine xo_iload_n rfl rfl dX12_mostAlike_34 ?_
      refine xo_iadd dX12_mostAlike_35 ?_
      refine xo_iald dX12_mostAlike_36 (fun v2 => ?_)
      refine xo_aload_n rfl rfl dX12_mostAlike_37 ?_
      refine xo_geta dX12_mostAlike_38 cl_11 fl_RX12_142 rfl (fun v3 => ?_)
      refine xo_bipush kb_36 dX12_mostAlike_41 ?_
      refine xo_iload rfl dX12_mostAlike_43 ?_
      refine xo_imul dX12_mostAlike_45 ?_
      refine xo_iload_n rfl rfl dX12_mostAlike_46 ?_
      refine xo_iadd dX12_mostAlike_47 ?_
      refine xo_iald dX12_mostAlike_48 (fun v4 => ?_)
      refine xo_icmp_ne (tgt := 56) dX12_mostAlike_49 rfl (fun _ => ?_) (fun _ => ?_)
      · refine xo_iconst kc_1 dX12_mostAlike_52 ?_
        refine xo_goto (tgt := 57) dX12_mostAlike_53 rfl ?_
        exact mk_O.wk (o_X12_mostAlike_57 _ _ h5 ih x0 x1 x2 x3 x4 x6 x5 (1 : Int32) t) ⟨rfl, ⟨rfl, ⟨rfl, ⟨rfl, ⟨rfl, ⟨rfl, trivial⟩⟩⟩⟩⟩⟩
      · refine xo_iconst kc_0 dX12_mostAlike_56 ?_
        exact mk_O.wk (o_X12_mostAlike_57 _ _ h5 ih x0 x1 x2 x3 x4 x6 x5 (0 : Int32) t) ⟨rfl, ⟨rfl, ⟨rfl, ⟨rfl, ⟨rfl, ⟨rfl, trivial⟩⟩⟩⟩⟩⟩
theorem o_X12_mostAlike_5 : ∀ (n : Nat) (x0 : Nat) (x1 : Int32) (x2 : Int32) (x3 : Int32) (x4 : Int32) (t : mk_S), mk_O mk_wi M_X12_mostAlike 5 [some (.ref x0), some (.int x1), some (.int x2), some (.int x3), some (.int x4), none, none] [] t (B_X12_mostAlike_5 n x0 x1 x2 x3 x4 t) := by
  intro n
  induction n with
  | zero =>
    intro x0 x1 x2 x3 x4 t
    exact mk_O.none
  | succ n ih =>
    intro x0 x1 x2 x3 x4 t
    rw [B_X12_mostAlike_5]
    refine xo_iload rfl dX12_mostAlike_5 ?_
    refine xo_iload_n rfl rfl dX12_mostAlike_7 ?_
    refine xo_icmp_ge (tgt := 85) dX12_mostAlike_8 rfl (fun _ => ?_) (fun _ => ?_)
    · refine xo_iload_n rfl rfl dX12_mostAlike_85 ?_
      exact xo_iret dX12_mostAlike_86 rfl
    · refine xo_iconst kc_0 dX12_mostAlike_11 ?_
      refine xo_istore (by decide) (mk_p1_v rfl rfl) dX12_mostAlike_12 ?_
      refine xo_iconst kc_0 dX12_mostAlike_14 ?_
      refine xo_istore (by decide) (mk_p1_v rfl rfl) dX12_mostAlike_15 ?_
      exact mk_O.wk (o_X12_mostAlike_17 _ ih mk_fu x0 x1 x2 x3 x4 (0 : Int32) (0 : Int32) t) ⟨rfl, ⟨rfl, ⟨rfl, ⟨rfl, ⟨rfl, ⟨rfl, ⟨rfl, trivial⟩⟩⟩⟩⟩⟩⟩
theorem p_X12_mostAlike (x0 : Nat) (x1 : Int32) (x2 : Int32) (t : mk_S) : mk_O mk_wi M_X12_mostAlike 0 [some (.ref x0), some (.int x1), some (.int x2), none, none, none, none] [] t (B_X12_mostAlike_5 mk_fu x0 x1 x2 (0 : Int32) (0 : Int32) t) := by
  refine xo_iconst kc_0 dX12_mostAlike_0 ?_
  refine xo_istore_n rfl (by decide) (mk_p1_v rfl rfl) dX12_mostAlike_1 ?_
  refine xo_iconst kc_0 dX12_mostAlike_2 ?_
  refine xo_istore (by decide) (mk_p1_v rfl rfl) dX12_mostAlike_3 ?_
  exact mk_O.wk (o_X12_mostAlike_5 mk_fu x0 x1 x2 (0 : Int32) (0 : Int32) t) ⟨rfl, ⟨rfl, ⟨rfl, ⟨rfl, ⟨rfl, trivial⟩⟩⟩⟩⟩
theorem c_X12_mostAlike (x0 : Nat) (x1 : Int32) (x2 : Int32) (t : mk_S) (z : Int32 × mk_S) (h : F_X12_mostAlike x0 x1 x2 t = some z) : mk_is t x0 11 ∧ mk_Ct M_X12_mostAlike [.ref x0, .int x1, .int x2] t (mk_wi z.1, z.2) :=
  ⟨(mk_gd_spec h).1, mk_ct (w := mk_wi) (by decide +kernel) (Nat.le_of_ble_eq_true rfl) (p_X12_mostAlike x0 x1 x2 t) z (mk_gd_spec h).2⟩
def B_X12_look_101 (k40 : Nat → Int32 → Int32 → Int32 → Int32 → mk_S → Option (Int32 × mk_S)) (x0 : Nat) (x1 : Int32) (x2 : Int32) (x3 : Int32) (x4 : Int32) (t : mk_S) : Option (Int32 × mk_S) := k40 x0 x1 x2 x3 (x4 + (1 : Int32)) t
def B_X12_look_61 (k40 : Nat → Int32 → Int32 → Int32 → Int32 → mk_S → Option (Int32 × mk_S)) : Nat → Nat → Int32 → Int32 → Int32 → Int32 → Int32 → mk_S → Option (Int32 × mk_S)
  | 0, _, _, _, _, _, _, _ => none
  | n + 1, x0, x1, x2, x3, x4, x5, t => if (36 : Int32) ≤ x5 then (B_X12_look_101 k40 x0 x1 x2 (x3 + (1 : Int32)) x4 t) else ((mk_ga t x0 11 59).bind fun v1 => (mk_ga t x0 11 58).bind fun v2 => (mk_ld 100 t v2 (((36 : Int32) * x1) + x5)).bind fun v3 => (mk_st 100 t v1 (((36 : Int32) * x3) + x5) v3).bind fun t4 => B_X12_look_61 k40 n x0 x1 x2 x3 x4 (x5 + (1 : Int32)) t4)
def B_X12_look_153 (k120 : Nat → Int32 → Int32 → Int32 → Int32 → mk_S → Option (Int32 × mk_S)) (x0 : Nat) (x2 : Int32) (x3 : Int32) (x5 : Int32) (s0 : Int32) (t : mk_S) : Option (Int32 × mk_S) := k120 x0 x2 x3 s0 (x5 + (1 : Int32)) t
def B_X12_look_120 : Nat → Nat → Int32 → Int32 → Int32 → Int32 → mk_S → Option (Int32 × mk_S)
  | 0, _, _, _, _, _, _ => none
  | n + 1, x0, x2, x3, x4, x5, t => (F_X12_cells x0 t).bind fun z1 => if z1.1 ≤ x5 then (if x2 = 0 then (some (x4, z1.2)) else ((F_X12_mostAlike x0 x4 x3 z1.2).bind fun z2 => some (z2.1, z2.2))) else ((F_X12_mostAlike x0 x5 x3 z1.2).bind fun z3 => (F_X12_mostAlike x0 x4 x3 z3.2).bind fun z4 => if z4.1 ≤ z3.1 then (B_X12_look_153 (B_X12_look_120 n) x0 x2 x3 x5 x4 z4.2) else (B_X12_look_153 (B_X12_look_120 n) x0 x2 x3 x5 x5 z4.2))
def B_X12_look_40 : Nat → Nat → Int32 → Int32 → Int32 → Int32 → mk_S → Option (Int32 × mk_S)
  | 0, _, _, _, _, _, _ => none
  | n + 1, x0, x1, x2, x3, x4, t => (mk_gi t x0 11 31).bind fun v1 => if v1 ≤ x4 then (if x3 = 0 then (some ((-2 : Int32), t)) else (B_X12_look_120 mk_fu x0 x2 x3 (0 : Int32) (1 : Int32) t)) else ((F_X12_couldRule x0 x4 t).bind fun z2 => if z2.1 = 0 then (B_X12_look_101 (B_X12_look_40 n) x0 x1 x2 x3 x4 z2.2) else (B_X12_look_61 (B_X12_look_40 n) mk_fu x0 x1 x2 x3 x4 (0 : Int32) z2.2))
def F_X12_look (x0 : Nat) (x1 : Int32) (x2 : Int32) (t : mk_S) : Option (Int32 × mk_S) := mk_gd t x0 11 ((F_X12_isPlateau x0 t).bind fun z1 => if z1.1 = 0 then (some ((-1 : Int32), z1.2)) else ((F_X12_in ((x1).toInt64) (0 : Int64) (60 : Int64) z1.2).bind fun z2 => if z2.1 = 0 then (some ((-1 : Int32), z2.2)) else ((F_X12_in ((x2).toInt64) (0 : Int64) (1 : Int64) z2.2).bind fun z3 => if z3.1 = 0 then (some ((-1 : Int32), z3.2)) else ((F_X12_keepsAll x0 z3.2).bind fun z4 => B_X12_look_40 mk_fu x0 x1 x2 (0 : Int32) (-1 : Int32) z4.2))))
theorem o_X12_look_101 (k40 : Nat → Int32 → Int32 → Int32 → Int32 → mk_S → Option (Int32 × mk_S)) (h40 : ∀ (x0 : Nat) (x1 : Int32) (x2 : Int32) (x3 : Int32) (x4 : Int32) (t : mk_S), mk_O mk_wi M_X12_look 40 [some (.ref x0), some (.int x1), some (.int x2), some (.int x3), some (.int x4), none] [] t (k40 x0 x1 x2 x3 x4 t)) (x0 : Nat) (x1 : Int32) (x2 : Int32) (x3 : Int32) (x4 : Int32) (t : mk_S) : mk_O mk_wi M_X12_look 101 [some (.ref x0), some (.int x1), some (.int x2), some (.int x3), some (.int x4), none] [] t (B_X12_look_101 k40 x0 x1 x2 x3 x4 t) := by
  unfold B_X12_look_101
  refine xo_iinc rfl (congrArg _ kc_1) (by decide) (mk_p1_v rfl rfl) dX12_look_101 ?_
  refine xo_goto (tgt := 40) dX12_look_104 rfl ?_
  exact mk_O.wk (h40 x0 x1 x2 x3 (x4 + (1 : Int32)) t) ⟨rfl, ⟨rfl, ⟨rfl, ⟨rfl, ⟨rfl, trivial⟩⟩⟩⟩⟩
theorem o_X12_look_61 (k40 : Nat → Int32 → Int32 → Int32 → Int32 → mk_S → Option (Int32 × mk_S)) (h40 : ∀ (x0 : Nat) (x1 : Int32) (x2 : Int32) (x3 : Int32) (x4 : Int32) (t : mk_S), mk_O mk_wi M_X12_look 40 [some (.ref x0), some (.int x1), some (.int x2), some (.int x3), some (.int x4), none] [] t (k40 x0 x1 x2 x3 x4 t)) : ∀ (n : Nat) (x0 : Nat) (x1 : Int32) (x2 : Int32) (x3 : Int32) (x4 : Int32) (x5 : Int32) (t : mk_S), mk_O mk_wi M_X12_look 61 [some (.ref x0), some (.int x1), some (.int x2), some (.int x3), some (.int x4), some (.int x5)] [] t (B_X12_look_61 k40 n x0 x1 x2 x3 x4 x5 t) := by
  intro n
  induction n with
  | zero =>
    intro x0 x1 x2 x3 x4 x5 t
    exact mk_O.none
  | succ n ih =>
    intro x0 x1 x2 x3 x4 x5 t
    rw [B_X12_look_61]
    refine xo_iload rfl dX12_look_61 ?_
    refine xo_bipush kb_36 dX12_look_63 ?_
    refine xo_icmp_ge (tgt := 98) dX12_look_65 rfl (fun _ => ?_) (fun _ => ?_)
    · refine xo_iinc rfl (congrArg _ kc_1) (by decide) (mk_p1_v rfl rfl) dX12_look_98 ?_
      exact mk_O.wk (o_X12_look_101 _ h40 x0 x1 x2 (x3 + (1 : Int32)) x4 t) ⟨rfl, ⟨rfl, ⟨rfl, ⟨rfl, ⟨rfl, trivial⟩⟩⟩⟩⟩
    · refine xo_aload_n rfl rfl dX12_look_68 ?_
      refine xo_geta dX12_look_69 cl_11 fl_RX12_142 rfl (fun v1 => ?_)
      refine xo_bipush kb_36 dX12_look_72 ?_
      refine xo_iload_n rfl rfl dX12_look_74 ?_
      refine xo_imul dX12_look_75 ?_
      refine xo_iload rfl dX12_look_76 ?_
      refine xo_iadd dX12_look_78 ?_
      refine xo_aload_n rfl rfl dX12_look_79 ?_
      refine xo_geta dX12_look_80 cl_11 fl_RX12_139 rfl (fun v2 => ?_)
      refine xo_bipush kb_36 dX12_look_83 ?_
      refine xo_iload_n rfl rfl dX12_look_85 ?_
      refine xo_imul dX12_look_86 ?_
      refine xo_iload rfl dX12_look_87 ?_
      refine xo_iadd dX12_look_89 ?_
      refine xo_iald dX12_look_90 (fun v3 => ?_)
      refine xo_iast dX12_look_91 (fun t4 => ?_)
      refine xo_iinc rfl (congrArg _ kc_1) (by decide) (mk_p1_v rfl rfl) dX12_look_92 ?_
      refine xo_goto (tgt := 61) dX12_look_95 rfl ?_
      exact mk_O.wk (ih x0 x1 x2 x3 x4 (x5 + (1 : Int32)) t4) ⟨rfl, ⟨rfl, ⟨rfl, ⟨rfl, ⟨rfl, ⟨rfl, trivial⟩⟩⟩⟩⟩⟩
theorem o_X12_look_153 (k120 : Nat → Int32 → Int32 → Int32 → Int32 → mk_S → Option (Int32 × mk_S)) (h120 : ∀ (x0 : Nat) (x2 : Int32) (x3 : Int32) (x4 : Int32) (x5 : Int32) (t : mk_S), mk_O mk_wi M_X12_look 120 [some (.ref x0), none, some (.int x2), some (.int x3), some (.int x4), some (.int x5)] [] t (k120 x0 x2 x3 x4 x5 t)) (x0 : Nat) (x2 : Int32) (x3 : Int32) (x5 : Int32) (s0 : Int32) (t : mk_S) : mk_O mk_wi M_X12_look 153 [some (.ref x0), none, some (.int x2), some (.int x3), none, some (.int x5)] [.int s0] t (B_X12_look_153 k120 x0 x2 x3 x5 s0 t) := by
  unfold B_X12_look_153
  refine xo_istore (by decide) (mk_p1_v rfl rfl) dX12_look_153 ?_
  refine xo_iinc rfl (congrArg _ kc_1) (by decide) (mk_p1_v rfl rfl) dX12_look_155 ?_
  refine xo_goto (tgt := 120) dX12_look_158 rfl ?_
  exact mk_O.wk (h120 x0 x2 x3 s0 (x5 + (1 : Int32)) t) ⟨rfl, ⟨rfl, ⟨rfl, ⟨rfl, ⟨rfl, trivial⟩⟩⟩⟩⟩
theorem o_X12_look_120 : ∀ (n : Nat) (x0 : Nat) (x2 : Int32) (x3 : Int32) (x4 : Int32) (x5 : Int32) (t : mk_S), mk_O mk_wi M_X12_look 120 [some (.ref x0), none, some (.int x2), some (.int x3), some (.int x4), some (.int x5)] [] t (B_X12_look_120 n x0 x2 x3 x4 x5 t) := by
  intro n
  induction n with
  | zero =>
    intro x0 x2 x3 x4 x5 t
    exact mk_O.none
  | succ n ih =>
    intro x0 x2 x3 x4 x5 t
    rw [B_X12_look_120]
    refine xo_iload rfl dX12_look_120 ?_
    refine xo_aload_n rfl rfl dX12_look_122 ?_
    refine mk_O.callV (N := M_X12_cells) (ci := 11) (q := (RX12, TX12, 64)) (b := x0) (As1 := []) (S := [.int x5]) md_X12_cells mv_X12_cells lk_RX12_155 rfl (Nat.le_of_ble_eq_true rfl) (by decide) dX12_look_123 rfl rfl rfl (fun z hz => (c_X12_cells x0 t z hz).1) (fun z hz => (c_X12_cells x0 t z hz).2) (fun z1 _ => ?_)
    show mk_O _ _ _ _ (.int z1.1 :: [.int x5]) _ _
    refine xo_icmp_ge (tgt := 161) dX12_look_126 rfl (fun _ => ?_) (fun _ => ?_)
    · refine xo_iload_n rfl rfl dX12_look_161 ?_
      refine xo_if_ne (tgt := 170) dX12_look_162 rfl (fun _ => ?_) (fun _ => ?_)
      · refine xo_iload rfl dX12_look_165 ?_
        refine xo_goto (tgt := 177) dX12_look_167 rfl ?_
        exact xo_iret dX12_look_177 rfl
      · refine xo_aload_n rfl rfl dX12_look_170 ?_
        refine xo_iload rfl dX12_look_171 ?_
        refine xo_iload_n rfl rfl dX12_look_173 ?_
        refine mk_O.callV (N := M_X12_mostAlike) (ci := 11) (q := (RX12, TX12, 64)) (b := x0) (As1 := [.int x4, .int x3]) (S := []) md_X12_mostAlike mv_X12_mostAlike lk_RX12_496 rfl (Nat.le_of_ble_eq_true rfl) (by decide) dX12_look_174 rfl rfl rfl (fun z hz => (c_X12_mostAlike x0 x4 x3 z1.2 z hz).1) (fun z hz => (c_X12_mostAlike x0 x4 x3 z1.2 z hz).2) (fun z2 _ => ?_)
        show mk_O _ _ _ _ (.int z2.1 :: []) _ _
        exact xo_iret dX12_look_177 rfl
    · refine xo_aload_n rfl rfl dX12_look_129 ?_
      refine xo_iload rfl dX12_look_130 ?_
      refine xo_iload_n rfl rfl dX12_look_132 ?_
      refine mk_O.callV (N := M_X12_mostAlike) (ci := 11) (q := (RX12, TX12, 64)) (b := x0) (As1 := [.int x5, .int x3]) (S := []) md_X12_mostAlike mv_X12_mostAlike lk_RX12_496 rfl (Nat.le_of_ble_eq_true rfl) (by decide) dX12_look_133 rfl rfl rfl (fun z hz => (c_X12_mostAlike x0 x5 x3 z1.2 z hz).1) (fun z hz => (c_X12_mostAlike x0 x5 x3 z1.2 z hz).2) (fun z3 _ => ?_)
      show mk_O _ _ _ _ (.int z3.1 :: []) _ _
      refine xo_aload_n rfl rfl dX12_look_136 ?_
      refine xo_iload rfl dX12_look_137 ?_
      refine xo_iload_n rfl rfl dX12_look_139 ?_
      refine mk_O.callV (N := M_X12_mostAlike) (ci := 11) (q := (RX12, TX12, 64)) (b := x0) (As1 := [.int x4, .int x3]) (S := [.int z3.1]) md_X12_mostAlike mv_X12_mostAlike lk_RX12_496 rfl (Nat.le_of_ble_eq_true rfl) (by decide) dX12_look_140 rfl rfl rfl (fun z hz => (c_X12_mostAlike x0 x4 x3 z3.2 z hz).1) (fun z hz => (c_X12_mostAlike x0 x4 x3 z3.2 z hz).2) (fun z4 _ => ?_)
      show mk_O _ _ _ _ (.int z4.1 :: [.int z3.1]) _ _
      refine xo_icmp_ge (tgt := 151) dX12_look_143 rfl (fun _ => ?_) (fun _ => ?_)
      · refine xo_iload rfl dX12_look_151 ?_
        exact mk_O.wk (o_X12_look_153 _ ih x0 x2 x3 x5 x4 z4.2) ⟨rfl, ⟨rfl, ⟨rfl, ⟨rfl, trivial⟩⟩⟩⟩
      · refine xo_iload rfl dX12_look_146 ?_
        refine xo_goto (tgt := 153) dX12_look_148 rfl ?_
        exact mk_O.wk (o_X12_look_153 _ ih x0 x2 x3 x5 x5 z4.2) ⟨rfl, ⟨rfl, ⟨rfl, ⟨rfl, trivial⟩⟩⟩⟩
theorem o_X12_look_40 : ∀ (n : Nat) (x0 : Nat) (x1 : Int32) (x2 : Int32) (x3 : Int32) (x4 : Int32) (t : mk_S), mk_O mk_wi M_X12_look 40 [some (.ref x0), some (.int x1), some (.int x2), some (.int x3), some (.int x4), none] [] t (B_X12_look_40 n x0 x1 x2 x3 x4 t) := by
  intro n
  induction n with
  | zero =>
    intro x0 x1 x2 x3 x4 t
    exact mk_O.none
  | succ n ih =>
    intro x0 x1 x2 x3 x4 t
    rw [B_X12_look_40]
    refine xo_iload rfl dX12_look_40 ?_
    refine xo_aload_n rfl rfl dX12_look_42 ?_
    refine xo_geti dX12_look_43 cl_11 fl_RX12_338 rfl (fun v1 => ?_)
    refine xo_icmp_ge (tgt := 107) dX12_look_46 rfl (fun _ => ?_) (fun _ => ?_)
    · refine xo_iload_n rfl rfl dX12_look_107 ?_
      refine xo_if_ne (tgt := 114) dX12_look_108 rfl (fun _ => ?_) (fun _ => ?_)
      · refine xo_bipush kb_m2 dX12_look_111 ?_
        exact xo_iret dX12_look_113 rfl
      · refine xo_iconst kc_0 dX12_look_114 ?_
        refine xo_istore (by decide) (mk_p1_v rfl rfl) dX12_look_115 ?_
        refine xo_iconst kc_1 dX12_look_117 ?_
        refine xo_istore (by decide) (mk_p1_v rfl rfl) dX12_look_118 ?_
        exact mk_O.wk (o_X12_look_120 mk_fu x0 x2 x3 (0 : Int32) (1 : Int32) t) ⟨rfl, ⟨rfl, ⟨rfl, ⟨rfl, ⟨rfl, trivial⟩⟩⟩⟩⟩
    · refine xo_aload_n rfl rfl dX12_look_49 ?_
      refine xo_iload rfl dX12_look_50 ?_
      refine mk_O.callV (N := M_X12_couldRule) (ci := 11) (q := (RX12, TX12, 64)) (b := x0) (As1 := [.int x4]) (S := []) md_X12_couldRule mv_X12_couldRule lk_RX12_493 rfl (Nat.le_of_ble_eq_true rfl) (by decide) dX12_look_52 rfl rfl rfl (fun z hz => (c_X12_couldRule x0 x4 t z hz).1) (fun z hz => (c_X12_couldRule x0 x4 t z hz).2) (fun z2 _ => ?_)
      show mk_O _ _ _ _ (.int z2.1 :: []) _ _
      refine xo_if_eq (tgt := 101) dX12_look_55 rfl (fun _ => ?_) (fun _ => ?_)
      · exact mk_O.wk (o_X12_look_101 _ ih x0 x1 x2 x3 x4 z2.2) ⟨rfl, ⟨rfl, ⟨rfl, ⟨rfl, ⟨rfl, trivial⟩⟩⟩⟩⟩
      · refine xo_iconst kc_0 dX12_look_58 ?_
        refine xo_istore (by decide) (mk_p1_v rfl rfl) dX12_look_59 ?_
        exact mk_O.wk (o_X12_look_61 _ ih mk_fu x0 x1 x2 x3 x4 (0 : Int32) z2.2) ⟨rfl, ⟨rfl, ⟨rfl, ⟨rfl, ⟨rfl, ⟨rfl, trivial⟩⟩⟩⟩⟩⟩
theorem p_X12_look (x0 : Nat) (x1 : Int32) (x2 : Int32) (t : mk_S) : mk_O mk_wi M_X12_look 0 [some (.ref x0), some (.int x1), some (.int x2), none, none, none] [] t ((F_X12_isPlateau x0 t).bind fun z1 => if z1.1 = 0 then (some ((-1 : Int32), z1.2)) else ((F_X12_in ((x1).toInt64) (0 : Int64) (60 : Int64) z1.2).bind fun z2 => if z2.1 = 0 then (some ((-1 : Int32), z2.2)) else ((F_X12_in ((x2).toInt64) (0 : Int64) (1 : Int64) z2.2).bind fun z3 => if z3.1 = 0 then (some ((-1 : Int32), z3.2)) else ((F_X12_keepsAll x0 z3.2).bind fun z4 => B_X12_look_40 mk_fu x0 x1 x2 (0 : Int32) (-1 : Int32) z4.2)))) := by
  refine xo_aload_n rfl rfl dX12_look_0 ?_
  refine mk_O.callV (N := M_X12_isPlateau) (ci := 11) (q := (RX12, TX12, 64)) (b := x0) (As1 := []) (S := []) md_X12_isPlateau mv_X12_isPlateau lk_RX12_428 rfl (Nat.le_of_ble_eq_true rfl) (by decide) dX12_look_1 rfl rfl rfl (fun z hz => (c_X12_isPlateau x0 t z hz).1) (fun z hz => (c_X12_isPlateau x0 t z hz).2) (fun z1 _ => ?_)
  show mk_O _ _ _ _ (.int z1.1 :: []) _ _
  refine xo_if_eq (tgt := 29) dX12_look_4 rfl (fun _ => ?_) (fun _ => ?_)
  · refine xo_iconst kc_m1 dX12_look_29 ?_
    exact xo_iret dX12_look_30 rfl
  · refine xo_iload_n rfl rfl dX12_look_7 ?_
    refine xo_i2l dX12_look_8 ?_
    refine xo_lconst kl_0 dX12_look_9 ?_
    refine xo_ldc2 (v := 60) (mk_w7 (i := 226) rfl rfl) dX12_look_10 ?_
    refine mk_O.callS (N := M_X12_in) (As := [.long ((x1).toInt64), .long (0 : Int64), .long (60 : Int64)]) (S := []) md_X12_in ms_X12_in lk_RX12_159 rfl (Nat.le_of_ble_eq_true rfl) (by decide) dX12_look_13 rfl (fun z hz => c_X12_in ((x1).toInt64) (0 : Int64) (60 : Int64) z1.2 z hz) (fun z2 _ => ?_)
    show mk_O _ _ _ _ (.int z2.1 :: []) _ _
    refine xo_if_eq (tgt := 29) dX12_look_16 rfl (fun _ => ?_) (fun _ => ?_)
    · refine xo_iconst kc_m1 dX12_look_29 ?_
      exact xo_iret dX12_look_30 rfl
    · refine xo_iload_n rfl rfl dX12_look_19 ?_
      refine xo_i2l dX12_look_20 ?_
      refine xo_lconst kl_0 dX12_look_21 ?_
      refine xo_lconst kl_1 dX12_look_22 ?_
      refine mk_O.callS (N := M_X12_in) (As := [.long ((x2).toInt64), .long (0 : Int64), .long (1 : Int64)]) (S := []) md_X12_in ms_X12_in lk_RX12_159 rfl (Nat.le_of_ble_eq_true rfl) (by decide) dX12_look_23 rfl (fun z hz => c_X12_in ((x2).toInt64) (0 : Int64) (1 : Int64) z2.2 z hz) (fun z3 _ => ?_)
      show mk_O _ _ _ _ (.int z3.1 :: []) _ _
      refine xo_if_ne (tgt := 31) dX12_look_26 rfl (fun _ => ?_) (fun _ => ?_)
      · refine xo_iconst kc_m1 dX12_look_29 ?_
        exact xo_iret dX12_look_30 rfl
      · refine xo_aload_n rfl rfl dX12_look_31 ?_
        refine mk_O.callV (N := M_X12_keepsAll) (ci := 11) (q := (RX12, TX12, 64)) (b := x0) (As1 := []) (S := []) md_X12_keepsAll mv_X12_keepsAll lk_RX12_443 rfl (Nat.le_of_ble_eq_true rfl) (by decide) dX12_look_32 rfl rfl rfl (fun z hz => (c_X12_keepsAll x0 z3.2 z hz).1) (fun z hz => (c_X12_keepsAll x0 z3.2 z hz).2) (fun z4 _ => ?_)
        show mk_O _ _ _ _ [] _ _
        refine xo_iconst kc_0 dX12_look_35 ?_
        refine xo_istore_n rfl (by decide) (mk_p1_v rfl rfl) dX12_look_36 ?_
        refine xo_iconst kc_m1 dX12_look_37 ?_
        refine xo_istore (by decide) (mk_p1_v rfl rfl) dX12_look_38 ?_
        exact mk_O.wk (o_X12_look_40 mk_fu x0 x1 x2 (0 : Int32) (-1 : Int32) z4.2) ⟨rfl, ⟨rfl, ⟨rfl, ⟨rfl, ⟨rfl, trivial⟩⟩⟩⟩⟩
theorem c_X12_look (x0 : Nat) (x1 : Int32) (x2 : Int32) (t : mk_S) (z : Int32 × mk_S) (h : F_X12_look x0 x1 x2 t = some z) : mk_is t x0 11 ∧ mk_Ct M_X12_look [.ref x0, .int x1, .int x2] t (mk_wi z.1, z.2) :=
  ⟨(mk_gd_spec h).1, mk_ct (w := mk_wi) (by decide +kernel) (Nat.le_of_ble_eq_true rfl) (p_X12_look x0 x1 x2 t) z (mk_gd_spec h).2⟩
def F_X12_seed (x0 : Nat) (x1 : Int32) (t : mk_S) : Option (Int32 × mk_S) := mk_gd t x0 11 (if 0 ≤ x1 then ((mk_ga t x0 11 1).bind fun v1 => (mk_ld 100 t v1 (8 : Int32)).bind fun v2 => (mk_ga t x0 11 1).bind fun v3 => (mk_st 100 t v3 (8 : Int32) x1).bind fun t4 => some (v2, t4)) else (some ((-1 : Int32), t)))
theorem p_X12_seed (x0 : Nat) (x1 : Int32) (t : mk_S) : mk_O mk_wi M_X12_seed 0 [some (.ref x0), some (.int x1), none] [] t (if 0 ≤ x1 then ((mk_ga t x0 11 1).bind fun v1 => (mk_ld 100 t v1 (8 : Int32)).bind fun v2 => (mk_ga t x0 11 1).bind fun v3 => (mk_st 100 t v3 (8 : Int32) x1).bind fun t4 => some (v2, t4)) else (some ((-1 : Int32), t))) := by
  refine xo_iload_n rfl rfl dX12_seed_0 ?_
  refine xo_if_ge (tgt := 6) dX12_seed_1 rfl (fun _ => ?_) (fun _ => ?_)
  · refine xo_aload_n rfl rfl dX12_seed_6 ?_
    refine xo_geta dX12_seed_7 cl_11 fl_RX12_9 rfl (fun v1 => ?_)
    refine xo_bipush kb_8 dX12_seed_10 ?_
    refine xo_iald dX12_seed_12 (fun v2 => ?_)
    refine xo_istore_n rfl (by decide) (mk_p1_v rfl rfl) dX12_seed_13 ?_
    refine xo_aload_n rfl rfl dX12_seed_14 ?_
    refine xo_geta dX12_seed_15 cl_11 fl_RX12_9 rfl (fun v3 => ?_)
    refine xo_bipush kb_8 dX12_seed_18 ?_
    refine xo_iload_n rfl rfl dX12_seed_20 ?_
    refine xo_iast dX12_seed_21 (fun t4 => ?_)
    refine xo_iload_n rfl rfl dX12_seed_22 ?_
    exact xo_iret dX12_seed_23 rfl
  · refine xo_iconst kc_m1 dX12_seed_4 ?_
    exact xo_iret dX12_seed_5 rfl
theorem c_X12_seed (x0 : Nat) (x1 : Int32) (t : mk_S) (z : Int32 × mk_S) (h : F_X12_seed x0 x1 t = some z) : mk_is t x0 11 ∧ mk_Ct M_X12_seed [.ref x0, .int x1] t (mk_wi z.1, z.2) :=
  ⟨(mk_gd_spec h).1, mk_ct (w := mk_wi) (by decide +kernel) (Nat.le_of_ble_eq_true rfl) (p_X12_seed x0 x1 t) z (mk_gd_spec h).2⟩
def F_X12_draws (x0 : Nat) (x1 : Int32) (t : mk_S) : Option (Int32 × mk_S) := mk_gd t x0 11 ((mk_ga t x0 11 1).bind fun v1 => (mk_ga t x0 11 1).bind fun v2 => (mk_ld 100 t v2 (8 : Int32)).bind fun v3 => if (2147483648 : Int64) = 0 then none else (mk_st 100 t v1 (8 : Int32) (((((((v3).toInt64) * (1103515245 : Int64)) + (12345 : Int64)) - ((((v3).toInt64) * (1103515245 : Int64)) + (12345 : Int64)) / (2147483648 : Int64) * (2147483648 : Int64))).toInt32)).bind fun t4 => (mk_ga t4 x0 11 1).bind fun v5 => (mk_ld 100 t4 v5 (8 : Int32)).bind fun v6 => if (65536 : Int32) = 0 then none else if x1 = 0 then none else some (((v6 / (65536 : Int32)) - (v6 / (65536 : Int32)) / x1 * x1), t4))
theorem p_X12_draws (x0 : Nat) (x1 : Int32) (t : mk_S) : mk_O mk_wi M_X12_draws 0 [some (.ref x0), some (.int x1)] [] t ((mk_ga t x0 11 1).bind fun v1 => (mk_ga t x0 11 1).bind fun v2 => (mk_ld 100 t v2 (8 : Int32)).bind fun v3 => if (2147483648 : Int64) = 0 then none else (mk_st 100 t v1 (8 : Int32) (((((((v3).toInt64) * (1103515245 : Int64)) + (12345 : Int64)) - ((((v3).toInt64) * (1103515245 : Int64)) + (12345 : Int64)) / (2147483648 : Int64) * (2147483648 : Int64))).toInt32)).bind fun t4 => (mk_ga t4 x0 11 1).bind fun v5 => (mk_ld 100 t4 v5 (8 : Int32)).bind fun v6 => if (65536 : Int32) = 0 then none else if x1 = 0 then none else some (((v6 / (65536 : Int32)) - (v6 / (65536 : Int32)) / x1 * x1), t4)) := by
  refine xo_aload_n rfl rfl dX12_draws_0 ?_
  refine xo_geta dX12_draws_1 cl_11 fl_RX12_9 rfl (fun v1 => ?_)
  refine xo_bipush kb_8 dX12_draws_4 ?_
  refine xo_aload_n rfl rfl dX12_draws_6 ?_
  refine xo_geta dX12_draws_7 cl_11 fl_RX12_9 rfl (fun v2 => ?_)
  refine xo_bipush kb_8 dX12_draws_10 ?_
  refine xo_iald dX12_draws_12 (fun v3 => ?_)
  refine xo_i2l dX12_draws_13 ?_
  refine xo_ldc2 (v := 1103515245) (mk_w8 (i := 87) rfl rfl) dX12_draws_14 ?_
  refine xo_lmul dX12_draws_17 ?_
  refine xo_ldc2 (v := 12345) (mk_w8 (i := 88) rfl rfl) dX12_draws_18 ?_
  refine xo_ladd dX12_draws_21 ?_
  refine xo_ldc2 (v := 2147483648) (mk_w8 (i := 89) rfl rfl) dX12_draws_22 ?_
  refine xo_lrem dX12_draws_25 (fun _ => ?_)
  refine xo_l2i dX12_draws_26 ?_
  refine xo_iast dX12_draws_27 (fun t4 => ?_)
  refine xo_aload_n rfl rfl dX12_draws_28 ?_
  refine xo_geta dX12_draws_29 cl_11 fl_RX12_9 rfl (fun v5 => ?_)
  refine xo_bipush kb_8 dX12_draws_32 ?_
  refine xo_iald dX12_draws_34 (fun v6 => ?_)
  refine xo_ldcw (v := 65536) (mk_w8 (i := 90) rfl rfl) dX12_draws_35 ?_
  refine xo_idiv dX12_draws_38 (fun _ => ?_)
  refine xo_iload_n rfl rfl dX12_draws_39 ?_
  refine xo_irem dX12_draws_40 (fun _ => ?_)
  exact xo_iret dX12_draws_41 rfl
theorem c_X12_draws (x0 : Nat) (x1 : Int32) (t : mk_S) (z : Int32 × mk_S) (h : F_X12_draws x0 x1 t = some z) : mk_is t x0 11 ∧ mk_Ct M_X12_draws [.ref x0, .int x1] t (mk_wi z.1, z.2) :=
  ⟨(mk_gd_spec h).1, mk_ct (w := mk_wi) (by decide +kernel) (Nat.le_of_ble_eq_true rfl) (p_X12_draws x0 x1 t) z (mk_gd_spec h).2⟩
def F_X12_drawsNotion (x0 : Nat) (x1 : Int32) (t : mk_S) : Option (Unit × mk_S) := mk_gd t x0 11 ((F_X12_draws x0 (100 : Int32) t).bind fun z1 => if x1 ≤ z1.1 then (some ((), z1.2)) else ((mk_ga z1.2 x0 11 1).bind fun v2 => (mk_ld 100 z1.2 v2 (2 : Int32)).bind fun v3 => if v3 ≤ 0 then (some ((), z1.2)) else ((mk_ga z1.2 x0 11 1).bind fun v4 => (mk_ld 100 z1.2 v4 (2 : Int32)).bind fun v5 => (F_X12_draws x0 v5 z1.2).bind fun z6 => (mk_ga z6.2 x0 11 4).bind fun v7 => (mk_ga z6.2 x0 11 4).bind fun v8 => (mk_ld 100 z6.2 v8 z6.1).bind fun v9 => (F_X12_upTo (v9 + (9 : Int32)) (99 : Int32) z6.2).bind fun z10 => (mk_st 100 z10.2 v7 z6.1 z10.1).bind fun t11 => some ((), t11))))
theorem p_X12_drawsNotion (x0 : Nat) (x1 : Int32) (t : mk_S) : mk_O mk_wu M_X12_drawsNotion 0 [some (.ref x0), some (.int x1), none] [] t ((F_X12_draws x0 (100 : Int32) t).bind fun z1 => if x1 ≤ z1.1 then (some ((), z1.2)) else ((mk_ga z1.2 x0 11 1).bind fun v2 => (mk_ld 100 z1.2 v2 (2 : Int32)).bind fun v3 => if v3 ≤ 0 then (some ((), z1.2)) else ((mk_ga z1.2 x0 11 1).bind fun v4 => (mk_ld 100 z1.2 v4 (2 : Int32)).bind fun v5 => (F_X12_draws x0 v5 z1.2).bind fun z6 => (mk_ga z6.2 x0 11 4).bind fun v7 => (mk_ga z6.2 x0 11 4).bind fun v8 => (mk_ld 100 z6.2 v8 z6.1).bind fun v9 => (F_X12_upTo (v9 + (9 : Int32)) (99 : Int32) z6.2).bind fun z10 => (mk_st 100 z10.2 v7 z6.1 z10.1).bind fun t11 => some ((), t11)))) := by
  refine xo_aload_n rfl rfl dX12_drawsNotion_0 ?_
  refine xo_bipush kb_100 dX12_drawsNotion_1 ?_
  refine mk_O.callV (N := M_X12_draws) (ci := 11) (q := (RX12, TX12, 64)) (b := x0) (As1 := [.int (100 : Int32)]) (S := []) md_X12_draws mv_X12_draws lk_RX12_506 rfl (Nat.le_of_ble_eq_true rfl) (by decide) dX12_drawsNotion_3 rfl rfl rfl (fun z hz => (c_X12_draws x0 (100 : Int32) t z hz).1) (fun z hz => (c_X12_draws x0 (100 : Int32) t z hz).2) (fun z1 _ => ?_)
  show mk_O _ _ _ _ (.int z1.1 :: []) _ _
  refine xo_iload_n rfl rfl dX12_drawsNotion_6 ?_
  refine xo_icmp_ge (tgt := 50) dX12_drawsNotion_7 rfl (fun _ => ?_) (fun _ => ?_)
  · exact xo_vret dX12_drawsNotion_50 rfl
  · refine xo_aload_n rfl rfl dX12_drawsNotion_10 ?_
    refine xo_geta dX12_drawsNotion_11 cl_11 fl_RX12_9 rfl (fun v2 => ?_)
    refine xo_iconst kc_2 dX12_drawsNotion_14 ?_
    refine xo_iald dX12_drawsNotion_15 (fun v3 => ?_)
    refine xo_if_le (tgt := 50) dX12_drawsNotion_16 rfl (fun _ => ?_) (fun _ => ?_)
    · exact xo_vret dX12_drawsNotion_50 rfl
    · refine xo_aload_n rfl rfl dX12_drawsNotion_19 ?_
      refine xo_aload_n rfl rfl dX12_drawsNotion_20 ?_
      refine xo_geta dX12_drawsNotion_21 cl_11 fl_RX12_9 rfl (fun v4 => ?_)
      refine xo_iconst kc_2 dX12_drawsNotion_24 ?_
      refine xo_iald dX12_drawsNotion_25 (fun v5 => ?_)
      refine mk_O.callV (N := M_X12_draws) (ci := 11) (q := (RX12, TX12, 64)) (b := x0) (As1 := [.int v5]) (S := []) md_X12_draws mv_X12_draws lk_RX12_506 rfl (Nat.le_of_ble_eq_true rfl) (by decide) dX12_drawsNotion_26 rfl rfl rfl (fun z hz => (c_X12_draws x0 v5 z1.2 z hz).1) (fun z hz => (c_X12_draws x0 v5 z1.2 z hz).2) (fun z6 _ => ?_)
      show mk_O _ _ _ _ (.int z6.1 :: []) _ _
      refine xo_istore_n rfl (by decide) (mk_p1_v rfl rfl) dX12_drawsNotion_29 ?_
      refine xo_aload_n rfl rfl dX12_drawsNotion_30 ?_
      refine xo_geta dX12_drawsNotion_31 cl_11 fl_RX12_19 rfl (fun v7 => ?_)
      refine xo_iload_n rfl rfl dX12_drawsNotion_34 ?_
      refine xo_aload_n rfl rfl dX12_drawsNotion_35 ?_
      refine xo_geta dX12_drawsNotion_36 cl_11 fl_RX12_19 rfl (fun v8 => ?_)
      refine xo_iload_n rfl rfl dX12_drawsNotion_39 ?_
      refine xo_iald dX12_drawsNotion_40 (fun v9 => ?_)
      refine xo_bipush kb_9 dX12_drawsNotion_41 ?_
      refine xo_iadd dX12_drawsNotion_43 ?_
      refine xo_bipush kb_99 dX12_drawsNotion_44 ?_
      refine mk_O.callS (N := M_X12_upTo) (As := [.int (v9 + (9 : Int32)), .int (99 : Int32)]) (S := [.int z6.1, .ref v7]) md_X12_upTo ms_X12_upTo lk_RX12_395 rfl (Nat.le_of_ble_eq_true rfl) (by decide) dX12_drawsNotion_46 rfl (fun z hz => c_X12_upTo (v9 + (9 : Int32)) (99 : Int32) z6.2 z hz) (fun z10 _ => ?_)
      show mk_O _ _ _ _ (.int z10.1 :: [.int z6.1, .ref v7]) _ _
      refine xo_iast dX12_drawsNotion_49 (fun t11 => ?_)
      exact xo_vret dX12_drawsNotion_50 rfl
theorem c_X12_drawsNotion (x0 : Nat) (x1 : Int32) (t : mk_S) (z : Unit × mk_S) (h : F_X12_drawsNotion x0 x1 t = some z) : mk_is t x0 11 ∧ mk_Ct M_X12_drawsNotion [.ref x0, .int x1] t (mk_wu z.1, z.2) :=
  ⟨(mk_gd_spec h).1, mk_ct (w := mk_wu) (by decide +kernel) (Nat.le_of_ble_eq_true rfl) (p_X12_drawsNotion x0 x1 t) z (mk_gd_spec h).2⟩
def B_X12_notions_152 (k85 : Nat → Int32 → Int32 → Int32 → Int32 → Int32 → Int32 → Int32 → Int32 → Int32 → mk_S → Option (Int32 × mk_S)) (x0 : Nat) (x1 : Int32) (x2 : Int32) (x3 : Int32) (x4 : Int32) (x5 : Int32) (x7 : Int32) (x9 : Int32) (s0 : Int32) (s1 : Int32) (t : mk_S) : Option (Int32 × mk_S) := (mk_ga t x0 11 1).bind fun v1 => (mk_ld 100 t v1 (8 : Int32)).bind fun v2 => (F_X12_laysBack x0 t).bind fun z3 => k85 x0 x1 x2 x3 x4 x5 v2 x7 (s0 + s1) (x9 + (1 : Int32)) z3.2
def B_X12_notions_103 (k85 : Nat → Int32 → Int32 → Int32 → Int32 → Int32 → Int32 → Int32 → Int32 → Int32 → mk_S → Option (Int32 × mk_S)) : Nat → Nat → Int32 → Int32 → Int32 → Int32 → Int32 → Int32 → Int32 → Int32 → Int32 → mk_S → Option (Int32 × mk_S)
  | 0, _, _, _, _, _, _, _, _, _, _, _ => none
  | n + 1, x0, x1, x2, x3, x4, x5, x7, x8, x9, x10, t => if x2 ≤ x10 then (if x4 = 0 then ((F_X12_allGround x0 t).bind fun z1 => B_X12_notions_152 k85 x0 x1 x2 x3 x4 x5 x7 x9 x8 (z1.1 - x7) z1.2) else ((mk_ga t x0 11 1).bind fun v2 => (mk_ld 100 t v2 (6 : Int32)).bind fun v3 => (F_X12_bits v3 t).bind fun z4 => B_X12_notions_152 k85 x0 x1 x2 x3 x4 x5 x7 x9 x8 z4.1 z4.2)) else ((F_X12_drawsNotion x0 x3 t).bind fun z5 => (F_X12_goes x0 z5.2).bind fun z6 => B_X12_notions_103 k85 n x0 x1 x2 x3 x4 x5 x7 x8 x9 (x10 + (1 : Int32)) z6.2)
def B_X12_notions_85 : Nat → Nat → Int32 → Int32 → Int32 → Int32 → Int32 → Int32 → Int32 → Int32 → Int32 → mk_S → Option (Int32 × mk_S)
  | 0, _, _, _, _, _, _, _, _, _, _, _ => none
  | n + 1, x0, x1, x2, x3, x4, x5, x6, x7, x8, x9, t => if x1 ≤ x9 then ((mk_ga t x0 11 1).bind fun v1 => (mk_st 100 t v1 (8 : Int32) x5).bind fun t2 => some (x8, t2)) else ((mk_ga t x0 11 1).bind fun v3 => (mk_st 100 t v3 (8 : Int32) x6).bind fun t4 => B_X12_notions_103 (B_X12_notions_85 n) mk_fu x0 x1 x2 x3 x4 x5 x7 x8 x9 (0 : Int32) t4)
def F_X12_notions (x0 : Nat) (x1 : Int32) (x2 : Int32) (x3 : Int32) (x4 : Int32) (t : mk_S) : Option (Int32 × mk_S) := mk_gd t x0 11 ((F_X12_isPlateau x0 t).bind fun z1 => if z1.1 = 0 then (some ((-1 : Int32), z1.2)) else ((F_X12_in ((x1).toInt64) (1 : Int64) (10 : Int64) z1.2).bind fun z2 => if z2.1 = 0 then (some ((-1 : Int32), z2.2)) else ((F_X12_in ((x2).toInt64) (1 : Int64) (60 : Int64) z2.2).bind fun z3 => if z3.1 = 0 then (some ((-1 : Int32), z3.2)) else ((F_X12_in ((x3).toInt64) (0 : Int64) (100 : Int64) z3.2).bind fun z4 => if z4.1 = 0 then (some ((-1 : Int32), z4.2)) else ((F_X12_in ((x4).toInt64) (0 : Int64) (1 : Int64) z4.2).bind fun z5 => if z5.1 = 0 then (some ((-1 : Int32), z5.2)) else ((mk_ga z5.2 x0 11 1).bind fun v6 => (mk_ld 100 z5.2 v6 (8 : Int32)).bind fun v7 => (F_X12_allGround x0 z5.2).bind fun z8 => (F_X12_keepsAll x0 z8.2).bind fun z9 => B_X12_notions_85 mk_fu x0 x1 x2 x3 x4 v7 v7 z8.1 (0 : Int32) (0 : Int32) z9.2))))))
theorem o_X12_notions_152 (k85 : Nat → Int32 → Int32 → Int32 → Int32 → Int32 → Int32 → Int32 → Int32 → Int32 → mk_S → Option (Int32 × mk_S)) (h85 : ∀ (x0 : Nat) (x1 : Int32) (x2 : Int32) (x3 : Int32) (x4 : Int32) (x5 : Int32) (x6 : Int32) (x7 : Int32) (x8 : Int32) (x9 : Int32) (t : mk_S), mk_O mk_wi M_X12_notions 85 [some (.ref x0), some (.int x1), some (.int x2), some (.int x3), some (.int x4), some (.int x5), some (.int x6), some (.int x7), some (.int x8), some (.int x9), none] [] t (k85 x0 x1 x2 x3 x4 x5 x6 x7 x8 x9 t)) (x0 : Nat) (x1 : Int32) (x2 : Int32) (x3 : Int32) (x4 : Int32) (x5 : Int32) (x7 : Int32) (x9 : Int32) (s0 : Int32) (s1 : Int32) (t : mk_S) : mk_O mk_wi M_X12_notions 152 [some (.ref x0), some (.int x1), some (.int x2), some (.int x3), some (.int x4), some (.int x5), none, some (.int x7), none, some (.int x9), none] [.int s1, .int s0] t (B_X12_notions_152 k85 x0 x1 x2 x3 x4 x5 x7 x9 s0 s1 t) := by
  unfold B_X12_notions_152
  refine xo_iadd dX12_notions_152 ?_
  refine xo_istore (by decide) (mk_p1_v rfl rfl) dX12_notions_153 ?_
  refine xo_aload_n rfl rfl dX12_notions_155 ?_
  refine xo_geta dX12_notions_156 cl_11 fl_RX12_9 rfl (fun v1 => ?_)
  refine xo_bipush kb_8 dX12_notions_159 ?_
  refine xo_iald dX12_notions_161 (fun v2 => ?_)
  refine xo_istore (by decide) (mk_p1_v rfl rfl) dX12_notions_162 ?_
  refine xo_aload_n rfl rfl dX12_notions_164 ?_
  refine mk_O.callV (N := M_X12_laysBack) (ci := 11) (q := (RX12, TX12, 64)) (b := x0) (As1 := []) (S := []) md_X12_laysBack mv_X12_laysBack lk_RX12_449 rfl (Nat.le_of_ble_eq_true rfl) (by decide) dX12_notions_165 rfl rfl rfl (fun z hz => (c_X12_laysBack x0 t z hz).1) (fun z hz => (c_X12_laysBack x0 t z hz).2) (fun z3 _ => ?_)
  show mk_O _ _ _ _ [] _ _
  refine xo_iinc rfl (congrArg _ kc_1) (by decide) (mk_p1_v rfl rfl) dX12_notions_168 ?_
  refine xo_goto (tgt := 85) dX12_notions_171 rfl ?_
  exact mk_O.wk (h85 x0 x1 x2 x3 x4 x5 v2 x7 (s0 + s1) (x9 + (1 : Int32)) z3.2) ⟨rfl, ⟨rfl, ⟨rfl, ⟨rfl, ⟨rfl, ⟨rfl, ⟨rfl, ⟨rfl, ⟨rfl, ⟨rfl, trivial⟩⟩⟩⟩⟩⟩⟩⟩⟩⟩
theorem o_X12_notions_103 (k85 : Nat → Int32 → Int32 → Int32 → Int32 → Int32 → Int32 → Int32 → Int32 → Int32 → mk_S → Option (Int32 × mk_S)) (h85 : ∀ (x0 : Nat) (x1 : Int32) (x2 : Int32) (x3 : Int32) (x4 : Int32) (x5 : Int32) (x6 : Int32) (x7 : Int32) (x8 : Int32) (x9 : Int32) (t : mk_S), mk_O mk_wi M_X12_notions 85 [some (.ref x0), some (.int x1), some (.int x2), some (.int x3), some (.int x4), some (.int x5), some (.int x6), some (.int x7), some (.int x8), some (.int x9), none] [] t (k85 x0 x1 x2 x3 x4 x5 x6 x7 x8 x9 t)) : ∀ (n : Nat) (x0 : Nat) (x1 : Int32) (x2 : Int32) (x3 : Int32) (x4 : Int32) (x5 : Int32) (x7 : Int32) (x8 : Int32) (x9 : Int32) (x10 : Int32) (t : mk_S), mk_O mk_wi M_X12_notions 103 [some (.ref x0), some (.int x1), some (.int x2), some (.int x3), some (.int x4), some (.int x5), none, some (.int x7), some (.int x8), some (.int x9), some (.int x10)] [] t (B_X12_notions_103 k85 n x0 x1 x2 x3 x4 x5 x7 x8 x9 x10 t) := by
  intro n
  induction n with
  | zero =>
    intro x0 x1 x2 x3 x4 x5 x7 x8 x9 x10 t
    exact mk_O.none
  | succ n ih =>
    intro x0 x1 x2 x3 x4 x5 x7 x8 x9 x10 t
    rw [B_X12_notions_103]
    refine xo_iload rfl dX12_notions_103 ?_
    refine xo_iload_n rfl rfl dX12_notions_105 ?_
    refine xo_icmp_ge (tgt := 125) dX12_notions_106 rfl (fun _ => ?_) (fun _ => ?_)
    · refine xo_iload rfl dX12_notions_125 ?_
      refine xo_iload rfl dX12_notions_127 ?_
      refine xo_if_ne (tgt := 142) dX12_notions_129 rfl (fun _ => ?_) (fun _ => ?_)
      · refine xo_aload_n rfl rfl dX12_notions_132 ?_
        refine mk_O.callV (N := M_X12_allGround) (ci := 11) (q := (RX12, TX12, 64)) (b := x0) (As1 := []) (S := [.int x8]) md_X12_allGround mv_X12_allGround lk_RX12_379 rfl (Nat.le_of_ble_eq_true rfl) (by decide) dX12_notions_133 rfl rfl rfl (fun z hz => (c_X12_allGround x0 t z hz).1) (fun z hz => (c_X12_allGround x0 t z hz).2) (fun z1 _ => ?_)
        show mk_O _ _ _ _ (.int z1.1 :: [.int x8]) _ _
        refine xo_iload rfl dX12_notions_136 ?_
        refine xo_isub dX12_notions_138 ?_
        refine xo_goto (tgt := 152) dX12_notions_139 rfl ?_
        exact mk_O.wk (o_X12_notions_152 _ h85 x0 x1 x2 x3 x4 x5 x7 x9 x8 (z1.1 - x7) z1.2) ⟨rfl, ⟨rfl, ⟨rfl, ⟨rfl, ⟨rfl, ⟨rfl, ⟨rfl, ⟨rfl, trivial⟩⟩⟩⟩⟩⟩⟩⟩
      · refine xo_aload_n rfl rfl dX12_notions_142 ?_
        refine xo_geta dX12_notions_143 cl_11 fl_RX12_9 rfl (fun v2 => ?_)
        refine xo_bipush kb_6 dX12_notions_146 ?_
        refine xo_iald dX12_notions_148 (fun v3 => ?_)
        refine mk_O.callS (N := M_X12_bits) (As := [.int v3]) (S := [.int x8]) md_X12_bits ms_X12_bits lk_RX12_382 rfl (Nat.le_of_ble_eq_true rfl) (by decide) dX12_notions_149 rfl (fun z hz => c_X12_bits v3 t z hz) (fun z4 _ => ?_)
        show mk_O _ _ _ _ (.int z4.1 :: [.int x8]) _ _
        exact mk_O.wk (o_X12_notions_152 _ h85 x0 x1 x2 x3 x4 x5 x7 x9 x8 z4.1 z4.2) ⟨rfl, ⟨rfl, ⟨rfl, ⟨rfl, ⟨rfl, ⟨rfl, ⟨rfl, ⟨rfl, trivial⟩⟩⟩⟩⟩⟩⟩⟩
    · refine xo_aload_n rfl rfl dX12_notions_109 ?_
      refine xo_iload_n rfl rfl dX12_notions_110 ?_
      refine mk_O.callV (N := M_X12_drawsNotion) (ci := 11) (q := (RX12, TX12, 64)) (b := x0) (As1 := [.int x3]) (S := []) md_X12_drawsNotion mv_X12_drawsNotion lk_RX12_511 rfl (Nat.le_of_ble_eq_true rfl) (by decide) dX12_notions_111 rfl rfl rfl (fun z hz => (c_X12_drawsNotion x0 x3 t z hz).1) (fun z hz => (c_X12_drawsNotion x0 x3 t z hz).2) (fun z5 _ => ?_)
      show mk_O _ _ _ _ [] _ _
      refine xo_aload_n rfl rfl dX12_notions_114 ?_
      refine mk_O.callV (N := M_X12_goes) (ci := 11) (q := (RX12, TX12, 64)) (b := x0) (As1 := []) (S := []) md_X12_goes mv_X12_goes lk_RX12_407 rfl (Nat.le_of_ble_eq_true rfl) (by decide) dX12_notions_115 rfl rfl rfl (fun z hz => (c_X12_goes x0 z5.2 z hz).1) (fun z hz => (c_X12_goes x0 z5.2 z hz).2) (fun z6 _ => ?_)
      show mk_O _ _ _ _ (.int z6.1 :: []) _ _
      refine xo_pop rfl dX12_notions_118 ?_
      refine xo_iinc rfl (congrArg _ kc_1) (by decide) (mk_p1_v rfl rfl) dX12_notions_119 ?_
      refine xo_goto (tgt := 103) dX12_notions_122 rfl ?_
      exact mk_O.wk (ih x0 x1 x2 x3 x4 x5 x7 x8 x9 (x10 + (1 : Int32)) z6.2) ⟨rfl, ⟨rfl, ⟨rfl, ⟨rfl, ⟨rfl, ⟨rfl, ⟨rfl, ⟨rfl, ⟨rfl, ⟨rfl, trivial⟩⟩⟩⟩⟩⟩⟩⟩⟩⟩
theorem o_X12_notions_85 : ∀ (n : Nat) (x0 : Nat) (x1 : Int32) (x2 : Int32) (x3 : Int32) (x4 : Int32) (x5 : Int32) (x6 : Int32) (x7 : Int32) (x8 : Int32) (x9 : Int32) (t : mk_S), mk_O mk_wi M_X12_notions 85 [some (.ref x0), some (.int x1), some (.int x2), some (.int x3), some (.int x4), some (.int x5), some (.int x6), some (.int x7), some (.int x8), some (.int x9), none] [] t (B_X12_notions_85 n x0 x1 x2 x3 x4 x5 x6 x7 x8 x9 t) := by
  intro n
  induction n with
  | zero =>
    intro x0 x1 x2 x3 x4 x5 x6 x7 x8 x9 t
    exact mk_O.none
  | succ n ih =>
    intro x0 x1 x2 x3 x4 x5 x6 x7 x8 x9 t
    rw [B_X12_notions_85]
    refine xo_iload rfl dX12_notions_85 ?_
    refine xo_iload_n rfl rfl dX12_notions_87 ?_
    refine xo_icmp_ge (tgt := 174) dX12_notions_88 rfl (fun _ => ?_) (fun _ => ?_)
    · refine xo_aload_n rfl rfl dX12_notions_174 ?_
      refine xo_geta dX12_notions_175 cl_11 fl_RX12_9 rfl (fun v1 => ?_)
      refine xo_bipush kb_8 dX12_notions_178 ?_
      refine xo_iload rfl dX12_notions_180 ?_
      refine xo_iast dX12_notions_182 (fun t2 => ?_)
      refine xo_iload rfl dX12_notions_183 ?_
      exact xo_iret dX12_notions_185 rfl
    · refine xo_aload_n rfl rfl dX12_notions_91 ?_
      refine xo_geta dX12_notions_92 cl_11 fl_RX12_9 rfl (fun v3 => ?_)
      refine xo_bipush kb_8 dX12_notions_95 ?_
      refine xo_iload rfl dX12_notions_97 ?_
      refine xo_iast dX12_notions_99 (fun t4 => ?_)
      refine xo_iconst kc_0 dX12_notions_100 ?_
      refine xo_istore (by decide) (mk_p1_v rfl rfl) dX12_notions_101 ?_
      exact mk_O.wk (o_X12_notions_103 _ ih mk_fu x0 x1 x2 x3 x4 x5 x7 x8 x9 (0 : Int32) t4) ⟨rfl, ⟨rfl, ⟨rfl, ⟨rfl, ⟨rfl, ⟨rfl, ⟨rfl, ⟨rfl, ⟨rfl, ⟨rfl, trivial⟩⟩⟩⟩⟩⟩⟩⟩⟩⟩
theorem p_X12_notions (x0 : Nat) (x1 : Int32) (x2 : Int32) (x3 : Int32) (x4 : Int32) (t : mk_S) : mk_O mk_wi M_X12_notions 0 [some (.ref x0), some (.int x1), some (.int x2), some (.int x3), some (.int x4), none, none, none, none, none, none] [] t ((F_X12_isPlateau x0 t).bind fun z1 => if z1.1 = 0 then (some ((-1 : Int32), z1.2)) else ((F_X12_in ((x1).toInt64) (1 : Int64) (10 : Int64) z1.2).bind fun z2 => if z2.1 = 0 then (some ((-1 : Int32), z2.2)) else ((F_X12_in ((x2).toInt64) (1 : Int64) (60 : Int64) z2.2).bind fun z3 => if z3.1 = 0 then (some ((-1 : Int32), z3.2)) else ((F_X12_in ((x3).toInt64) (0 : Int64) (100 : Int64) z3.2).bind fun z4 => if z4.1 = 0 then (some ((-1 : Int32), z4.2)) else ((F_X12_in ((x4).toInt64) (0 : Int64) (1 : Int64) z4.2).bind fun z5 => if z5.1 = 0 then (some ((-1 : Int32), z5.2)) else ((mk_ga z5.2 x0 11 1).bind fun v6 => (mk_ld 100 z5.2 v6 (8 : Int32)).bind fun v7 => (F_X12_allGround x0 z5.2).bind fun z8 => (F_X12_keepsAll x0 z8.2).bind fun z9 => B_X12_notions_85 mk_fu x0 x1 x2 x3 x4 v7 v7 z8.1 (0 : Int32) (0 : Int32) z9.2)))))) := by
  refine xo_aload_n rfl rfl dX12_notions_0 ?_
  refine mk_O.callV (N := M_X12_isPlateau) (ci := 11) (q := (RX12, TX12, 64)) (b := x0) (As1 := []) (S := []) md_X12_isPlateau mv_X12_isPlateau lk_RX12_428 rfl (Nat.le_of_ble_eq_true rfl) (by decide) dX12_notions_1 rfl rfl rfl (fun z hz => (c_X12_isPlateau x0 t z hz).1) (fun z hz => (c_X12_isPlateau x0 t z hz).2) (fun z1 _ => ?_)
  show mk_O _ _ _ _ (.int z1.1 :: []) _ _
  refine xo_if_eq (tgt := 54) dX12_notions_4 rfl (fun _ => ?_) (fun _ => ?_)
  · refine xo_iconst kc_m1 dX12_notions_54 ?_
    exact xo_iret dX12_notions_55 rfl
  · refine xo_iload_n rfl rfl dX12_notions_7 ?_
    refine xo_i2l dX12_notions_8 ?_
    refine xo_lconst kl_1 dX12_notions_9 ?_
    refine xo_ldc2 (v := 10) (mk_w8 (i := 78) rfl rfl) dX12_notions_10 ?_
    refine mk_O.callS (N := M_X12_in) (As := [.long ((x1).toInt64), .long (1 : Int64), .long (10 : Int64)]) (S := []) md_X12_in ms_X12_in lk_RX12_159 rfl (Nat.le_of_ble_eq_true rfl) (by decide) dX12_notions_13 rfl (fun z hz => c_X12_in ((x1).toInt64) (1 : Int64) (10 : Int64) z1.2 z hz) (fun z2 _ => ?_)
    show mk_O _ _ _ _ (.int z2.1 :: []) _ _
    refine xo_if_eq (tgt := 54) dX12_notions_16 rfl (fun _ => ?_) (fun _ => ?_)
    · refine xo_iconst kc_m1 dX12_notions_54 ?_
      exact xo_iret dX12_notions_55 rfl
    · refine xo_iload_n rfl rfl dX12_notions_19 ?_
      refine xo_i2l dX12_notions_20 ?_
      refine xo_lconst kl_1 dX12_notions_21 ?_
      refine xo_ldc2 (v := 60) (mk_w7 (i := 226) rfl rfl) dX12_notions_22 ?_
      refine mk_O.callS (N := M_X12_in) (As := [.long ((x2).toInt64), .long (1 : Int64), .long (60 : Int64)]) (S := []) md_X12_in ms_X12_in lk_RX12_159 rfl (Nat.le_of_ble_eq_true rfl) (by decide) dX12_notions_25 rfl (fun z hz => c_X12_in ((x2).toInt64) (1 : Int64) (60 : Int64) z2.2 z hz) (fun z3 _ => ?_)
      show mk_O _ _ _ _ (.int z3.1 :: []) _ _
      refine xo_if_eq (tgt := 54) dX12_notions_28 rfl (fun _ => ?_) (fun _ => ?_)
      · refine xo_iconst kc_m1 dX12_notions_54 ?_
        exact xo_iret dX12_notions_55 rfl
      · refine xo_iload_n rfl rfl dX12_notions_31 ?_
        refine xo_i2l dX12_notions_32 ?_
        refine xo_lconst kl_0 dX12_notions_33 ?_
        refine xo_ldc2 (v := 100) (mk_w7 (i := 192) rfl rfl) dX12_notions_34 ?_
        refine mk_O.callS (N := M_X12_in) (As := [.long ((x3).toInt64), .long (0 : Int64), .long (100 : Int64)]) (S := []) md_X12_in ms_X12_in lk_RX12_159 rfl (Nat.le_of_ble_eq_true rfl) (by decide) dX12_notions_37 rfl (fun z hz => c_X12_in ((x3).toInt64) (0 : Int64) (100 : Int64) z3.2 z hz) (fun z4 _ => ?_)
        show mk_O _ _ _ _ (.int z4.1 :: []) _ _
        refine xo_if_eq (tgt := 54) dX12_notions_40 rfl (fun _ => ?_) (fun _ => ?_)
        · refine xo_iconst kc_m1 dX12_notions_54 ?_
          exact xo_iret dX12_notions_55 rfl
        · refine xo_iload rfl dX12_notions_43 ?_
          refine xo_i2l dX12_notions_45 ?_
          refine xo_lconst kl_0 dX12_notions_46 ?_
          refine xo_lconst kl_1 dX12_notions_47 ?_
          refine mk_O.callS (N := M_X12_in) (As := [.long ((x4).toInt64), .long (0 : Int64), .long (1 : Int64)]) (S := []) md_X12_in ms_X12_in lk_RX12_159 rfl (Nat.le_of_ble_eq_true rfl) (by decide) dX12_notions_48 rfl (fun z hz => c_X12_in ((x4).toInt64) (0 : Int64) (1 : Int64) z4.2 z hz) (fun z5 _ => ?_)
          show mk_O _ _ _ _ (.int z5.1 :: []) _ _
          refine xo_if_ne (tgt := 56) dX12_notions_51 rfl (fun _ => ?_) (fun _ => ?_)
          · refine xo_iconst kc_m1 dX12_notions_54 ?_
            exact xo_iret dX12_notions_55 rfl
          · refine xo_aload_n rfl rfl dX12_notions_56 ?_
            refine xo_geta dX12_notions_57 cl_11 fl_RX12_9 rfl (fun v6 => ?_)
            refine xo_bipush kb_8 dX12_notions_60 ?_
            refine xo_iald dX12_notions_62 (fun v7 => ?_)
            refine xo_istore (by decide) (mk_p1_v rfl rfl) dX12_notions_63 ?_
            refine xo_iload rfl dX12_notions_65 ?_
            refine xo_istore (by decide) (mk_p1_v rfl rfl) dX12_notions_67 ?_
            refine xo_aload_n rfl rfl dX12_notions_69 ?_
            refine mk_O.callV (N := M_X12_allGround) (ci := 11) (q := (RX12, TX12, 64)) (b := x0) (As1 := []) (S := []) md_X12_allGround mv_X12_allGround lk_RX12_379 rfl (Nat.le_of_ble_eq_true rfl) (by decide) dX12_notions_70 rfl rfl rfl (fun z hz => (c_X12_allGround x0 z5.2 z hz).1) (fun z hz => (c_X12_allGround x0 z5.2 z hz).2) (fun z8 _ => ?_)
            show mk_O _ _ _ _ (.int z8.1 :: []) _ _
            refine xo_istore (by decide) (mk_p1_v rfl rfl) dX12_notions_73 ?_
            refine xo_iconst kc_0 dX12_notions_75 ?_
            refine xo_istore (by decide) (mk_p1_v rfl rfl) dX12_notions_76 ?_
            refine xo_aload_n rfl rfl dX12_notions_78 ?_
            refine mk_O.callV (N := M_X12_keepsAll) (ci := 11) (q := (RX12, TX12, 64)) (b := x0) (As1 := []) (S := []) md_X12_keepsAll mv_X12_keepsAll lk_RX12_443 rfl (Nat.le_of_ble_eq_true rfl) (by decide) dX12_notions_79 rfl rfl rfl (fun z hz => (c_X12_keepsAll x0 z8.2 z hz).1) (fun z hz => (c_X12_keepsAll x0 z8.2 z hz).2) (fun z9 _ => ?_)
            show mk_O _ _ _ _ [] _ _
            refine xo_iconst kc_0 dX12_notions_82 ?_
            refine xo_istore (by decide) (mk_p1_v rfl rfl) dX12_notions_83 ?_
            exact mk_O.wk (o_X12_notions_85 mk_fu x0 x1 x2 x3 x4 v7 v7 z8.1 (0 : Int32) (0 : Int32) z9.2) ⟨rfl, ⟨rfl, ⟨rfl, ⟨rfl, ⟨rfl, ⟨rfl, ⟨rfl, ⟨rfl, ⟨rfl, ⟨rfl, trivial⟩⟩⟩⟩⟩⟩⟩⟩⟩⟩
theorem c_X12_notions (x0 : Nat) (x1 : Int32) (x2 : Int32) (x3 : Int32) (x4 : Int32) (t : mk_S) (z : Int32 × mk_S) (h : F_X12_notions x0 x1 x2 x3 x4 t = some z) : mk_is t x0 11 ∧ mk_Ct M_X12_notions [.ref x0, .int x1, .int x2, .int x3, .int x4] t (mk_wi z.1, z.2) :=
  ⟨(mk_gd_spec h).1, mk_ct (w := mk_wi) (by decide +kernel) (Nat.le_of_ble_eq_true rfl) (p_X12_notions x0 x1 x2 x3 x4 t) z (mk_gd_spec h).2⟩
def F_X12_count (x0 : Nat) (x1 : Int32) (t : mk_S) : Option (Int32 × mk_S) := mk_gd t x0 11 (if x1 = (0 : Int32) then ((mk_ga t x0 11 1).bind fun v1 => (mk_ld 100 t v1 (0 : Int32)).bind fun v2 => some (v2, t)) else (if x1 = (1 : Int32) then ((mk_ga t x0 11 1).bind fun v3 => (mk_ld 100 t v3 (1 : Int32)).bind fun v4 => some (v4, t)) else (if x1 = (2 : Int32) then ((mk_ga t x0 11 1).bind fun v5 => (mk_ld 100 t v5 (2 : Int32)).bind fun v6 => some (v6, t)) else (if x1 = (3 : Int32) then ((mk_ga t x0 11 1).bind fun v7 => (mk_ld 100 t v7 (3 : Int32)).bind fun v8 => some (v8, t)) else (if x1 = (4 : Int32) then ((mk_ga t x0 11 1).bind fun v9 => (mk_ld 100 t v9 (4 : Int32)).bind fun v10 => some (v10, t)) else (if x1 = (5 : Int32) then ((mk_gi t x0 11 31).bind fun v11 => some (v11, t)) else (if x1 = (6 : Int32) then ((mk_ga t x0 11 1).bind fun v12 => (mk_ld 100 t v12 (9 : Int32)).bind fun v13 => some (v13, t)) else (if x1 = (7 : Int32) then ((mk_ga t x0 11 1).bind fun v14 => (mk_ld 100 t v14 (5 : Int32)).bind fun v15 => some (v15, t)) else (if x1 = (8 : Int32) then ((F_X12_allGround x0 t).bind fun z16 => some (z16.1, z16.2)) else (if x1 = (9 : Int32) then ((mk_ga t x0 11 1).bind fun v17 => (mk_ld 100 t v17 (6 : Int32)).bind fun v18 => some (v18, t)) else (if x1 = (10 : Int32) then ((F_X12_allWind x0 t).bind fun z19 => some (z19.1, z19.2)) else (if x1 = (11 : Int32) then ((F_X12_allActed x0 t).bind fun z20 => some (z20.1, z20.2)) else (if x1 = (12 : Int32) then ((mk_ga t x0 11 1).bind fun v21 => (mk_ld 100 t v21 (7 : Int32)).bind fun v22 => some (v22, t)) else (if x1 = (13 : Int32) then ((mk_gi t x0 11 50).bind fun v23 => some (v23, t)) else (if x1 = (14 : Int32) then ((mk_ga t x0 11 1).bind fun v24 => (mk_ld 100 t v24 (8 : Int32)).bind fun v25 => some (v25, t)) else (if x1 = (15 : Int32) then ((mk_gi t x0 11 27).bind fun v26 => some (v26, t)) else (some ((-1 : Int32), t))))))))))))))))))
theorem p_X12_count (x0 : Nat) (x1 : Int32) (t : mk_S) : mk_O mk_wi M_X12_count 0 [some (.ref x0), some (.int x1)] [] t (if x1 = (0 : Int32) then ((mk_ga t x0 11 1).bind fun v1 => (mk_ld 100 t v1 (0 : Int32)).bind fun v2 => some (v2, t)) else (if x1 = (1 : Int32) then ((mk_ga t x0 11 1).bind fun v3 => (mk_ld 100 t v3 (1 : Int32)).bind fun v4 => some (v4, t)) else (if x1 = (2 : Int32) then ((mk_ga t x0 11 1).bind fun v5 => (mk_ld 100 t v5 (2 : Int32)).bind fun v6 => some (v6, t)) else (if x1 = (3 : Int32) then ((mk_ga t x0 11 1).bind fun v7 => (mk_ld 100 t v7 (3 : Int32)).bind fun v8 => some (v8, t)) else (if x1 = (4 : Int32) then ((mk_ga t x0 11 1).bind fun v9 => (mk_ld 100 t v9 (4 : Int32)).bind fun v10 => some (v10, t)) else (if x1 = (5 : Int32) then ((mk_gi t x0 11 31).bind fun v11 => some (v11, t)) else (if x1 = (6 : Int32) then ((mk_ga t x0 11 1).bind fun v12 => (mk_ld 100 t v12 (9 : Int32)).bind fun v13 => some (v13, t)) else (if x1 = (7 : Int32) then ((mk_ga t x0 11 1).bind fun v14 => (mk_ld 100 t v14 (5 : Int32)).bind fun v15 => some (v15, t)) else (if x1 = (8 : Int32) then ((F_X12_allGround x0 t).bind fun z16 => some (z16.1, z16.2)) else (if x1 = (9 : Int32) then ((mk_ga t x0 11 1).bind fun v17 => (mk_ld 100 t v17 (6 : Int32)).bind fun v18 => some (v18, t)) else (if x1 = (10 : Int32) then ((F_X12_allWind x0 t).bind fun z19 => some (z19.1, z19.2)) else (if x1 = (11 : Int32) then ((F_X12_allActed x0 t).bind fun z20 => some (z20.1, z20.2)) else (if x1 = (12 : Int32) then ((mk_ga t x0 11 1).bind fun v21 => (mk_ld 100 t v21 (7 : Int32)).bind fun v22 => some (v22, t)) else (if x1 = (13 : Int32) then ((mk_gi t x0 11 50).bind fun v23 => some (v23, t)) else (if x1 = (14 : Int32) then ((mk_ga t x0 11 1).bind fun v24 => (mk_ld 100 t v24 (8 : Int32)).bind fun v25 => some (v25, t)) else (if x1 = (15 : Int32) then ((mk_gi t x0 11 27).bind fun v26 => some (v26, t)) else (some ((-1 : Int32), t)))))))))))))))))) := by
  refine xo_iload_n rfl rfl dX12_count_0 ?_
  refine mk_O.cs (fun n0 => ?_) (fun n0 => ?_)
  · refine xo_tab (kx := 0) (j := 0) n0 dX12_count_1 (by decide) (by decide) (by decide) rfl rfl ?_
    refine xo_aload_n rfl rfl dX12_count_80 ?_
    refine xo_geta dX12_count_81 cl_11 fl_RX12_9 rfl (fun v1 => ?_)
    refine xo_iconst kc_0 dX12_count_84 ?_
    refine xo_iald dX12_count_85 (fun v2 => ?_)
    exact xo_iret dX12_count_86 rfl
  · refine mk_O.cs (fun n1 => ?_) (fun n1 => ?_)
    · refine xo_tab (kx := 1) (j := 1) n1 dX12_count_1 (by decide) (by decide) (by decide) rfl rfl ?_
      refine xo_aload_n rfl rfl dX12_count_87 ?_
      refine xo_geta dX12_count_88 cl_11 fl_RX12_9 rfl (fun v3 => ?_)
      refine xo_iconst kc_1 dX12_count_91 ?_
      refine xo_iald dX12_count_92 (fun v4 => ?_)
      exact xo_iret dX12_count_93 rfl
    · refine mk_O.cs (fun n2 => ?_) (fun n2 => ?_)
      · refine xo_tab (kx := 2) (j := 2) n2 dX12_count_1 (by decide) (by decide) (by decide) rfl rfl ?_
        refine xo_aload_n rfl rfl dX12_count_94 ?_
        refine xo_geta dX12_count_95 cl_11 fl_RX12_9 rfl (fun v5 => ?_)
        refine xo_iconst kc_2 dX12_count_98 ?_
        refine xo_iald dX12_count_99 (fun v6 => ?_)
        exact xo_iret dX12_count_100 rfl
      · refine mk_O.cs (fun n3 => ?_) (fun n3 => ?_)
        · refine xo_tab (kx := 3) (j := 3) n3 dX12_count_1 (by decide) (by decide) (by decide) rfl rfl ?_
          refine xo_aload_n rfl rfl dX12_count_101 ?_
          refine xo_geta dX12_count_102 cl_11 fl_RX12_9 rfl (fun v7 => ?_)
          refine xo_iconst kc_3 dX12_count_105 ?_
          refine xo_iald dX12_count_106 (fun v8 => ?_)
          exact xo_iret dX12_count_107 rfl
        · refine mk_O.cs (fun n4 => ?_) (fun n4 => ?_)
          · refine xo_tab (kx := 4) (j := 4) n4 dX12_count_1 (by decide) (by decide) (by decide) rfl rfl ?_
            refine xo_aload_n rfl rfl dX12_count_108 ?_
            refine xo_geta dX12_count_109 cl_11 fl_RX12_9 rfl (fun v9 => ?_)
            refine xo_iconst kc_4 dX12_count_112 ?_
            refine xo_iald dX12_count_113 (fun v10 => ?_)
            exact xo_iret dX12_count_114 rfl
          · refine mk_O.cs (fun n5 => ?_) (fun n5 => ?_)
            · refine xo_tab (kx := 5) (j := 5) n5 dX12_count_1 (by decide) (by decide) (by decide) rfl rfl ?_
              refine xo_aload_n rfl rfl dX12_count_115 ?_
              refine xo_geti dX12_count_116 cl_11 fl_RX12_338 rfl (fun v11 => ?_)
              exact xo_iret dX12_count_119 rfl
            · refine mk_O.cs (fun n6 => ?_) (fun n6 => ?_)
              · refine xo_tab (kx := 6) (j := 6) n6 dX12_count_1 (by decide) (by decide) (by decide) rfl rfl ?_
                refine xo_aload_n rfl rfl dX12_count_120 ?_
                refine xo_geta dX12_count_121 cl_11 fl_RX12_9 rfl (fun v12 => ?_)
                refine xo_bipush kb_9 dX12_count_124 ?_
                refine xo_iald dX12_count_126 (fun v13 => ?_)
                exact xo_iret dX12_count_127 rfl
              · refine mk_O.cs (fun n7 => ?_) (fun n7 => ?_)
                · refine xo_tab (kx := 7) (j := 7) n7 dX12_count_1 (by decide) (by decide) (by decide) rfl rfl ?_
                  refine xo_aload_n rfl rfl dX12_count_128 ?_
                  refine xo_geta dX12_count_129 cl_11 fl_RX12_9 rfl (fun v14 => ?_)
                  refine xo_iconst kc_5 dX12_count_132 ?_
                  refine xo_iald dX12_count_133 (fun v15 => ?_)
                  exact xo_iret dX12_count_134 rfl
                · refine mk_O.cs (fun n8 => ?_) (fun n8 => ?_)
                  · refine xo_tab (kx := 8) (j := 8) n8 dX12_count_1 (by decide) (by decide) (by decide) rfl rfl ?_
                    refine xo_aload_n rfl rfl dX12_count_135 ?_
                    refine mk_O.callV (N := M_X12_allGround) (ci := 11) (q := (RX12, TX12, 64)) (b := x0) (As1 := []) (S := []) md_X12_allGround mv_X12_allGround lk_RX12_379 rfl (Nat.le_of_ble_eq_true rfl) (by decide) dX12_count_136 rfl rfl rfl (fun z hz => (c_X12_allGround x0 t z hz).1) (fun z hz => (c_X12_allGround x0 t z hz).2) (fun z16 _ => ?_)
                    show mk_O _ _ _ _ (.int z16.1 :: []) _ _
                    exact xo_iret dX12_count_139 rfl
                  · refine mk_O.cs (fun n9 => ?_) (fun n9 => ?_)
                    · refine xo_tab (kx := 9) (j := 9) n9 dX12_count_1 (by decide) (by decide) (by decide) rfl rfl ?_
                      refine xo_aload_n rfl rfl dX12_count_140 ?_
                      refine xo_geta dX12_count_141 cl_11 fl_RX12_9 rfl (fun v17 => ?_)
                      refine xo_bipush kb_6 dX12_count_144 ?_
                      refine xo_iald dX12_count_146 (fun v18 => ?_)
                      exact xo_iret dX12_count_147 rfl
                    · refine mk_O.cs (fun n10 => ?_) (fun n10 => ?_)
                      · refine xo_tab (kx := 10) (j := 10) n10 dX12_count_1 (by decide) (by decide) (by decide) rfl rfl ?_
                        refine xo_aload_n rfl rfl dX12_count_148 ?_
                        refine mk_O.callV (N := M_X12_allWind) (ci := 11) (q := (RX12, TX12, 64)) (b := x0) (As1 := []) (S := []) md_X12_allWind mv_X12_allWind lk_RX12_478 rfl (Nat.le_of_ble_eq_true rfl) (by decide) dX12_count_149 rfl rfl rfl (fun z hz => (c_X12_allWind x0 t z hz).1) (fun z hz => (c_X12_allWind x0 t z hz).2) (fun z19 _ => ?_)
                        show mk_O _ _ _ _ (.int z19.1 :: []) _ _
                        exact xo_iret dX12_count_152 rfl
                      · refine mk_O.cs (fun n11 => ?_) (fun n11 => ?_)
                        · refine xo_tab (kx := 11) (j := 11) n11 dX12_count_1 (by decide) (by decide) (by decide) rfl rfl ?_
                          refine xo_aload_n rfl rfl dX12_count_153 ?_
                          refine mk_O.callV (N := M_X12_allActed) (ci := 11) (q := (RX12, TX12, 64)) (b := x0) (As1 := []) (S := []) md_X12_allActed mv_X12_allActed lk_RX12_490 rfl (Nat.le_of_ble_eq_true rfl) (by decide) dX12_count_154 rfl rfl rfl (fun z hz => (c_X12_allActed x0 t z hz).1) (fun z hz => (c_X12_allActed x0 t z hz).2) (fun z20 _ => ?_)
                          show mk_O _ _ _ _ (.int z20.1 :: []) _ _
                          exact xo_iret dX12_count_157 rfl
                        · refine mk_O.cs (fun n12 => ?_) (fun n12 => ?_)
                          · refine xo_tab (kx := 12) (j := 12) n12 dX12_count_1 (by decide) (by decide) (by decide) rfl rfl ?_
                            refine xo_aload_n rfl rfl dX12_count_158 ?_
                            refine xo_geta dX12_count_159 cl_11 fl_RX12_9 rfl (fun v21 => ?_)
                            refine xo_bipush kb_7 dX12_count_162 ?_
                            refine xo_iald dX12_count_164 (fun v22 => ?_)
                            exact xo_iret dX12_count_165 rfl
                          · refine mk_O.cs (fun n13 => ?_) (fun n13 => ?_)
                            · refine xo_tab (kx := 13) (j := 13) n13 dX12_count_1 (by decide) (by decide) (by decide) rfl rfl ?_
                              refine xo_aload_n rfl rfl dX12_count_166 ?_
                              refine xo_geti dX12_count_167 cl_11 fl_RX12_325 rfl (fun v23 => ?_)
                              exact xo_iret dX12_count_170 rfl
                            · refine mk_O.cs (fun n14 => ?_) (fun n14 => ?_)
                              · refine xo_tab (kx := 14) (j := 14) n14 dX12_count_1 (by decide) (by decide) (by decide) rfl rfl ?_
                                refine xo_aload_n rfl rfl dX12_count_171 ?_
                                refine xo_geta dX12_count_172 cl_11 fl_RX12_9 rfl (fun v24 => ?_)
                                refine xo_bipush kb_8 dX12_count_175 ?_
                                refine xo_iald dX12_count_177 (fun v25 => ?_)
                                exact xo_iret dX12_count_178 rfl
                              · refine mk_O.cs (fun n15 => ?_) (fun n15 => ?_)
                                · refine xo_tab (kx := 15) (j := 15) n15 dX12_count_1 (by decide) (by decide) (by decide) rfl rfl ?_
                                  refine xo_aload_n rfl rfl dX12_count_179 ?_
                                  refine xo_geti dX12_count_180 cl_11 fl_RX12_163 rfl (fun v26 => ?_)
                                  exact xo_iret dX12_count_183 rfl
                                · refine xo_tabo dX12_count_1 (by have q0 := lv_neT (a := 0) n0 (by decide); have q1 := lv_neT (a := 1) n1 (by decide); have q2 := lv_neT (a := 2) n2 (by decide); have q3 := lv_neT (a := 3) n3 (by decide); have q4 := lv_neT (a := 4) n4 (by decide); have q5 := lv_neT (a := 5) n5 (by decide); have q6 := lv_neT (a := 6) n6 (by decide); have q7 := lv_neT (a := 7) n7 (by decide); have q8 := lv_neT (a := 8) n8 (by decide); have q9 := lv_neT (a := 9) n9 (by decide); have q10 := lv_neT (a := 10) n10 (by decide); have q11 := lv_neT (a := 11) n11 (by decide); have q12 := lv_neT (a := 12) n12 (by decide); have q13 := lv_neT (a := 13) n13 (by decide); have q14 := lv_neT (a := 14) n14 (by decide); have q15 := lv_neT (a := 15) n15 (by decide); omega) rfl ?_
                                  refine xo_iconst kc_m1 dX12_count_184 ?_
                                  exact xo_iret dX12_count_185 rfl
theorem c_X12_count (x0 : Nat) (x1 : Int32) (t : mk_S) (z : Int32 × mk_S) (h : F_X12_count x0 x1 t = some z) : mk_is t x0 11 ∧ mk_Ct M_X12_count [.ref x0, .int x1] t (mk_wi z.1, z.2) :=
  ⟨(mk_gd_spec h).1, mk_ct (w := mk_wi) (by decide +kernel) (Nat.le_of_ble_eq_true rfl) (p_X12_count x0 x1 t) z (mk_gd_spec h).2⟩
def F_X12_image (x0 : Nat) (x1 : Int32) (t : mk_S) : Option (Int32 × mk_S) := mk_gd t x0 11 ((F_X12_in ((x1).toInt64) (0 : Int64) (3 : Int64) t).bind fun z1 => if z1.1 = 0 then (some ((-1 : Int32), z1.2)) else ((mk_ga z1.2 x0 11 61).bind fun v2 => (mk_st 103 z1.2 v2 x1 (1 : Int32)).bind fun t3 => (F_X12_carriesAll x0 x1 (0 : Int32) t3).bind fun z4 => (mk_ga z4.2 x0 11 1).bind fun v5 => (mk_ld 100 z4.2 v5 (5 : Int32)).bind fun v6 => some (v6, z4.2)))
theorem p_X12_image (x0 : Nat) (x1 : Int32) (t : mk_S) : mk_O mk_wi M_X12_image 0 [some (.ref x0), some (.int x1)] [] t ((F_X12_in ((x1).toInt64) (0 : Int64) (3 : Int64) t).bind fun z1 => if z1.1 = 0 then (some ((-1 : Int32), z1.2)) else ((mk_ga z1.2 x0 11 61).bind fun v2 => (mk_st 103 z1.2 v2 x1 (1 : Int32)).bind fun t3 => (F_X12_carriesAll x0 x1 (0 : Int32) t3).bind fun z4 => (mk_ga z4.2 x0 11 1).bind fun v5 => (mk_ld 100 z4.2 v5 (5 : Int32)).bind fun v6 => some (v6, z4.2))) := by
  refine xo_iload_n rfl rfl dX12_image_0 ?_
  refine xo_i2l dX12_image_1 ?_
  refine xo_lconst kl_0 dX12_image_2 ?_
  refine xo_ldc2 (v := 3) (mk_w7 (i := 183) rfl rfl) dX12_image_3 ?_
  refine mk_O.callS (N := M_X12_in) (As := [.long ((x1).toInt64), .long (0 : Int64), .long (3 : Int64)]) (S := []) md_X12_in ms_X12_in lk_RX12_159 rfl (Nat.le_of_ble_eq_true rfl) (by decide) dX12_image_6 rfl (fun z hz => c_X12_in ((x1).toInt64) (0 : Int64) (3 : Int64) t z hz) (fun z1 _ => ?_)
  show mk_O _ _ _ _ (.int z1.1 :: []) _ _
  refine xo_if_ne (tgt := 14) dX12_image_9 rfl (fun _ => ?_) (fun _ => ?_)
  · refine xo_iconst kc_m1 dX12_image_12 ?_
    exact xo_iret dX12_image_13 rfl
  · refine xo_aload_n rfl rfl dX12_image_14 ?_
    refine xo_geta dX12_image_15 cl_11 fl_RX12_148 rfl (fun v2 => ?_)
    refine xo_iload_n rfl rfl dX12_image_18 ?_
    refine xo_iconst kc_1 dX12_image_19 ?_
    refine xo_zast dX12_image_20 (fun t3 => ?_)
    refine xo_aload_n rfl rfl dX12_image_21 ?_
    refine xo_iload_n rfl rfl dX12_image_22 ?_
    refine xo_iconst kc_0 dX12_image_23 ?_
    refine mk_O.callV (N := M_X12_carriesAll) (ci := 11) (q := (RX12, TX12, 64)) (b := x0) (As1 := [.int x1, .int (0 : Int32)]) (S := []) md_X12_carriesAll mv_X12_carriesAll lk_RX12_438 rfl (Nat.le_of_ble_eq_true rfl) (by decide) dX12_image_24 rfl rfl rfl (fun z hz => (c_X12_carriesAll x0 x1 (0 : Int32) t3 z hz).1) (fun z hz => (c_X12_carriesAll x0 x1 (0 : Int32) t3 z hz).2) (fun z4 _ => ?_)
    show mk_O _ _ _ _ [] _ _
    refine xo_aload_n rfl rfl dX12_image_27 ?_
    refine xo_geta dX12_image_28 cl_11 fl_RX12_9 rfl (fun v5 => ?_)
    refine xo_iconst kc_5 dX12_image_31 ?_
    refine xo_iald dX12_image_32 (fun v6 => ?_)
    exact xo_iret dX12_image_33 rfl
theorem c_X12_image (x0 : Nat) (x1 : Int32) (t : mk_S) (z : Int32 × mk_S) (h : F_X12_image x0 x1 t = some z) : mk_is t x0 11 ∧ mk_Ct M_X12_image [.ref x0, .int x1] t (mk_wi z.1, z.2) :=
  ⟨(mk_gd_spec h).1, mk_ct (w := mk_wi) (by decide +kernel) (Nat.le_of_ble_eq_true rfl) (p_X12_image x0 x1 t) z (mk_gd_spec h).2⟩
def F_X12_back (x0 : Nat) (x1 : Int32) (t : mk_S) : Option (Int32 × mk_S) := mk_gd t x0 11 ((F_X12_in ((x1).toInt64) (0 : Int64) (3 : Int64) t).bind fun z1 => if z1.1 = 0 then (some ((-1 : Int32), z1.2)) else ((mk_ga z1.2 x0 11 61).bind fun v2 => (mk_ld 103 z1.2 v2 x1).bind fun v3 => if v3 = 0 then (some ((-1 : Int32), z1.2)) else ((F_X12_carriesAll x0 x1 (1 : Int32) z1.2).bind fun z4 => (mk_ga z4.2 x0 11 1).bind fun v5 => (mk_ld 100 z4.2 v5 (5 : Int32)).bind fun v6 => some (v6, z4.2))))
theorem p_X12_back (x0 : Nat) (x1 : Int32) (t : mk_S) : mk_O mk_wi M_X12_back 0 [some (.ref x0), some (.int x1)] [] t ((F_X12_in ((x1).toInt64) (0 : Int64) (3 : Int64) t).bind fun z1 => if z1.1 = 0 then (some ((-1 : Int32), z1.2)) else ((mk_ga z1.2 x0 11 61).bind fun v2 => (mk_ld 103 z1.2 v2 x1).bind fun v3 => if v3 = 0 then (some ((-1 : Int32), z1.2)) else ((F_X12_carriesAll x0 x1 (1 : Int32) z1.2).bind fun z4 => (mk_ga z4.2 x0 11 1).bind fun v5 => (mk_ld 100 z4.2 v5 (5 : Int32)).bind fun v6 => some (v6, z4.2)))) := by
  refine xo_iload_n rfl rfl dX12_back_0 ?_
  refine xo_i2l dX12_back_1 ?_
  refine xo_lconst kl_0 dX12_back_2 ?_
  refine xo_ldc2 (v := 3) (mk_w7 (i := 183) rfl rfl) dX12_back_3 ?_
  refine mk_O.callS (N := M_X12_in) (As := [.long ((x1).toInt64), .long (0 : Int64), .long (3 : Int64)]) (S := []) md_X12_in ms_X12_in lk_RX12_159 rfl (Nat.le_of_ble_eq_true rfl) (by decide) dX12_back_6 rfl (fun z hz => c_X12_in ((x1).toInt64) (0 : Int64) (3 : Int64) t z hz) (fun z1 _ => ?_)
  show mk_O _ _ _ _ (.int z1.1 :: []) _ _
  refine xo_if_eq (tgt := 21) dX12_back_9 rfl (fun _ => ?_) (fun _ => ?_)
  · refine xo_iconst kc_m1 dX12_back_21 ?_
    exact xo_iret dX12_back_22 rfl
  · refine xo_aload_n rfl rfl dX12_back_12 ?_
    refine xo_geta dX12_back_13 cl_11 fl_RX12_148 rfl (fun v2 => ?_)
    refine xo_iload_n rfl rfl dX12_back_16 ?_
    refine xo_zald dX12_back_17 (fun v3 => ?_)
    refine xo_if_ne (tgt := 23) dX12_back_18 rfl (fun _ => ?_) (fun _ => ?_)
    · refine xo_iconst kc_m1 dX12_back_21 ?_
      exact xo_iret dX12_back_22 rfl
    · refine xo_aload_n rfl rfl dX12_back_23 ?_
      refine xo_iload_n rfl rfl dX12_back_24 ?_
      refine xo_iconst kc_1 dX12_back_25 ?_
      refine mk_O.callV (N := M_X12_carriesAll) (ci := 11) (q := (RX12, TX12, 64)) (b := x0) (As1 := [.int x1, .int (1 : Int32)]) (S := []) md_X12_carriesAll mv_X12_carriesAll lk_RX12_438 rfl (Nat.le_of_ble_eq_true rfl) (by decide) dX12_back_26 rfl rfl rfl (fun z hz => (c_X12_carriesAll x0 x1 (1 : Int32) z1.2 z hz).1) (fun z hz => (c_X12_carriesAll x0 x1 (1 : Int32) z1.2 z hz).2) (fun z4 _ => ?_)
      show mk_O _ _ _ _ [] _ _
      refine xo_aload_n rfl rfl dX12_back_29 ?_
      refine xo_geta dX12_back_30 cl_11 fl_RX12_9 rfl (fun v5 => ?_)
      refine xo_iconst kc_5 dX12_back_33 ?_
      refine xo_iald dX12_back_34 (fun v6 => ?_)
      exact xo_iret dX12_back_35 rfl
theorem c_X12_back (x0 : Nat) (x1 : Int32) (t : mk_S) (z : Int32 × mk_S) (h : F_X12_back x0 x1 t = some z) : mk_is t x0 11 ∧ mk_Ct M_X12_back [.ref x0, .int x1] t (mk_wi z.1, z.2) :=
  ⟨(mk_gd_spec h).1, mk_ct (w := mk_wi) (by decide +kernel) (Nat.le_of_ble_eq_true rfl) (p_X12_back x0 x1 t) z (mk_gd_spec h).2⟩
