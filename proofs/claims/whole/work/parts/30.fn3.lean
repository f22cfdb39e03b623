def F_X8_init (x0 : Nat) (t : mk_S) : Option (Unit × mk_S) := mk_gd t x0 7 ((mk_na 100 t (400 : Int32)).bind fun z1 => (mk_pa z1.2 x0 7 0 z1.1).bind fun t2 => if z1.1 < z1.2.1.length then (mk_pi t2 x0 7 1 (0 : Int32)).bind fun t3 => (mk_pi t3 x0 7 2 (0 : Int32)).bind fun t4 => (mk_pi t4 x0 7 3 (0 : Int32)).bind fun t5 => (mk_pi t5 x0 7 4 (-1 : Int32)).bind fun t6 => (mk_pi t6 x0 7 5 (0 : Int32)).bind fun t7 => (mk_pi t7 x0 7 6 (0 : Int32)).bind fun t8 => some ((), t8) else none)
theorem p_X8_init (x0 : Nat) (t : mk_S) : mk_O mk_wu M_X8_init 0 [some (.ref x0)] [] t ((mk_na 100 t (400 : Int32)).bind fun z1 => (mk_pa z1.2 x0 7 0 z1.1).bind fun t2 => if z1.1 < z1.2.1.length then (mk_pi t2 x0 7 1 (0 : Int32)).bind fun t3 => (mk_pi t3 x0 7 2 (0 : Int32)).bind fun t4 => (mk_pi t4 x0 7 3 (0 : Int32)).bind fun t5 => (mk_pi t5 x0 7 4 (-1 : Int32)).bind fun t6 => (mk_pi t6 x0 7 5 (0 : Int32)).bind fun t7 => (mk_pi t7 x0 7 6 (0 : Int32)).bind fun t8 => some ((), t8) else none) := by
  refine xo_aload_n rfl rfl dX8_init_0 ?_
  refine xo_obj lo_RX8_3 (by decide) (Nat.le_of_ble_eq_true rfl) dX8_init_1 ?_
  refine xo_aload_n rfl rfl dX8_init_4 ?_
  refine xo_sipush ks_400 dX8_init_5 ?_
  refine xo_newai (mk_w1 (i := 65) rfl rfl) dX8_init_8 (fun z1 _ => ?_)
  refine xo_puta dX8_init_10 cl_7 ⟨RX8, TX8, 7, rfl, by decide, (mk_w1 (i := 36) rfl rfl)⟩ rfl ft_7_0 (fun _ => rfl) (fun _ => rfl) rfl rfl (fun t2 => ?_)
  refine xo_aload_n rfl rfl dX8_init_13 ?_
  refine xo_iconst kc_0 dX8_init_14 ?_
  refine xo_puti dX8_init_15 cl_7 fl_RX8_15 rfl ft_7_1 (fun t3 => ?_)
  refine xo_aload_n rfl rfl dX8_init_18 ?_
  refine xo_iconst kc_0 dX8_init_19 ?_
  refine xo_puti dX8_init_20 cl_7 fl_RX8_19 rfl ft_7_2 (fun t4 => ?_)
  refine xo_aload_n rfl rfl dX8_init_23 ?_
  refine xo_iconst kc_0 dX8_init_24 ?_
  refine xo_puti dX8_init_25 cl_7 fl_RX8_22 rfl ft_7_3 (fun t5 => ?_)
  refine xo_aload_n rfl rfl dX8_init_28 ?_
  refine xo_iconst kc_m1 dX8_init_29 ?_
  refine xo_puti dX8_init_30 cl_7 fl_RX8_25 rfl ft_7_4 (fun t6 => ?_)
  refine xo_aload_n rfl rfl dX8_init_33 ?_
  refine xo_iconst kc_0 dX8_init_34 ?_
  refine xo_puti dX8_init_35 cl_7 fl_RX8_28 rfl ft_7_5 (fun t7 => ?_)
  refine xo_aload_n rfl rfl dX8_init_38 ?_
  refine xo_iconst kc_0 dX8_init_39 ?_
  refine xo_puti dX8_init_40 cl_7 fl_RX8_31 rfl ft_7_6 (fun t8 => ?_)
  exact xo_vret dX8_init_43 rfl
theorem c_X8_init (x0 : Nat) (t : mk_S) (z : Unit × mk_S) (h : F_X8_init x0 t = some z) : mk_is t x0 7 ∧ mk_Ct M_X8_init [.ref x0] t (mk_wu z.1, z.2) :=
  ⟨(mk_gd_spec h).1, mk_ct (w := mk_wu) (by decide +kernel) (Nat.le_of_ble_eq_true rfl) (p_X8_init x0 t) z (mk_gd_spec h).2⟩
def B_X8_add_43 (k3 : Nat → Int32 → Int32 → mk_S → Option (Unit × mk_S)) (x0 : Nat) (x1 : Int32) (x2 : Int32) (t : mk_S) : Option (Unit × mk_S) := k3 x0 x1 (x2 + (-8 : Int32)) t
def B_X8_add_3 : Nat → Nat → Int32 → Int32 → mk_S → Option (Unit × mk_S)
  | 0, _, _, _, _ => none
  | n + 1, x0, x1, x2, t => if x2 < 0 then (some ((), t)) else ((mk_gi t x0 7 1).bind fun v1 => if (400 : Int32) ≤ v1 then (B_X8_add_43 (B_X8_add_3 n) x0 x1 x2 t) else ((mk_ga t x0 7 0).bind fun v2 => (mk_gi t x0 7 1).bind fun v3 => (mk_st 100 t v2 v3 (((x1.toUInt32 >>> (x2.toUInt32 &&& Int32.toUInt32 31)).toInt32) &&& (255 : Int32))).bind fun t4 => (mk_gi t4 x0 7 1).bind fun v5 => (mk_pi t4 x0 7 1 (v5 + (1 : Int32))).bind fun t6 => B_X8_add_43 (B_X8_add_3 n) x0 x1 x2 t6))
def F_X8_add (x0 : Nat) (x1 : Int32) (t : mk_S) : Option (Unit × mk_S) := mk_gd t x0 7 (B_X8_add_3 mk_fu x0 x1 (24 : Int32) t)
theorem o_X8_add_43 (k3 : Nat → Int32 → Int32 → mk_S → Option (Unit × mk_S)) (h3 : ∀ (x0 : Nat) (x1 : Int32) (x2 : Int32) (t : mk_S), mk_O mk_wu M_X8_add 3 [some (.ref x0), some (.int x1), some (.int x2)] [] t (k3 x0 x1 x2 t)) (x0 : Nat) (x1 : Int32) (x2 : Int32) (t : mk_S) : mk_O mk_wu M_X8_add 43 [some (.ref x0), some (.int x1), some (.int x2)] [] t (B_X8_add_43 k3 x0 x1 x2 t) := by
  unfold B_X8_add_43
  refine xo_iinc rfl (congrArg _ kc_m8) (by decide) (mk_p1_v rfl rfl) dX8_add_43 ?_
  refine xo_goto (tgt := 3) dX8_add_46 rfl ?_
  exact mk_O.wk (h3 x0 x1 (x2 + (-8 : Int32)) t) ⟨rfl, ⟨rfl, ⟨rfl, trivial⟩⟩⟩
theorem o_X8_add_3 : ∀ (n : Nat) (x0 : Nat) (x1 : Int32) (x2 : Int32) (t : mk_S), mk_O mk_wu M_X8_add 3 [some (.ref x0), some (.int x1), some (.int x2)] [] t (B_X8_add_3 n x0 x1 x2 t) := by
  intro n
  induction n with
  | zero =>
    intro x0 x1 x2 t
    exact mk_O.none
  | succ n ih =>
    intro x0 x1 x2 t
    rw [B_X8_add_3]
    refine xo_iload_n rfl rfl dX8_add_3 ?_
    refine xo_if_lt (tgt := 49) dX8_add_4 rfl (fun _ => ?_) (fun _ => ?_)
    · exact xo_vret dX8_add_49 rfl
    · refine xo_aload_n rfl rfl dX8_add_7 ?_
      refine xo_geti dX8_add_8 cl_7 fl_RX8_15 rfl (fun v1 => ?_)
      refine xo_sipush ks_400 dX8_add_11 ?_
      refine xo_icmp_ge (tgt := 43) dX8_add_14 rfl (fun _ => ?_) (fun _ => ?_)
      · exact mk_O.wk (o_X8_add_43 _ ih x0 x1 x2 t) ⟨rfl, ⟨rfl, ⟨rfl, trivial⟩⟩⟩
      · refine xo_aload_n rfl rfl dX8_add_17 ?_
        refine xo_geta dX8_add_18 cl_7 fl_RX8_9 rfl (fun v2 => ?_)
        refine xo_aload_n rfl rfl dX8_add_21 ?_
        refine xo_geti dX8_add_22 cl_7 fl_RX8_15 rfl (fun v3 => ?_)
        refine xo_iload_n rfl rfl dX8_add_25 ?_
        refine xo_iload_n rfl rfl dX8_add_26 ?_
        refine xo_iushr dX8_add_27 ?_
        refine xo_sipush ks_255 dX8_add_28 ?_
        refine xo_iand dX8_add_31 ?_
        refine xo_iast dX8_add_32 (fun t4 => ?_)
        refine xo_aload_n rfl rfl dX8_add_33 ?_
        refine xo_dup rfl dX8_add_34 ?_
        refine xo_geti dX8_add_35 cl_7 fl_RX8_15 rfl (fun v5 => ?_)
        refine xo_iconst kc_1 dX8_add_38 ?_
        refine xo_iadd dX8_add_39 ?_
        refine xo_puti dX8_add_40 cl_7 fl_RX8_15 rfl ft_7_1 (fun t6 => ?_)
        exact mk_O.wk (o_X8_add_43 _ ih x0 x1 x2 t6) ⟨rfl, ⟨rfl, ⟨rfl, trivial⟩⟩⟩
theorem p_X8_add (x0 : Nat) (x1 : Int32) (t : mk_S) : mk_O mk_wu M_X8_add 0 [some (.ref x0), some (.int x1), none] [] t (B_X8_add_3 mk_fu x0 x1 (24 : Int32) t) := by
  refine xo_bipush kb_24 dX8_add_0 ?_
  refine xo_istore_n rfl (by decide) (mk_p1_v rfl rfl) dX8_add_2 ?_
  exact mk_O.wk (o_X8_add_3 mk_fu x0 x1 (24 : Int32) t) ⟨rfl, ⟨rfl, ⟨rfl, trivial⟩⟩⟩
theorem c_X8_add (x0 : Nat) (x1 : Int32) (t : mk_S) (z : Unit × mk_S) (h : F_X8_add x0 x1 t = some z) : mk_is t x0 7 ∧ mk_Ct M_X8_add [.ref x0, .int x1] t (mk_wu z.1, z.2) :=
  ⟨(mk_gd_spec h).1, mk_ct (w := mk_wu) (by decide +kernel) (Nat.le_of_ble_eq_true rfl) (p_X8_add x0 x1 t) z (mk_gd_spec h).2⟩
def F_X8_clear (x0 : Nat) (t : mk_S) : Option (Unit × mk_S) := mk_gd t x0 7 ((mk_pi t x0 7 1 (0 : Int32)).bind fun t1 => some ((), t1))
theorem p_X8_clear (x0 : Nat) (t : mk_S) : mk_O mk_wu M_X8_clear 0 [some (.ref x0)] [] t ((mk_pi t x0 7 1 (0 : Int32)).bind fun t1 => some ((), t1)) := by
  refine xo_aload_n rfl rfl dX8_clear_0 ?_
  refine xo_iconst kc_0 dX8_clear_1 ?_
  refine xo_puti dX8_clear_2 cl_7 fl_RX8_15 rfl ft_7_1 (fun t1 => ?_)
  exact xo_vret dX8_clear_5 rfl
theorem c_X8_clear (x0 : Nat) (t : mk_S) (z : Unit × mk_S) (h : F_X8_clear x0 t = some z) : mk_is t x0 7 ∧ mk_Ct M_X8_clear [.ref x0] t (mk_wu z.1, z.2) :=
  ⟨(mk_gd_spec h).1, mk_ct (w := mk_wu) (by decide +kernel) (Nat.le_of_ble_eq_true rfl) (p_X8_clear x0 t) z (mk_gd_spec h).2⟩
def F_X10_begin (x0 : Nat) (x1 : Nat) (t : mk_S) : Option (Unit × mk_S) := mk_gd t x0 9 ((mk_ga t x0 9 0).bind fun v1 => (F_X3_copyFrom v1 x1 t).bind fun z2 => (mk_ga z2.2 x0 9 1).bind fun v3 => (mk_ga z2.2 x0 9 0).bind fun v4 => (F_X7_begin v3 v4 z2.2).bind fun z5 => (mk_ga z5.2 x0 9 2).bind fun v6 => (F_X0_clear v6 z5.2).bind fun z7 => (mk_ga z7.2 x0 9 3).bind fun v8 => (mk_pi z7.2 v8 1 3 (0 : Int32)).bind fun t9 => some ((), t9))
theorem p_X10_begin (x0 : Nat) (x1 : Nat) (t : mk_S) : mk_O mk_wu M_X10_begin 0 [some (.ref x0), some (.ref x1)] [] t ((mk_ga t x0 9 0).bind fun v1 => (F_X3_copyFrom v1 x1 t).bind fun z2 => (mk_ga z2.2 x0 9 1).bind fun v3 => (mk_ga z2.2 x0 9 0).bind fun v4 => (F_X7_begin v3 v4 z2.2).bind fun z5 => (mk_ga z5.2 x0 9 2).bind fun v6 => (F_X0_clear v6 z5.2).bind fun z7 => (mk_ga z7.2 x0 9 3).bind fun v8 => (mk_pi z7.2 v8 1 3 (0 : Int32)).bind fun t9 => some ((), t9)) := by
  refine xo_aload_n rfl rfl dX10_begin_0 ?_
  refine xo_geta dX10_begin_1 cl_9 fl_RX10_12 rfl (fun v1 => ?_)
  refine xo_aload_n rfl rfl dX10_begin_4 ?_
  refine mk_O.callV (N := M_X3_copyFrom) (ci := 3) (q := (RX3, TX3, 12)) (b := v1) (As1 := [.ref x1]) (S := []) md_X3_copyFrom mv_X3_copyFrom lk_RX10_46 rfl (Nat.le_of_ble_eq_true rfl) (by decide) dX10_begin_5 rfl rfl rfl (fun z hz => (c_X3_copyFrom v1 x1 t z hz).1) (fun z hz => (c_X3_copyFrom v1 x1 t z hz).2) (fun z2 _ => ?_)
  show mk_O _ _ _ _ [] _ _
  refine xo_aload_n rfl rfl dX10_begin_8 ?_
  refine xo_geta dX10_begin_9 cl_9 fl_RX10_21 rfl (fun v3 => ?_)
  refine xo_aload_n rfl rfl dX10_begin_12 ?_
  refine xo_geta dX10_begin_13 cl_9 fl_RX10_12 rfl (fun v4 => ?_)
  refine mk_O.callV (N := M_X7_begin) (ci := 6) (q := (RX7, TX7, 9)) (b := v3) (As1 := [.ref v4]) (S := []) md_X7_begin mv_X7_begin lk_RX10_50 rfl (Nat.le_of_ble_eq_true rfl) (by decide) dX10_begin_16 rfl rfl rfl (fun z hz => (c_X7_begin v3 v4 z2.2 z hz).1) (fun z hz => (c_X7_begin v3 v4 z2.2 z hz).2) (fun z5 _ => ?_)
  show mk_O _ _ _ _ [] _ _
  refine xo_aload_n rfl rfl dX10_begin_19 ?_
  refine xo_geta dX10_begin_20 cl_9 fl_RX10_28 rfl (fun v6 => ?_)
  refine mk_O.callV (N := M_X0_clear) (ci := 0) (q := (RX0, TX0, 3)) (b := v6) (As1 := []) (S := []) md_X0_clear mv_X0_clear lk_RX10_53 rfl (Nat.le_of_ble_eq_true rfl) (by decide) dX10_begin_23 rfl rfl rfl (fun z hz => (c_X0_clear v6 z5.2 z hz).1) (fun z hz => (c_X0_clear v6 z5.2 z hz).2) (fun z7 _ => ?_)
  show mk_O _ _ _ _ [] _ _
  refine xo_aload_n rfl rfl dX10_begin_26 ?_
  refine xo_geta dX10_begin_27 cl_9 fl_RX10_35 rfl (fun v8 => ?_)
  refine xo_iconst kc_0 dX10_begin_30 ?_
  refine xo_puti dX10_begin_31 cl_1 fl_RX10_56 rfl ft_1_3 (fun t9 => ?_)
  exact xo_vret dX10_begin_34 rfl
theorem c_X10_begin (x0 : Nat) (x1 : Nat) (t : mk_S) (z : Unit × mk_S) (h : F_X10_begin x0 x1 t = some z) : mk_is t x0 9 ∧ mk_Ct M_X10_begin [.ref x0, .ref x1] t (mk_wu z.1, z.2) :=
  ⟨(mk_gd_spec h).1, mk_ct (w := mk_wu) (by decide +kernel) (Nat.le_of_ble_eq_true rfl) (p_X10_begin x0 x1 t) z (mk_gd_spec h).2⟩
def F_X10_copyFrom (x0 : Nat) (x1 : Nat) (t : mk_S) : Option (Unit × mk_S) := mk_gd t x0 9 ((mk_ga t x0 9 0).bind fun v1 => (mk_ga t x1 9 0).bind fun v2 => (F_X3_copyFrom v1 v2 t).bind fun z3 => (mk_ga z3.2 x0 9 1).bind fun v4 => (mk_ga z3.2 x1 9 1).bind fun v5 => (F_X7_copyFrom v4 v5 z3.2).bind fun z6 => (mk_ga z6.2 x0 9 2).bind fun v7 => (mk_ga z6.2 x1 9 2).bind fun v8 => (F_X0_copyFrom v7 v8 z6.2).bind fun z9 => (mk_ga z9.2 x0 9 3).bind fun v10 => (mk_ga z9.2 x1 9 3).bind fun v11 => (F_X1_copyFrom v10 v11 z9.2).bind fun z12 => (mk_gi z12.2 x1 9 4).bind fun v13 => (mk_pi z12.2 x0 9 4 v13).bind fun t14 => (mk_gi t14 x1 9 5).bind fun v15 => (mk_pi t14 x0 9 5 v15).bind fun t16 => some ((), t16))
theorem p_X10_copyFrom (x0 : Nat) (x1 : Nat) (t : mk_S) : mk_O mk_wu M_X10_copyFrom 0 [some (.ref x0), some (.ref x1)] [] t ((mk_ga t x0 9 0).bind fun v1 => (mk_ga t x1 9 0).bind fun v2 => (F_X3_copyFrom v1 v2 t).bind fun z3 => (mk_ga z3.2 x0 9 1).bind fun v4 => (mk_ga z3.2 x1 9 1).bind fun v5 => (F_X7_copyFrom v4 v5 z3.2).bind fun z6 => (mk_ga z6.2 x0 9 2).bind fun v7 => (mk_ga z6.2 x1 9 2).bind fun v8 => (F_X0_copyFrom v7 v8 z6.2).bind fun z9 => (mk_ga z9.2 x0 9 3).bind fun v10 => (mk_ga z9.2 x1 9 3).bind fun v11 => (F_X1_copyFrom v10 v11 z9.2).bind fun z12 => (mk_gi z12.2 x1 9 4).bind fun v13 => (mk_pi z12.2 x0 9 4 v13).bind fun t14 => (mk_gi t14 x1 9 5).bind fun v15 => (mk_pi t14 x0 9 5 v15).bind fun t16 => some ((), t16)) := by
  refine xo_aload_n rfl rfl dX10_copyFrom_0 ?_
  refine xo_geta dX10_copyFrom_1 cl_9 fl_RX10_12 rfl (fun v1 => ?_)
  refine xo_aload_n rfl rfl dX10_copyFrom_4 ?_
  refine xo_geta dX10_copyFrom_5 cl_9 fl_RX10_12 rfl (fun v2 => ?_)
  refine mk_O.callV (N := M_X3_copyFrom) (ci := 3) (q := (RX3, TX3, 12)) (b := v1) (As1 := [.ref v2]) (S := []) md_X3_copyFrom mv_X3_copyFrom lk_RX10_46 rfl (Nat.le_of_ble_eq_true rfl) (by decide) dX10_copyFrom_8 rfl rfl rfl (fun z hz => (c_X3_copyFrom v1 v2 t z hz).1) (fun z hz => (c_X3_copyFrom v1 v2 t z hz).2) (fun z3 _ => ?_)
  show mk_O _ _ _ _ [] _ _
  refine xo_aload_n rfl rfl dX10_copyFrom_11 ?_
  refine xo_geta dX10_copyFrom_12 cl_9 fl_RX10_21 rfl (fun v4 => ?_)
  refine xo_aload_n rfl rfl dX10_copyFrom_15 ?_
  refine xo_geta dX10_copyFrom_16 cl_9 fl_RX10_21 rfl (fun v5 => ?_)
  refine mk_O.callV (N := M_X7_copyFrom) (ci := 6) (q := (RX7, TX7, 9)) (b := v4) (As1 := [.ref v5]) (S := []) md_X7_copyFrom mv_X7_copyFrom lk_RX10_59 rfl (Nat.le_of_ble_eq_true rfl) (by decide) dX10_copyFrom_19 rfl rfl rfl (fun z hz => (c_X7_copyFrom v4 v5 z3.2 z hz).1) (fun z hz => (c_X7_copyFrom v4 v5 z3.2 z hz).2) (fun z6 _ => ?_)
  show mk_O _ _ _ _ [] _ _
  refine xo_aload_n rfl rfl dX10_copyFrom_22 ?_
  refine xo_geta dX10_copyFrom_23 cl_9 fl_RX10_28 rfl (fun v7 => ?_)
  refine xo_aload_n rfl rfl dX10_copyFrom_26 ?_
  refine xo_geta dX10_copyFrom_27 cl_9 fl_RX10_28 rfl (fun v8 => ?_)
  refine mk_O.callV (N := M_X0_copyFrom) (ci := 0) (q := (RX0, TX0, 3)) (b := v7) (As1 := [.ref v8]) (S := []) md_X0_copyFrom mv_X0_copyFrom lk_RX10_62 rfl (Nat.le_of_ble_eq_true rfl) (by decide) dX10_copyFrom_30 rfl rfl rfl (fun z hz => (c_X0_copyFrom v7 v8 z6.2 z hz).1) (fun z hz => (c_X0_copyFrom v7 v8 z6.2 z hz).2) (fun z9 _ => ?_)
  show mk_O _ _ _ _ [] _ _
  refine xo_aload_n rfl rfl dX10_copyFrom_33 ?_
  refine xo_geta dX10_copyFrom_34 cl_9 fl_RX10_35 rfl (fun v10 => ?_)
  refine xo_aload_n rfl rfl dX10_copyFrom_37 ?_
  refine xo_geta dX10_copyFrom_38 cl_9 fl_RX10_35 rfl (fun v11 => ?_)
  refine mk_O.callV (N := M_X1_copyFrom) (ci := 1) (q := (RX1, TX1, 4)) (b := v10) (As1 := [.ref v11]) (S := []) md_X1_copyFrom mv_X1_copyFrom lk_RX10_65 rfl (Nat.le_of_ble_eq_true rfl) (by decide) dX10_copyFrom_41 rfl rfl rfl (fun z hz => (c_X1_copyFrom v10 v11 z9.2 z hz).1) (fun z hz => (c_X1_copyFrom v10 v11 z9.2 z hz).2) (fun z12 _ => ?_)
  show mk_O _ _ _ _ [] _ _
  refine xo_aload_n rfl rfl dX10_copyFrom_44 ?_
  refine xo_aload_n rfl rfl dX10_copyFrom_45 ?_
  refine xo_geti dX10_copyFrom_46 cl_9 fl_RX10_39 rfl (fun v13 => ?_)
  refine xo_puti dX10_copyFrom_49 cl_9 fl_RX10_39 rfl ft_9_4 (fun t14 => ?_)
  refine xo_aload_n rfl rfl dX10_copyFrom_52 ?_
  refine xo_aload_n rfl rfl dX10_copyFrom_53 ?_
  refine xo_geti dX10_copyFrom_54 cl_9 fl_RX10_43 rfl (fun v15 => ?_)
  refine xo_puti dX10_copyFrom_57 cl_9 fl_RX10_43 rfl ft_9_5 (fun t16 => ?_)
  exact xo_vret dX10_copyFrom_60 rfl
theorem c_X10_copyFrom (x0 : Nat) (x1 : Nat) (t : mk_S) (z : Unit × mk_S) (h : F_X10_copyFrom x0 x1 t = some z) : mk_is t x0 9 ∧ mk_Ct M_X10_copyFrom [.ref x0, .ref x1] t (mk_wu z.1, z.2) :=
  ⟨(mk_gd_spec h).1, mk_ct (w := mk_wu) (by decide +kernel) (Nat.le_of_ble_eq_true rfl) (p_X10_copyFrom x0 x1 t) z (mk_gd_spec h).2⟩
def B_X11_init_76 : Nat → Nat → Int32 → mk_S → Option (Unit × mk_S)
  | 0, _, _, _ => none
  | n + 1, x0, x1, t => if (4 : Int32) ≤ x1 then (some ((), t)) else ((mk_ga t x0 10 5).bind fun v1 => (mk_new t 9 6).bind fun z2 => (F_X10_init z2.1 z2.2).bind fun z3 => (mk_sta (100 + 6) 9 z3.2 v1 x1 z2.1).bind fun t4 => B_X11_init_76 n x0 (x1 + (1 : Int32)) t4)
def F_X11_init (x0 : Nat) (t : mk_S) : Option (Unit × mk_S) := mk_gd t x0 10 ((mk_new t 7 7).bind fun z1 => (F_X8_init z1.1 z1.2).bind fun z2 => (mk_pa z2.2 x0 10 0 z1.1).bind fun t3 => if z1.1 < z2.2.1.length then (mk_new t3 5 8).bind fun z4 => (F_X6_init z4.1 z4.2).bind fun z5 => (mk_pa z5.2 x0 10 1 z4.1).bind fun t6 => if z4.1 < z5.2.1.length then (mk_new t6 3 12).bind fun z7 => (F_X3_init z7.1 z7.2).bind fun z8 => (mk_pa z8.2 x0 10 2 z7.1).bind fun t9 => if z7.1 < z8.2.1.length then (mk_new t9 2 14).bind fun z10 => (F_X2_init z10.1 z10.2).bind fun z11 => (mk_pa z11.2 x0 10 3 z10.1).bind fun t12 => if z10.1 < z11.2.1.length then (mk_ga t12 x0 10 3).bind fun v13 => (mk_ga t12 v13 2 0).bind fun v14 => (mk_pa t12 x0 10 4 v14).bind fun t15 => if v14 < t12.1.length then (mk_na (100 + 6) t15 (4 : Int32)).bind fun z16 => (mk_pa z16.2 x0 10 5 z16.1).bind fun t17 => if z16.1 < z16.2.1.length then (mk_na 103 t17 (4 : Int32)).bind fun z18 => (mk_pa z18.2 x0 10 6 z18.1).bind fun t19 => if z18.1 < z18.2.1.length then B_X11_init_76 mk_fu x0 (0 : Int32) t19 else none else none else none else none else none else none else none)
theorem o_X11_init_76 : ∀ (n : Nat) (x0 : Nat) (x1 : Int32) (t : mk_S), mk_O mk_wu M_X11_init 76 [some (.ref x0), some (.int x1)] [] t (B_X11_init_76 n x0 x1 t) := by
  intro n
  induction n with
  | zero =>
    intro x0 x1 t
    exact mk_O.none
  | succ n ih =>
    intro x0 x1 t
    rw [B_X11_init_76]
    refine xo_iload_n rfl rfl dX11_init_76 ?_
    refine xo_iconst kc_4 dX11_init_77 ?_
    refine xo_icmp_ge (tgt := 100) dX11_init_78 rfl (fun _ => ?_) (fun _ => ?_)
    · exact xo_vret dX11_init_100 rfl
    · refine xo_aload_n rfl rfl dX11_init_81 ?_
      refine xo_geta dX11_init_82 cl_10 fl_RX11_44 rfl (fun v1 => ?_)
      refine xo_iload_n rfl rfl dX11_init_85 ?_
      refine xo_new dX11_init_86 cl_9 ln_RX11_42 (fun z2 _ => ?_)
      refine xo_dup rfl dX11_init_89 ?_
      refine mk_O.callI (N := M_X10_init) (b := z2.1) (As1 := []) (S := [.ref z2.1, .int x1, .ref v1]) md_X10_init rfl rfl mi_X10_init lk_RX11_52 rfl (Nat.le_of_ble_eq_true rfl) (by decide) dX11_init_90 rfl (fun z hz => (c_X10_init z2.1 z2.2 z hz).2) (fun z3 _ => ?_)
      show mk_O _ _ _ _ [.ref z2.1, .int x1, .ref v1] _ _
      refine xo_aast (j := 6) (ci := 9) (by decide) (by decide) (rfl : vwCl[9]? = some (RX10, TX10, 6)) rfl dX11_init_93 (fun t4 => ?_)
      refine xo_iinc rfl (congrArg _ kc_1) (by decide) (mk_p1_v rfl rfl) dX11_init_94 ?_
      refine xo_goto (tgt := 76) dX11_init_97 rfl ?_
      exact mk_O.wk (ih x0 (x1 + (1 : Int32)) t4) ⟨rfl, ⟨rfl, trivial⟩⟩
theorem p_X11_init (x0 : Nat) (t : mk_S) : mk_O mk_wu M_X11_init 0 [some (.ref x0), none] [] t ((mk_new t 7 7).bind fun z1 => (F_X8_init z1.1 z1.2).bind fun z2 => (mk_pa z2.2 x0 10 0 z1.1).bind fun t3 => if z1.1 < z2.2.1.length then (mk_new t3 5 8).bind fun z4 => (F_X6_init z4.1 z4.2).bind fun z5 => (mk_pa z5.2 x0 10 1 z4.1).bind fun t6 => if z4.1 < z5.2.1.length then (mk_new t6 3 12).bind fun z7 => (F_X3_init z7.1 z7.2).bind fun z8 => (mk_pa z8.2 x0 10 2 z7.1).bind fun t9 => if z7.1 < z8.2.1.length then (mk_new t9 2 14).bind fun z10 => (F_X2_init z10.1 z10.2).bind fun z11 => (mk_pa z11.2 x0 10 3 z10.1).bind fun t12 => if z10.1 < z11.2.1.length then (mk_ga t12 x0 10 3).bind fun v13 => (mk_ga t12 v13 2 0).bind fun v14 => (mk_pa t12 x0 10 4 v14).bind fun t15 => if v14 < t12.1.length then (mk_na (100 + 6) t15 (4 : Int32)).bind fun z16 => (mk_pa z16.2 x0 10 5 z16.1).bind fun t17 => if z16.1 < z16.2.1.length then (mk_na 103 t17 (4 : Int32)).bind fun z18 => (mk_pa z18.2 x0 10 6 z18.1).bind fun t19 => if z18.1 < z18.2.1.length then B_X11_init_76 mk_fu x0 (0 : Int32) t19 else none else none else none else none else none else none else none) := by
  refine xo_aload_n rfl rfl dX11_init_0 ?_
  refine xo_obj lo_RX11_3 (by decide) (Nat.le_of_ble_eq_true rfl) dX11_init_1 ?_
  refine xo_aload_n rfl rfl dX11_init_4 ?_
  refine xo_new dX11_init_5 cl_7 ln_RX11_9 (fun z1 _ => ?_)
  refine xo_dup rfl dX11_init_8 ?_
  refine mk_O.callI (N := M_X8_init) (b := z1.1) (As1 := []) (S := [.ref z1.1, .ref x0]) md_X8_init rfl rfl mi_X8_init lk_RX11_11 rfl (Nat.le_of_ble_eq_true rfl) (by decide) dX11_init_9 rfl (fun z hz => (c_X8_init z1.1 z1.2 z hz).2) (fun z2 _ => ?_)
  show mk_O _ _ _ _ [.ref z1.1, .ref x0] _ _
  refine xo_puta dX11_init_12 cl_10 ⟨RX11, TX11, 7, rfl, by decide, (mk_w2 (i := 178) rfl rfl)⟩ rfl ft_10_0 (fun _ => rfl) (fun _ => rfl) rfl rfl (fun t3 => ?_)
  refine xo_aload_n rfl rfl dX11_init_15 ?_
  refine xo_new dX11_init_16 cl_5 ln_RX11_16 (fun z4 _ => ?_)
  refine xo_dup rfl dX11_init_19 ?_
  refine mk_O.callI (N := M_X6_init) (b := z4.1) (As1 := []) (S := [.ref z4.1, .ref x0]) md_X6_init rfl rfl mi_X6_init lk_RX11_18 rfl (Nat.le_of_ble_eq_true rfl) (by decide) dX11_init_20 rfl (fun z hz => (c_X6_init z4.1 z4.2 z hz).2) (fun z5 _ => ?_)
  show mk_O _ _ _ _ [.ref z4.1, .ref x0] _ _
  refine xo_puta dX11_init_23 cl_10 ⟨RX11, TX11, 7, rfl, by decide, (mk_w2 (i := 179) rfl rfl)⟩ rfl ft_10_1 (fun _ => rfl) (fun _ => rfl) rfl rfl (fun t6 => ?_)
  refine xo_aload_n rfl rfl dX11_init_26 ?_
  refine xo_new dX11_init_27 cl_3 ln_RX11_23 (fun z7 _ => ?_)
  refine xo_dup rfl dX11_init_30 ?_
  refine mk_O.callI (N := M_X3_init) (b := z7.1) (As1 := []) (S := [.ref z7.1, .ref x0]) md_X3_init rfl rfl mi_X3_init lk_RX11_25 rfl (Nat.le_of_ble_eq_true rfl) (by decide) dX11_init_31 rfl (fun z hz => (c_X3_init z7.1 z7.2 z hz).2) (fun z8 _ => ?_)
  show mk_O _ _ _ _ [.ref z7.1, .ref x0] _ _
  refine xo_puta dX11_init_34 cl_10 ⟨RX11, TX11, 7, rfl, by decide, (mk_w2 (i := 180) rfl rfl)⟩ rfl ft_10_2 (fun _ => rfl) (fun _ => rfl) rfl rfl (fun t9 => ?_)
  refine xo_aload_n rfl rfl dX11_init_37 ?_
  refine xo_new dX11_init_38 cl_2 ln_RX11_30 (fun z10 _ => ?_)
  refine xo_dup rfl dX11_init_41 ?_
  refine mk_O.callI (N := M_X2_init) (b := z10.1) (As1 := []) (S := [.ref z10.1, .ref x0]) md_X2_init rfl rfl mi_X2_init lk_RX11_32 rfl (Nat.le_of_ble_eq_true rfl) (by decide) dX11_init_42 rfl (fun z hz => (c_X2_init z10.1 z10.2 z hz).2) (fun z11 _ => ?_)
  show mk_O _ _ _ _ [.ref z10.1, .ref x0] _ _
  refine xo_puta dX11_init_45 cl_10 ⟨RX11, TX11, 7, rfl, by decide, (mk_w2 (i := 181) rfl rfl)⟩ rfl ft_10_3 (fun _ => rfl) (fun _ => rfl) rfl rfl (fun t12 => ?_)
  refine xo_aload_n rfl rfl dX11_init_48 ?_
  refine xo_aload_n rfl rfl dX11_init_49 ?_
  refine xo_geta dX11_init_50 cl_10 fl_RX11_33 rfl (fun v13 => ?_)
  refine xo_geta dX11_init_53 cl_2 fl_RX11_37 rfl (fun v14 => ?_)
  refine xo_puta dX11_init_56 cl_10 ⟨RX11, TX11, 7, rfl, by decide, (mk_w2 (i := 182) rfl rfl)⟩ rfl ft_10_4 (fun _ => rfl) (fun _ => rfl) rfl rfl (fun t15 => ?_)
  refine xo_aload_n rfl rfl dX11_init_59 ?_
  refine xo_iconst kc_4 dX11_init_60 ?_
  refine xo_anew (j := 6) (by decide) (by decide) rfl (mk_w2 (i := 175) rfl rfl) (fun _ h => h.2.2.1) dX11_init_61 (fun z16 _ => ?_)
  refine xo_puta dX11_init_64 cl_10 ⟨RX11, TX11, 7, rfl, by decide, (mk_w2 (i := 183) rfl rfl)⟩ rfl ft_10_5 (fun _ => rfl) (fun _ => rfl) rfl rfl (fun t17 => ?_)
  refine xo_aload_n rfl rfl dX11_init_67 ?_
  refine xo_iconst kc_4 dX11_init_68 ?_
  refine xo_newaz (mk_w2 (i := 200) rfl rfl) dX11_init_69 (fun z18 _ => ?_)
  refine xo_puta dX11_init_71 cl_10 ⟨RX11, TX11, 7, rfl, by decide, (mk_w2 (i := 184) rfl rfl)⟩ rfl ft_10_6 (fun _ => rfl) (fun _ => rfl) rfl rfl (fun t19 => ?_)
  refine xo_iconst kc_0 dX11_init_74 ?_
  refine xo_istore_n rfl (by decide) (mk_p1_v rfl rfl) dX11_init_75 ?_
  exact mk_O.wk (o_X11_init_76 mk_fu x0 (0 : Int32) t19) ⟨rfl, ⟨rfl, trivial⟩⟩
theorem c_X11_init (x0 : Nat) (t : mk_S) (z : Unit × mk_S) (h : F_X11_init x0 t = some z) : mk_is t x0 10 ∧ mk_Ct M_X11_init [.ref x0] t (mk_wu z.1, z.2) :=
  ⟨(mk_gd_spec h).1, mk_ct (w := mk_wu) (by decide +kernel) (Nat.le_of_ble_eq_true rfl) (p_X11_init x0 t) z (mk_gd_spec h).2⟩
def F_X11_feed (x0 : Nat) (x1 : Int32) (x2 : Int32) (x3 : Int32) (x4 : Int32) (x5 : Int32) (t : mk_S) : Option (Int32 × mk_S) := mk_gd t x0 10 ((mk_ga t x0 10 0).bind fun v1 => (mk_gi t v1 7 1).bind fun v2 => if (v2 + (20 : Int32)) ≤ (400 : Int32) then ((mk_ga t x0 10 0).bind fun v3 => (F_X8_add v3 x1 t).bind fun z4 => (mk_ga z4.2 x0 10 0).bind fun v5 => (F_X8_add v5 x2 z4.2).bind fun z6 => (mk_ga z6.2 x0 10 0).bind fun v7 => (F_X8_add v7 x3 z6.2).bind fun z8 => (mk_ga z8.2 x0 10 0).bind fun v9 => (F_X8_add v9 x4 z8.2).bind fun z10 => (mk_ga z10.2 x0 10 0).bind fun v11 => (F_X8_add v11 x5 z10.2).bind fun z12 => (mk_ga z12.2 x0 10 0).bind fun v13 => (mk_gi z12.2 v13 7 1).bind fun v14 => some (v14, z12.2)) else (some ((-1 : Int32), t)))
theorem p_X11_feed (x0 : Nat) (x1 : Int32) (x2 : Int32) (x3 : Int32) (x4 : Int32) (x5 : Int32) (t : mk_S) : mk_O mk_wi M_X11_feed 0 [some (.ref x0), some (.int x1), some (.int x2), some (.int x3), some (.int x4), some (.int x5)] [] t ((mk_ga t x0 10 0).bind fun v1 => (mk_gi t v1 7 1).bind fun v2 => if (v2 + (20 : Int32)) ≤ (400 : Int32) then ((mk_ga t x0 10 0).bind fun v3 => (F_X8_add v3 x1 t).bind fun z4 => (mk_ga z4.2 x0 10 0).bind fun v5 => (F_X8_add v5 x2 z4.2).bind fun z6 => (mk_ga z6.2 x0 10 0).bind fun v7 => (F_X8_add v7 x3 z6.2).bind fun z8 => (mk_ga z8.2 x0 10 0).bind fun v9 => (F_X8_add v9 x4 z8.2).bind fun z10 => (mk_ga z10.2 x0 10 0).bind fun v11 => (F_X8_add v11 x5 z10.2).bind fun z12 => (mk_ga z12.2 x0 10 0).bind fun v13 => (mk_gi z12.2 v13 7 1).bind fun v14 => some (v14, z12.2)) else (some ((-1 : Int32), t))) := by
  refine xo_aload_n rfl rfl dX11_feed_0 ?_
  refine xo_geta dX11_feed_1 cl_10 fl_RX11_12 rfl (fun v1 => ?_)
  refine xo_geti dX11_feed_4 cl_7 fl_RX11_53 rfl (fun v2 => ?_)
  refine xo_bipush kb_20 dX11_feed_7 ?_
  refine xo_iadd dX11_feed_9 ?_
  refine xo_sipush ks_400 dX11_feed_10 ?_
  refine xo_icmp_le (tgt := 18) dX11_feed_13 rfl (fun _ => ?_) (fun _ => ?_)
  · refine xo_aload_n rfl rfl dX11_feed_18 ?_
    refine xo_geta dX11_feed_19 cl_10 fl_RX11_12 rfl (fun v3 => ?_)
    refine xo_iload_n rfl rfl dX11_feed_22 ?_
    refine mk_O.callV (N := M_X8_add) (ci := 7) (q := (RX8, TX8, 7)) (b := v3) (As1 := [.int x1]) (S := []) md_X8_add mv_X8_add lk_RX11_57 rfl (Nat.le_of_ble_eq_true rfl) (by decide) dX11_feed_23 rfl rfl rfl (fun z hz => (c_X8_add v3 x1 t z hz).1) (fun z hz => (c_X8_add v3 x1 t z hz).2) (fun z4 _ => ?_)
    show mk_O _ _ _ _ [] _ _
    refine xo_aload_n rfl rfl dX11_feed_26 ?_
    refine xo_geta dX11_feed_27 cl_10 fl_RX11_12 rfl (fun v5 => ?_)
    refine xo_iload_n rfl rfl dX11_feed_30 ?_
    refine mk_O.callV (N := M_X8_add) (ci := 7) (q := (RX8, TX8, 7)) (b := v5) (As1 := [.int x2]) (S := []) md_X8_add mv_X8_add lk_RX11_57 rfl (Nat.le_of_ble_eq_true rfl) (by decide) dX11_feed_31 rfl rfl rfl (fun z hz => (c_X8_add v5 x2 z4.2 z hz).1) (fun z hz => (c_X8_add v5 x2 z4.2 z hz).2) (fun z6 _ => ?_)
    show mk_O _ _ _ _ [] _ _
    refine xo_aload_n rfl rfl dX11_feed_34 ?_
    refine xo_geta dX11_feed_35 cl_10 fl_RX11_12 rfl (fun v7 => ?_)
    refine xo_iload_n rfl rfl dX11_feed_38 ?_
    refine mk_O.callV (N := M_X8_add) (ci := 7) (q := (RX8, TX8, 7)) (b := v7) (As1 := [.int x3]) (S := []) md_X8_add mv_X8_add lk_RX11_57 rfl (Nat.le_of_ble_eq_true rfl) (by decide) dX11_feed_39 rfl rfl rfl (fun z hz => (c_X8_add v7 x3 z6.2 z hz).1) (fun z hz => (c_X8_add v7 x3 z6.2 z hz).2) (fun z8 _ => ?_)
    show mk_O _ _ _ _ [] _ _
    refine xo_aload_n rfl rfl dX11_feed_42 ?_
    refine xo_geta dX11_feed_43 cl_10 fl_RX11_12 rfl (fun v9 => ?_)
    refine xo_iload rfl dX11_feed_46 ?_
    refine mk_O.callV (N := M_X8_add) (ci := 7) (q := (RX8, TX8, 7)) (b := v9) (As1 := [.int x4]) (S := []) md_X8_add mv_X8_add lk_RX11_57 rfl (Nat.le_of_ble_eq_true rfl) (by decide) dX11_feed_48 rfl rfl rfl (fun z hz => (c_X8_add v9 x4 z8.2 z hz).1) (fun z hz => (c_X8_add v9 x4 z8.2 z hz).2) (fun z10 _ => ?_)
    show mk_O _ _ _ _ [] _ _
    refine xo_aload_n rfl rfl dX11_feed_51 ?_
    refine xo_geta dX11_feed_52 cl_10 fl_RX11_12 rfl (fun v11 => ?_)
    refine xo_iload rfl dX11_feed_55 ?_
    refine mk_O.callV (N := M_X8_add) (ci := 7) (q := (RX8, TX8, 7)) (b := v11) (As1 := [.int x5]) (S := []) md_X8_add mv_X8_add lk_RX11_57 rfl (Nat.le_of_ble_eq_true rfl) (by decide) dX11_feed_57 rfl rfl rfl (fun z hz => (c_X8_add v11 x5 z10.2 z hz).1) (fun z hz => (c_X8_add v11 x5 z10.2 z hz).2) (fun z12 _ => ?_)
    show mk_O _ _ _ _ [] _ _
    refine xo_aload_n rfl rfl dX11_feed_60 ?_
    refine xo_geta dX11_feed_61 cl_10 fl_RX11_12 rfl (fun v13 => ?_)
    refine xo_geti dX11_feed_64 cl_7 fl_RX11_53 rfl (fun v14 => ?_)
    exact xo_iret dX11_feed_67 rfl
  · refine xo_iconst kc_m1 dX11_feed_16 ?_
    exact xo_iret dX11_feed_17 rfl
theorem c_X11_feed (x0 : Nat) (x1 : Int32) (x2 : Int32) (x3 : Int32) (x4 : Int32) (x5 : Int32) (t : mk_S) (z : Int32 × mk_S) (h : F_X11_feed x0 x1 x2 x3 x4 x5 t = some z) : mk_is t x0 10 ∧ mk_Ct M_X11_feed [.ref x0, .int x1, .int x2, .int x3, .int x4, .int x5] t (mk_wi z.1, z.2) :=
  ⟨(mk_gd_spec h).1, mk_ct (w := mk_wi) (by decide +kernel) (Nat.le_of_ble_eq_true rfl) (p_X11_feed x0 x1 x2 x3 x4 x5 t) z (mk_gd_spec h).2⟩
def F_X11_end (x0 : Nat) (x1 : Int32) (t : mk_S) : Option (Int32 × mk_S) := mk_gd t x0 10 ((mk_ga t x0 10 0).bind fun v1 => (mk_gi t v1 7 1).bind fun v2 => (F_X11_within x1 (0 : Int32) v2 t).bind fun z3 => if z3.1 = 0 then (some ((-1 : Int32), z3.2)) else ((mk_ga z3.2 x0 10 0).bind fun v4 => (mk_pi z3.2 v4 7 1 x1).bind fun t5 => some (x1, t5)))
theorem p_X11_end (x0 : Nat) (x1 : Int32) (t : mk_S) : mk_O mk_wi M_X11_end 0 [some (.ref x0), some (.int x1)] [] t ((mk_ga t x0 10 0).bind fun v1 => (mk_gi t v1 7 1).bind fun v2 => (F_X11_within x1 (0 : Int32) v2 t).bind fun z3 => if z3.1 = 0 then (some ((-1 : Int32), z3.2)) else ((mk_ga z3.2 x0 10 0).bind fun v4 => (mk_pi z3.2 v4 7 1 x1).bind fun t5 => some (x1, t5))) := by
  refine xo_iload_n rfl rfl dX11_end_0 ?_
  refine xo_iconst kc_0 dX11_end_1 ?_
  refine xo_aload_n rfl rfl dX11_end_2 ?_
  refine xo_geta dX11_end_3 cl_10 fl_RX11_12 rfl (fun v1 => ?_)
  refine xo_geti dX11_end_6 cl_7 fl_RX11_53 rfl (fun v2 => ?_)
  refine mk_O.callS (N := M_X11_within) (As := [.int x1, .int (0 : Int32), .int v2]) (S := []) md_X11_within ms_X11_within lk_RX11_61 rfl (Nat.le_of_ble_eq_true rfl) (by decide) dX11_end_9 rfl (fun z hz => c_X11_within x1 (0 : Int32) v2 t z hz) (fun z3 _ => ?_)
  show mk_O _ _ _ _ (.int z3.1 :: []) _ _
  refine xo_if_ne (tgt := 17) dX11_end_12 rfl (fun _ => ?_) (fun _ => ?_)
  · refine xo_iconst kc_m1 dX11_end_15 ?_
    exact xo_iret dX11_end_16 rfl
  · refine xo_aload_n rfl rfl dX11_end_17 ?_
    refine xo_geta dX11_end_18 cl_10 fl_RX11_12 rfl (fun v4 => ?_)
    refine xo_iload_n rfl rfl dX11_end_21 ?_
    refine xo_puti dX11_end_22 cl_7 fl_RX11_53 rfl ft_7_1 (fun t5 => ?_)
    refine xo_iload_n rfl rfl dX11_end_25 ?_
    exact xo_iret dX11_end_26 rfl
theorem c_X11_end (x0 : Nat) (x1 : Int32) (t : mk_S) (z : Int32 × mk_S) (h : F_X11_end x0 x1 t = some z) : mk_is t x0 10 ∧ mk_Ct M_X11_end [.ref x0, .int x1] t (mk_wi z.1, z.2) :=
  ⟨(mk_gd_spec h).1, mk_ct (w := mk_wi) (by decide +kernel) (Nat.le_of_ble_eq_true rfl) (p_X11_end x0 x1 t) z (mk_gd_spec h).2⟩
def F_X11_plateau (x0 : Nat) (t : mk_S) : Option (Int32 × mk_S) := mk_gd t x0 10 ((mk_ga t x0 10 0).bind fun v1 => (mk_ga t x0 10 2).bind fun v2 => (F_X4_read v1 v2 t).bind fun z3 => (mk_ga z3.2 x0 10 0).bind fun v4 => (F_X8_clear v4 z3.2).bind fun z5 => if z3.1 = 0 then ((mk_ga z5.2 x0 10 4).bind fun v6 => (mk_ga z5.2 x0 10 2).bind fun v7 => (F_X10_begin v6 v7 z5.2).bind fun z8 => (mk_ga z8.2 x0 10 4).bind fun v9 => (mk_ga z8.2 v9 9 0).bind fun v10 => (mk_gi z8.2 v10 3 2).bind fun v11 => some (v11, z8.2)) else (some (((-2 : Int32) - z3.1), z5.2)))
theorem p_X11_plateau (x0 : Nat) (t : mk_S) : mk_O mk_wi M_X11_plateau 0 [some (.ref x0), none] [] t ((mk_ga t x0 10 0).bind fun v1 => (mk_ga t x0 10 2).bind fun v2 => (F_X4_read v1 v2 t).bind fun z3 => (mk_ga z3.2 x0 10 0).bind fun v4 => (F_X8_clear v4 z3.2).bind fun z5 => if z3.1 = 0 then ((mk_ga z5.2 x0 10 4).bind fun v6 => (mk_ga z5.2 x0 10 2).bind fun v7 => (F_X10_begin v6 v7 z5.2).bind fun z8 => (mk_ga z8.2 x0 10 4).bind fun v9 => (mk_ga z8.2 v9 9 0).bind fun v10 => (mk_gi z8.2 v10 3 2).bind fun v11 => some (v11, z8.2)) else (some (((-2 : Int32) - z3.1), z5.2))) := by
  refine xo_aload_n rfl rfl dX11_plateau_0 ?_
  refine xo_geta dX11_plateau_1 cl_10 fl_RX11_12 rfl (fun v1 => ?_)
  refine xo_aload_n rfl rfl dX11_plateau_4 ?_
  refine xo_geta dX11_plateau_5 cl_10 fl_RX11_26 rfl (fun v2 => ?_)
  refine mk_O.callS (N := M_X4_read) (As := [.ref v1, .ref v2]) (S := []) md_X4_read ms_X4_read lk_RX11_65 rfl (Nat.le_of_ble_eq_true rfl) (by decide) dX11_plateau_8 rfl (fun z hz => c_X4_read v1 v2 t z hz) (fun z3 _ => ?_)
  show mk_O _ _ _ _ (.int z3.1 :: []) _ _
  refine xo_istore_n rfl (by decide) (mk_p1_v rfl rfl) dX11_plateau_11 ?_
  refine xo_aload_n rfl rfl dX11_plateau_12 ?_
  refine xo_geta dX11_plateau_13 cl_10 fl_RX11_12 rfl (fun v4 => ?_)
  refine mk_O.callV (N := M_X8_clear) (ci := 7) (q := (RX8, TX8, 7)) (b := v4) (As1 := []) (S := []) md_X8_clear mv_X8_clear lk_RX11_71 rfl (Nat.le_of_ble_eq_true rfl) (by decide) dX11_plateau_16 rfl rfl rfl (fun z hz => (c_X8_clear v4 z3.2 z hz).1) (fun z hz => (c_X8_clear v4 z3.2 z hz).2) (fun z5 _ => ?_)
  show mk_O _ _ _ _ [] _ _
  refine xo_iload_n rfl rfl dX11_plateau_19 ?_
  refine xo_if_eq (tgt := 28) dX11_plateau_20 rfl (fun _ => ?_) (fun _ => ?_)
  · refine xo_aload_n rfl rfl dX11_plateau_28 ?_
    refine xo_geta dX11_plateau_29 cl_10 fl_RX11_41 rfl (fun v6 => ?_)
    refine xo_aload_n rfl rfl dX11_plateau_32 ?_
    refine xo_geta dX11_plateau_33 cl_10 fl_RX11_26 rfl (fun v7 => ?_)
    refine mk_O.callV (N := M_X10_begin) (ci := 9) (q := (RX10, TX10, 6)) (b := v6) (As1 := [.ref v7]) (S := []) md_X10_begin mv_X10_begin lk_RX11_74 rfl (Nat.le_of_ble_eq_true rfl) (by decide) dX11_plateau_36 rfl rfl rfl (fun z hz => (c_X10_begin v6 v7 z5.2 z hz).1) (fun z hz => (c_X10_begin v6 v7 z5.2 z hz).2) (fun z8 _ => ?_)
    show mk_O _ _ _ _ [] _ _
    refine xo_aload_n rfl rfl dX11_plateau_39 ?_
    refine xo_geta dX11_plateau_40 cl_10 fl_RX11_41 rfl (fun v9 => ?_)
    refine xo_geta dX11_plateau_43 cl_9 fl_RX11_78 rfl (fun v10 => ?_)
    refine xo_geti dX11_plateau_46 cl_3 fl_RX11_81 rfl (fun v11 => ?_)
    exact xo_iret dX11_plateau_49 rfl
  · refine xo_bipush kb_m2 dX11_plateau_23 ?_
    refine xo_iload_n rfl rfl dX11_plateau_25 ?_
    refine xo_isub dX11_plateau_26 ?_
    exact xo_iret dX11_plateau_27 rfl
theorem c_X11_plateau (x0 : Nat) (t : mk_S) (z : Int32 × mk_S) (h : F_X11_plateau x0 t = some z) : mk_is t x0 10 ∧ mk_Ct M_X11_plateau [.ref x0] t (mk_wi z.1, z.2) :=
  ⟨(mk_gd_spec h).1, mk_ct (w := mk_wi) (by decide +kernel) (Nat.le_of_ble_eq_true rfl) (p_X11_plateau x0 t) z (mk_gd_spec h).2⟩
def F_X11_rule (x0 : Nat) (t : mk_S) : Option (Int32 × mk_S) := mk_gd t x0 10 ((mk_ga t x0 10 3).bind fun v1 => (mk_gi t v1 2 2).bind fun v2 => (F_X11_within v2 (0 : Int32) (5 : Int32) t).bind fun z3 => if z3.1 = 0 then (some ((-1 : Int32), z3.2)) else ((mk_ga z3.2 x0 10 1).bind fun v4 => (mk_ga z3.2 x0 10 0).bind fun v5 => (mk_ga z3.2 x0 10 3).bind fun v6 => (mk_ga z3.2 v6 2 1).bind fun v7 => (mk_lda (100 + 5) z3.2 v7 v2).bind fun v8 => (F_X6_read v4 v5 v8 z3.2).bind fun z9 => (mk_ga z9.2 x0 10 0).bind fun v10 => (F_X8_clear v10 z9.2).bind fun z11 => if z9.1 = 0 then ((mk_ga z11.2 x0 10 3).bind fun v12 => (mk_pi z11.2 v12 2 2 (v2 + (1 : Int32))).bind fun t13 => some (v2, t13)) else (some (((-2 : Int32) - z9.1), z11.2))))
theorem p_X11_rule (x0 : Nat) (t : mk_S) : mk_O mk_wi M_X11_rule 0 [some (.ref x0), none, none] [] t ((mk_ga t x0 10 3).bind fun v1 => (mk_gi t v1 2 2).bind fun v2 => (F_X11_within v2 (0 : Int32) (5 : Int32) t).bind fun z3 => if z3.1 = 0 then (some ((-1 : Int32), z3.2)) else ((mk_ga z3.2 x0 10 1).bind fun v4 => (mk_ga z3.2 x0 10 0).bind fun v5 => (mk_ga z3.2 x0 10 3).bind fun v6 => (mk_ga z3.2 v6 2 1).bind fun v7 => (mk_lda (100 + 5) z3.2 v7 v2).bind fun v8 => (F_X6_read v4 v5 v8 z3.2).bind fun z9 => (mk_ga z9.2 x0 10 0).bind fun v10 => (F_X8_clear v10 z9.2).bind fun z11 => if z9.1 = 0 then ((mk_ga z11.2 x0 10 3).bind fun v12 => (mk_pi z11.2 v12 2 2 (v2 + (1 : Int32))).bind fun t13 => some (v2, t13)) else (some (((-2 : Int32) - z9.1), z11.2)))) := by
  refine xo_aload_n rfl rfl dX11_rule_0 ?_
  refine xo_geta dX11_rule_1 cl_10 fl_RX11_33 rfl (fun v1 => ?_)
  refine xo_geti dX11_rule_4 cl_2 fl_RX11_84 rfl (fun v2 => ?_)
  refine xo_istore_n rfl (by decide) (mk_p1_v rfl rfl) dX11_rule_7 ?_
  refine xo_iload_n rfl rfl dX11_rule_8 ?_
  refine xo_iconst kc_0 dX11_rule_9 ?_
  refine xo_iconst kc_5 dX11_rule_10 ?_
  refine mk_O.callS (N := M_X11_within) (As := [.int v2, .int (0 : Int32), .int (5 : Int32)]) (S := []) md_X11_within ms_X11_within lk_RX11_61 rfl (Nat.le_of_ble_eq_true rfl) (by decide) dX11_rule_11 rfl (fun z hz => c_X11_within v2 (0 : Int32) (5 : Int32) t z hz) (fun z3 _ => ?_)
  show mk_O _ _ _ _ (.int z3.1 :: []) _ _
  refine xo_if_ne (tgt := 19) dX11_rule_14 rfl (fun _ => ?_) (fun _ => ?_)
  · refine xo_iconst kc_m1 dX11_rule_17 ?_
    exact xo_iret dX11_rule_18 rfl
  · refine xo_aload_n rfl rfl dX11_rule_19 ?_
    refine xo_geta dX11_rule_20 cl_10 fl_RX11_19 rfl (fun v4 => ?_)
    refine xo_aload_n rfl rfl dX11_rule_23 ?_
    refine xo_geta dX11_rule_24 cl_10 fl_RX11_12 rfl (fun v5 => ?_)
    refine xo_aload_n rfl rfl dX11_rule_27 ?_
    refine xo_geta dX11_rule_28 cl_10 fl_RX11_33 rfl (fun v6 => ?_)
    refine xo_geta dX11_rule_31 cl_2 fl_RX11_87 rfl (fun v7 => ?_)
    refine xo_iload_n rfl rfl dX11_rule_34 ?_
    refine xo_aald (j := 5) (by decide) (by decide) dX11_rule_35 (fun v8 => ?_)
    refine mk_O.callV (N := M_X6_read) (ci := 5) (q := (RX6, TX6, 8)) (b := v4) (As1 := [.ref v5, .ref v8]) (S := []) md_X6_read mv_X6_read lk_RX11_91 rfl (Nat.le_of_ble_eq_true rfl) (by decide) dX11_rule_36 rfl rfl rfl (fun z hz => (c_X6_read v4 v5 v8 z3.2 z hz).1) (fun z hz => (c_X6_read v4 v5 v8 z3.2 z hz).2) (fun z9 _ => ?_)
    show mk_O _ _ _ _ (.int z9.1 :: []) _ _
    refine xo_istore_n rfl (by decide) (mk_p1_v rfl rfl) dX11_rule_39 ?_
    refine xo_aload_n rfl rfl dX11_rule_40 ?_
    refine xo_geta dX11_rule_41 cl_10 fl_RX11_12 rfl (fun v10 => ?_)
    refine mk_O.callV (N := M_X8_clear) (ci := 7) (q := (RX8, TX8, 7)) (b := v10) (As1 := []) (S := []) md_X8_clear mv_X8_clear lk_RX11_71 rfl (Nat.le_of_ble_eq_true rfl) (by decide) dX11_rule_44 rfl rfl rfl (fun z hz => (c_X8_clear v10 z9.2 z hz).1) (fun z hz => (c_X8_clear v10 z9.2 z hz).2) (fun z11 _ => ?_)
    show mk_O _ _ _ _ [] _ _
    refine xo_iload_n rfl rfl dX11_rule_47 ?_
    refine xo_if_eq (tgt := 56) dX11_rule_48 rfl (fun _ => ?_) (fun _ => ?_)
    · refine xo_aload_n rfl rfl dX11_rule_56 ?_
      refine xo_geta dX11_rule_57 cl_10 fl_RX11_33 rfl (fun v12 => ?_)
      refine xo_iload_n rfl rfl dX11_rule_60 ?_
      refine xo_iconst kc_1 dX11_rule_61 ?_
      refine xo_iadd dX11_rule_62 ?_
      refine xo_puti dX11_rule_63 cl_2 fl_RX11_84 rfl ft_2_2 (fun t13 => ?_)
      refine xo_iload_n rfl rfl dX11_rule_66 ?_
      exact xo_iret dX11_rule_67 rfl
    · refine xo_bipush kb_m2 dX11_rule_51 ?_
      refine xo_iload_n rfl rfl dX11_rule_53 ?_
      refine xo_isub dX11_rule_54 ?_
      exact xo_iret dX11_rule_55 rfl
theorem c_X11_rule (x0 : Nat) (t : mk_S) (z : Int32 × mk_S) (h : F_X11_rule x0 t = some z) : mk_is t x0 10 ∧ mk_Ct M_X11_rule [.ref x0] t (mk_wi z.1, z.2) :=
  ⟨(mk_gd_spec h).1, mk_ct (w := mk_wi) (by decide +kernel) (Nat.le_of_ble_eq_true rfl) (p_X11_rule x0 t) z (mk_gd_spec h).2⟩
def F_X11_force (x0 : Nat) (x1 : Int32) (t : mk_S) : Option (Int32 × mk_S) := mk_gd t x0 10 ((mk_ga t x0 10 3).bind fun v1 => (mk_gi t v1 2 2).bind fun v2 => (F_X11_within x1 (-1 : Int32) (v2 - (1 : Int32)) t).bind fun z3 => if z3.1 = 0 then (some ((-2 : Int32), z3.2)) else ((mk_ga z3.2 x0 10 4).bind fun v4 => (mk_gi z3.2 v4 9 4).bind fun v5 => (mk_ga z3.2 x0 10 4).bind fun v6 => (mk_pi z3.2 v6 9 4 x1).bind fun t7 => some (v5, t7)))
theorem p_X11_force (x0 : Nat) (x1 : Int32) (t : mk_S) : mk_O mk_wi M_X11_force 0 [some (.ref x0), some (.int x1), none] [] t ((mk_ga t x0 10 3).bind fun v1 => (mk_gi t v1 2 2).bind fun v2 => (F_X11_within x1 (-1 : Int32) (v2 - (1 : Int32)) t).bind fun z3 => if z3.1 = 0 then (some ((-2 : Int32), z3.2)) else ((mk_ga z3.2 x0 10 4).bind fun v4 => (mk_gi z3.2 v4 9 4).bind fun v5 => (mk_ga z3.2 x0 10 4).bind fun v6 => (mk_pi z3.2 v6 9 4 x1).bind fun t7 => some (v5, t7))) := by
  refine xo_iload_n rfl rfl dX11_force_0 ?_
  refine xo_iconst kc_m1 dX11_force_1 ?_
  refine xo_aload_n rfl rfl dX11_force_2 ?_
  refine xo_geta dX11_force_3 cl_10 fl_RX11_33 rfl (fun v1 => ?_)
  refine xo_geti dX11_force_6 cl_2 fl_RX11_84 rfl (fun v2 => ?_)
  refine xo_iconst kc_1 dX11_force_9 ?_
  refine xo_isub dX11_force_10 ?_
  refine mk_O.callS (N := M_X11_within) (As := [.int x1, .int (-1 : Int32), .int (v2 - (1 : Int32))]) (S := []) md_X11_within ms_X11_within lk_RX11_61 rfl (Nat.le_of_ble_eq_true rfl) (by decide) dX11_force_11 rfl (fun z hz => c_X11_within x1 (-1 : Int32) (v2 - (1 : Int32)) t z hz) (fun z3 _ => ?_)
  show mk_O _ _ _ _ (.int z3.1 :: []) _ _
  refine xo_if_ne (tgt := 20) dX11_force_14 rfl (fun _ => ?_) (fun _ => ?_)
  · refine xo_bipush kb_m2 dX11_force_17 ?_
    exact xo_iret dX11_force_19 rfl
  · refine xo_aload_n rfl rfl dX11_force_20 ?_
    refine xo_geta dX11_force_21 cl_10 fl_RX11_41 rfl (fun v4 => ?_)
    refine xo_geti dX11_force_24 cl_9 fl_RX11_94 rfl (fun v5 => ?_)
    refine xo_istore_n rfl (by decide) (mk_p1_v rfl rfl) dX11_force_27 ?_
    refine xo_aload_n rfl rfl dX11_force_28 ?_
    refine xo_geta dX11_force_29 cl_10 fl_RX11_41 rfl (fun v6 => ?_)
    refine xo_iload_n rfl rfl dX11_force_32 ?_
    refine xo_puti dX11_force_33 cl_9 fl_RX11_94 rfl ft_9_4 (fun t7 => ?_)
    refine xo_iload_n rfl rfl dX11_force_36 ?_
    exact xo_iret dX11_force_37 rfl
theorem c_X11_force (x0 : Nat) (x1 : Int32) (t : mk_S) (z : Int32 × mk_S) (h : F_X11_force x0 x1 t = some z) : mk_is t x0 10 ∧ mk_Ct M_X11_force [.ref x0, .int x1] t (mk_wi z.1, z.2) :=
  ⟨(mk_gd_spec h).1, mk_ct (w := mk_wi) (by decide +kernel) (Nat.le_of_ble_eq_true rfl) (p_X11_force x0 x1 t) z (mk_gd_spec h).2⟩
def F_X11_isPerson (x0 : Nat) (x1 : Int32) (t : mk_S) : Option (Int32 × mk_S) := mk_gd t x0 10 ((mk_ga t x0 10 4).bind fun v1 => (mk_ga t v1 9 0).bind fun v2 => (mk_gi t v2 3 2).bind fun v3 => (F_X11_within x1 (0 : Int32) (v3 - (1 : Int32)) t).bind fun z4 => mk_rz z4.1 z4.2)
theorem p_X11_isPerson (x0 : Nat) (x1 : Int32) (t : mk_S) : mk_O mk_wi M_X11_isPerson 0 [some (.ref x0), some (.int x1)] [] t ((mk_ga t x0 10 4).bind fun v1 => (mk_ga t v1 9 0).bind fun v2 => (mk_gi t v2 3 2).bind fun v3 => (F_X11_within x1 (0 : Int32) (v3 - (1 : Int32)) t).bind fun z4 => mk_rz z4.1 z4.2) := by
  refine xo_iload_n rfl rfl dX11_isPerson_0 ?_
  refine xo_iconst kc_0 dX11_isPerson_1 ?_
  refine xo_aload_n rfl rfl dX11_isPerson_2 ?_
  refine xo_geta dX11_isPerson_3 cl_10 fl_RX11_41 rfl (fun v1 => ?_)
  refine xo_geta dX11_isPerson_6 cl_9 fl_RX11_78 rfl (fun v2 => ?_)
  refine xo_geti dX11_isPerson_9 cl_3 fl_RX11_81 rfl (fun v3 => ?_)
  refine xo_iconst kc_1 dX11_isPerson_12 ?_
  refine xo_isub dX11_isPerson_13 ?_
  refine mk_O.callS (N := M_X11_within) (As := [.int x1, .int (0 : Int32), .int (v3 - (1 : Int32))]) (S := []) md_X11_within ms_X11_within lk_RX11_61 rfl (Nat.le_of_ble_eq_true rfl) (by decide) dX11_isPerson_14 rfl (fun z hz => c_X11_within x1 (0 : Int32) (v3 - (1 : Int32)) t z hz) (fun z4 _ => ?_)
  show mk_O _ _ _ _ (.int z4.1 :: []) _ _
  exact xo_zret dX11_isPerson_17 rfl
theorem c_X11_isPerson (x0 : Nat) (x1 : Int32) (t : mk_S) (z : Int32 × mk_S) (h : F_X11_isPerson x0 x1 t = some z) : mk_is t x0 10 ∧ mk_Ct M_X11_isPerson [.ref x0, .int x1] t (mk_wi z.1, z.2) :=
  ⟨(mk_gd_spec h).1, mk_ct (w := mk_wi) (by decide +kernel) (Nat.le_of_ble_eq_true rfl) (p_X11_isPerson x0 x1 t) z (mk_gd_spec h).2⟩
def F_X11_person (x0 : Nat) (x1 : Int32) (x2 : Int32) (t : mk_S) : Option (Int32 × mk_S) := mk_gd t x0 10 ((F_X11_isPerson x0 x1 t).bind fun z1 => if z1.1 = 0 then (some ((-1 : Int32), z1.2)) else (if x2 = (0 : Int32) then ((mk_ga z1.2 x0 10 4).bind fun v2 => (mk_ga z1.2 v2 9 1).bind fun v3 => (mk_ga z1.2 v3 6 0).bind fun v4 => (mk_ld 100 z1.2 v4 x1).bind fun v5 => some (v5, z1.2)) else (if x2 = (1 : Int32) then ((mk_ga z1.2 x0 10 4).bind fun v6 => (mk_ga z1.2 v6 9 0).bind fun v7 => (mk_ga z1.2 v7 3 6).bind fun v8 => (mk_ld 100 z1.2 v8 x1).bind fun v9 => some (v9, z1.2)) else (if x2 = (2 : Int32) then ((mk_ga z1.2 x0 10 4).bind fun v10 => (mk_ga z1.2 v10 9 1).bind fun v11 => (mk_ga z1.2 v11 6 1).bind fun v12 => (mk_ld 100 z1.2 v12 x1).bind fun v13 => some (v13, z1.2)) else (if x2 = (3 : Int32) then ((mk_ga z1.2 x0 10 4).bind fun v14 => (mk_ga z1.2 v14 9 1).bind fun v15 => (mk_ga z1.2 v15 6 2).bind fun v16 => (mk_ld 100 z1.2 v16 x1).bind fun v17 => some (v17, z1.2)) else (if x2 = (4 : Int32) then ((mk_ga z1.2 x0 10 4).bind fun v18 => (mk_ga z1.2 v18 9 1).bind fun v19 => (mk_ga z1.2 v19 6 3).bind fun v20 => (mk_ld 100 z1.2 v20 x1).bind fun v21 => some (v21, z1.2)) else (if x2 = (5 : Int32) then ((mk_ga z1.2 x0 10 4).bind fun v22 => (mk_ga z1.2 v22 9 1).bind fun v23 => (mk_ga z1.2 v23 6 4).bind fun v24 => (mk_ld 100 z1.2 v24 x1).bind fun v25 => some (v25, z1.2)) else (some ((-1 : Int32), z1.2)))))))))
theorem p_X11_person (x0 : Nat) (x1 : Int32) (x2 : Int32) (t : mk_S) : mk_O mk_wi M_X11_person 0 [some (.ref x0), some (.int x1), some (.int x2)] [] t ((F_X11_isPerson x0 x1 t).bind fun z1 => if z1.1 = 0 then (some ((-1 : Int32), z1.2)) else (if x2 = (0 : Int32) then ((mk_ga z1.2 x0 10 4).bind fun v2 => (mk_ga z1.2 v2 9 1).bind fun v3 => (mk_ga z1.2 v3 6 0).bind fun v4 => (mk_ld 100 z1.2 v4 x1).bind fun v5 => some (v5, z1.2)) else (if x2 = (1 : Int32) then ((mk_ga z1.2 x0 10 4).bind fun v6 => (mk_ga z1.2 v6 9 0).bind fun v7 => (mk_ga z1.2 v7 3 6).bind fun v8 => (mk_ld 100 z1.2 v8 x1).bind fun v9 => some (v9, z1.2)) else (if x2 = (2 : Int32) then ((mk_ga z1.2 x0 10 4).bind fun v10 => (mk_ga z1.2 v10 9 1).bind fun v11 => (mk_ga z1.2 v11 6 1).bind fun v12 => (mk_ld 100 z1.2 v12 x1).bind fun v13 => some (v13, z1.2)) else (if x2 = (3 : Int32) then ((mk_ga z1.2 x0 10 4).bind fun v14 => (mk_ga z1.2 v14 9 1).bind fun v15 => (mk_ga z1.2 v15 6 2).bind fun v16 => (mk_ld 100 z1.2 v16 x1).bind fun v17 => some (v17, z1.2)) else (if x2 = (4 : Int32) then ((mk_ga z1.2 x0 10 4).bind fun v18 => (mk_ga z1.2 v18 9 1).bind fun v19 => (mk_ga z1.2 v19 6 3).bind fun v20 => (mk_ld 100 z1.2 v20 x1).bind fun v21 => some (v21, z1.2)) else (if x2 = (5 : Int32) then ((mk_ga z1.2 x0 10 4).bind fun v22 => (mk_ga z1.2 v22 9 1).bind fun v23 => (mk_ga z1.2 v23 6 4).bind fun v24 => (mk_ld 100 z1.2 v24 x1).bind fun v25 => some (v25, z1.2)) else (some ((-1 : Int32), z1.2))))))))) := by
  refine xo_aload_n rfl rfl dX11_person_0 ?_
  refine xo_iload_n rfl rfl dX11_person_1 ?_
  refine mk_O.callV (N := M_X11_isPerson) (ci := 10) (q := (RX11, TX11, 7)) (b := x0) (As1 := [.int x1]) (S := []) md_X11_isPerson mv_X11_isPerson lk_RX11_97 rfl (Nat.le_of_ble_eq_true rfl) (by decide) dX11_person_2 rfl rfl rfl (fun z hz => (c_X11_isPerson x0 x1 t z hz).1) (fun z hz => (c_X11_isPerson x0 x1 t z hz).2) (fun z1 _ => ?_)
  show mk_O _ _ _ _ (.int z1.1 :: []) _ _
  refine xo_if_ne (tgt := 10) dX11_person_5 rfl (fun _ => ?_) (fun _ => ?_)
  · refine xo_iconst kc_m1 dX11_person_8 ?_
    exact xo_iret dX11_person_9 rfl
  · refine xo_iload_n rfl rfl dX11_person_10 ?_
    refine mk_O.cs (fun n0 => ?_) (fun n0 => ?_)
    · refine xo_tab (kx := 0) (j := 0) n0 dX11_person_11 (by decide) (by decide) (by decide) rfl rfl ?_
      refine xo_aload_n rfl rfl dX11_person_48 ?_
      refine xo_geta dX11_person_49 cl_10 fl_RX11_41 rfl (fun v2 => ?_)
      refine xo_geta dX11_person_52 cl_9 fl_RX11_101 rfl (fun v3 => ?_)
      refine xo_geta dX11_person_55 cl_6 fl_RX11_105 rfl (fun v4 => ?_)
      refine xo_iload_n rfl rfl dX11_person_58 ?_
      refine xo_iald dX11_person_59 (fun v5 => ?_)
      exact xo_iret dX11_person_60 rfl
    · refine mk_O.cs (fun n1 => ?_) (fun n1 => ?_)
      · refine xo_tab (kx := 1) (j := 1) n1 dX11_person_11 (by decide) (by decide) (by decide) rfl rfl ?_
        refine xo_aload_n rfl rfl dX11_person_61 ?_
        refine xo_geta dX11_person_62 cl_10 fl_RX11_41 rfl (fun v6 => ?_)
        refine xo_geta dX11_person_65 cl_9 fl_RX11_78 rfl (fun v7 => ?_)
        refine xo_geta dX11_person_68 cl_3 fl_RX11_111 rfl (fun v8 => ?_)
        refine xo_iload_n rfl rfl dX11_person_71 ?_
        refine xo_iald dX11_person_72 (fun v9 => ?_)
        exact xo_iret dX11_person_73 rfl
      · refine mk_O.cs (fun n2 => ?_) (fun n2 => ?_)
        · refine xo_tab (kx := 2) (j := 2) n2 dX11_person_11 (by decide) (by decide) (by decide) rfl rfl ?_
          refine xo_aload_n rfl rfl dX11_person_74 ?_
          refine xo_geta dX11_person_75 cl_10 fl_RX11_41 rfl (fun v10 => ?_)
          refine xo_geta dX11_person_78 cl_9 fl_RX11_101 rfl (fun v11 => ?_)
          refine xo_geta dX11_person_81 cl_6 fl_RX11_114 rfl (fun v12 => ?_)
          refine xo_iload_n rfl rfl dX11_person_84 ?_
          refine xo_iald dX11_person_85 (fun v13 => ?_)
          exact xo_iret dX11_person_86 rfl
        · refine mk_O.cs (fun n3 => ?_) (fun n3 => ?_)
          · refine xo_tab (kx := 3) (j := 3) n3 dX11_person_11 (by decide) (by decide) (by decide) rfl rfl ?_
            refine xo_aload_n rfl rfl dX11_person_87 ?_
            refine xo_geta dX11_person_88 cl_10 fl_RX11_41 rfl (fun v14 => ?_)
            refine xo_geta dX11_person_91 cl_9 fl_RX11_101 rfl (fun v15 => ?_)
            refine xo_geta dX11_person_94 cl_6 fl_RX11_117 rfl (fun v16 => ?_)
            refine xo_iload_n rfl rfl dX11_person_97 ?_
            refine xo_iald dX11_person_98 (fun v17 => ?_)
            exact xo_iret dX11_person_99 rfl
          · refine mk_O.cs (fun n4 => ?_) (fun n4 => ?_)
            · refine xo_tab (kx := 4) (j := 4) n4 dX11_person_11 (by decide) (by decide) (by decide) rfl rfl ?_
              refine xo_aload_n rfl rfl dX11_person_100 ?_
              refine xo_geta dX11_person_101 cl_10 fl_RX11_41 rfl (fun v18 => ?_)
              refine xo_geta dX11_person_104 cl_9 fl_RX11_101 rfl (fun v19 => ?_)
              refine xo_geta dX11_person_107 cl_6 fl_RX11_120 rfl (fun v20 => ?_)
              refine xo_iload_n rfl rfl dX11_person_110 ?_
              refine xo_iald dX11_person_111 (fun v21 => ?_)
              exact xo_iret dX11_person_112 rfl
            · refine mk_O.cs (fun n5 => ?_) (fun n5 => ?_)
              · refine xo_tab (kx := 5) (j := 5) n5 dX11_person_11 (by decide) (by decide) (by decide) rfl rfl ?_
                refine xo_aload_n rfl rfl dX11_person_113 ?_
                refine xo_geta dX11_person_114 cl_10 fl_RX11_41 rfl (fun v22 => ?_)
                refine xo_geta dX11_person_117 cl_9 fl_RX11_101 rfl (fun v23 => ?_)
                refine xo_geta dX11_person_120 cl_6 fl_RX11_123 rfl (fun v24 => ?_)
                refine xo_iload_n rfl rfl dX11_person_123 ?_
                refine xo_iald dX11_person_124 (fun v25 => ?_)
                exact xo_iret dX11_person_125 rfl
              · refine xo_tabo dX11_person_11 (by have q0 := lv_neT (a := 0) n0 (by decide); have q1 := lv_neT (a := 1) n1 (by decide); have q2 := lv_neT (a := 2) n2 (by decide); have q3 := lv_neT (a := 3) n3 (by decide); have q4 := lv_neT (a := 4) n4 (by decide); have q5 := lv_neT (a := 5) n5 (by decide); omega) rfl ?_
                refine xo_iconst kc_m1 dX11_person_126 ?_
                exact xo_iret dX11_person_127 rfl
theorem c_X11_person (x0 : Nat) (x1 : Int32) (x2 : Int32) (t : mk_S) (z : Int32 × mk_S) (h : F_X11_person x0 x1 x2 t = some z) : mk_is t x0 10 ∧ mk_Ct M_X11_person [.ref x0, .int x1, .int x2] t (mk_wi z.1, z.2) :=
  ⟨(mk_gd_spec h).1, mk_ct (w := mk_wi) (by decide +kernel) (Nat.le_of_ble_eq_true rfl) (p_X11_person x0 x1 x2 t) z (mk_gd_spec h).2⟩
def F_X11_isMill (x0 : Nat) (x1 : Int32) (t : mk_S) : Option (Int32 × mk_S) := mk_gd t x0 10 ((mk_ga t x0 10 4).bind fun v1 => (mk_ga t v1 9 0).bind fun v2 => (mk_gi t v2 3 3).bind fun v3 => (F_X11_within x1 (0 : Int32) (v3 - (1 : Int32)) t).bind fun z4 => mk_rz z4.1 z4.2)
theorem p_X11_isMill (x0 : Nat) (x1 : Int32) (t : mk_S) : mk_O mk_wi M_X11_isMill 0 [some (.ref x0), some (.int x1)] [] t ((mk_ga t x0 10 4).bind fun v1 => (mk_ga t v1 9 0).bind fun v2 => (mk_gi t v2 3 3).bind fun v3 => (F_X11_within x1 (0 : Int32) (v3 - (1 : Int32)) t).bind fun z4 => mk_rz z4.1 z4.2) := by
  refine xo_iload_n rfl rfl dX11_isMill_0 ?_
  refine xo_iconst kc_0 dX11_isMill_1 ?_
  refine xo_aload_n rfl rfl dX11_isMill_2 ?_
  refine xo_geta dX11_isMill_3 cl_10 fl_RX11_41 rfl (fun v1 => ?_)
  refine xo_geta dX11_isMill_6 cl_9 fl_RX11_78 rfl (fun v2 => ?_)
  refine xo_geti dX11_isMill_9 cl_3 fl_RX11_163 rfl (fun v3 => ?_)
  refine xo_iconst kc_1 dX11_isMill_12 ?_
  refine xo_isub dX11_isMill_13 ?_
  refine mk_O.callS (N := M_X11_within) (As := [.int x1, .int (0 : Int32), .int (v3 - (1 : Int32))]) (S := []) md_X11_within ms_X11_within lk_RX11_61 rfl (Nat.le_of_ble_eq_true rfl) (by decide) dX11_isMill_14 rfl (fun z hz => c_X11_within x1 (0 : Int32) (v3 - (1 : Int32)) t z hz) (fun z4 _ => ?_)
  show mk_O _ _ _ _ (.int z4.1 :: []) _ _
  exact xo_zret dX11_isMill_17 rfl
theorem c_X11_isMill (x0 : Nat) (x1 : Int32) (t : mk_S) (z : Int32 × mk_S) (h : F_X11_isMill x0 x1 t = some z) : mk_is t x0 10 ∧ mk_Ct M_X11_isMill [.ref x0, .int x1] t (mk_wi z.1, z.2) :=
  ⟨(mk_gd_spec h).1, mk_ct (w := mk_wi) (by decide +kernel) (Nat.le_of_ble_eq_true rfl) (p_X11_isMill x0 x1 t) z (mk_gd_spec h).2⟩
def F_X11_mill (x0 : Nat) (x1 : Int32) (x2 : Int32) (t : mk_S) : Option (Int32 × mk_S) := mk_gd t x0 10 ((F_X11_isMill x0 x1 t).bind fun z1 => if z1.1 = 0 then (some ((-1 : Int32), z1.2)) else (if x2 = (0 : Int32) then ((mk_ga z1.2 x0 10 4).bind fun v2 => (mk_ga z1.2 v2 9 0).bind fun v3 => (mk_ga z1.2 v3 3 8).bind fun v4 => (mk_ld 100 z1.2 v4 x1).bind fun v5 => some (v5, z1.2)) else (if x2 = (1 : Int32) then ((mk_ga z1.2 x0 10 4).bind fun v6 => (mk_ga z1.2 v6 9 0).bind fun v7 => (mk_ga z1.2 v7 3 9).bind fun v8 => (mk_ld 100 z1.2 v8 x1).bind fun v9 => some (v9, z1.2)) else (if x2 = (2 : Int32) then ((mk_ga z1.2 x0 10 4).bind fun v10 => (mk_ga z1.2 v10 9 1).bind fun v11 => (mk_ga z1.2 v11 6 5).bind fun v12 => (mk_ld 100 z1.2 v12 x1).bind fun v13 => some (v13, z1.2)) else (some ((-1 : Int32), z1.2))))))
theorem p_X11_mill (x0 : Nat) (x1 : Int32) (x2 : Int32) (t : mk_S) : mk_O mk_wi M_X11_mill 0 [some (.ref x0), some (.int x1), some (.int x2)] [] t ((F_X11_isMill x0 x1 t).bind fun z1 => if z1.1 = 0 then (some ((-1 : Int32), z1.2)) else (if x2 = (0 : Int32) then ((mk_ga z1.2 x0 10 4).bind fun v2 => (mk_ga z1.2 v2 9 0).bind fun v3 => (mk_ga z1.2 v3 3 8).bind fun v4 => (mk_ld 100 z1.2 v4 x1).bind fun v5 => some (v5, z1.2)) else (if x2 = (1 : Int32) then ((mk_ga z1.2 x0 10 4).bind fun v6 => (mk_ga z1.2 v6 9 0).bind fun v7 => (mk_ga z1.2 v7 3 9).bind fun v8 => (mk_ld 100 z1.2 v8 x1).bind fun v9 => some (v9, z1.2)) else (if x2 = (2 : Int32) then ((mk_ga z1.2 x0 10 4).bind fun v10 => (mk_ga z1.2 v10 9 1).bind fun v11 => (mk_ga z1.2 v11 6 5).bind fun v12 => (mk_ld 100 z1.2 v12 x1).bind fun v13 => some (v13, z1.2)) else (some ((-1 : Int32), z1.2)))))) := by
  refine xo_aload_n rfl rfl dX11_mill_0 ?_
  refine xo_iload_n rfl rfl dX11_mill_1 ?_
  refine mk_O.callV (N := M_X11_isMill) (ci := 10) (q := (RX11, TX11, 7)) (b := x0) (As1 := [.int x1]) (S := []) md_X11_isMill mv_X11_isMill lk_RX11_126 rfl (Nat.le_of_ble_eq_true rfl) (by decide) dX11_mill_2 rfl rfl rfl (fun z hz => (c_X11_isMill x0 x1 t z hz).1) (fun z hz => (c_X11_isMill x0 x1 t z hz).2) (fun z1 _ => ?_)
  show mk_O _ _ _ _ (.int z1.1 :: []) _ _
  refine xo_if_ne (tgt := 10) dX11_mill_5 rfl (fun _ => ?_) (fun _ => ?_)
  · refine xo_iconst kc_m1 dX11_mill_8 ?_
    exact xo_iret dX11_mill_9 rfl
  · refine xo_iload_n rfl rfl dX11_mill_10 ?_
    refine mk_O.cs (fun n0 => ?_) (fun n0 => ?_)
    · refine xo_tab (kx := 0) (j := 0) n0 dX11_mill_11 (by decide) (by decide) (by decide) rfl rfl ?_
      refine xo_aload_n rfl rfl dX11_mill_36 ?_
      refine xo_geta dX11_mill_37 cl_10 fl_RX11_41 rfl (fun v2 => ?_)
      refine xo_geta dX11_mill_40 cl_9 fl_RX11_78 rfl (fun v3 => ?_)
      refine xo_geta dX11_mill_43 cl_3 fl_RX11_129 rfl (fun v4 => ?_)
      refine xo_iload_n rfl rfl dX11_mill_46 ?_
      refine xo_iald dX11_mill_47 (fun v5 => ?_)
      exact xo_iret dX11_mill_48 rfl
    · refine mk_O.cs (fun n1 => ?_) (fun n1 => ?_)
      · refine xo_tab (kx := 1) (j := 1) n1 dX11_mill_11 (by decide) (by decide) (by decide) rfl rfl ?_
        refine xo_aload_n rfl rfl dX11_mill_49 ?_
        refine xo_geta dX11_mill_50 cl_10 fl_RX11_41 rfl (fun v6 => ?_)
        refine xo_geta dX11_mill_53 cl_9 fl_RX11_78 rfl (fun v7 => ?_)
        refine xo_geta dX11_mill_56 cl_3 fl_RX11_132 rfl (fun v8 => ?_)
        refine xo_iload_n rfl rfl dX11_mill_59 ?_
        refine xo_iald dX11_mill_60 (fun v9 => ?_)
        exact xo_iret dX11_mill_61 rfl
      · refine mk_O.cs (fun n2 => ?_) (fun n2 => ?_)
        · refine xo_tab (kx := 2) (j := 2) n2 dX11_mill_11 (by decide) (by decide) (by decide) rfl rfl ?_
          refine xo_aload_n rfl rfl dX11_mill_62 ?_
          refine xo_geta dX11_mill_63 cl_10 fl_RX11_41 rfl (fun v10 => ?_)
          refine xo_geta dX11_mill_66 cl_9 fl_RX11_101 rfl (fun v11 => ?_)
          refine xo_geta dX11_mill_69 cl_6 fl_RX11_135 rfl (fun v12 => ?_)
          refine xo_iload_n rfl rfl dX11_mill_72 ?_
          refine xo_iald dX11_mill_73 (fun v13 => ?_)
          exact xo_iret dX11_mill_74 rfl
        · refine xo_tabo dX11_mill_11 (by have q0 := lv_neT (a := 0) n0 (by decide); have q1 := lv_neT (a := 1) n1 (by decide); have q2 := lv_neT (a := 2) n2 (by decide); omega) rfl ?_
          refine xo_iconst kc_m1 dX11_mill_75 ?_
          exact xo_iret dX11_mill_76 rfl
theorem c_X11_mill (x0 : Nat) (x1 : Int32) (x2 : Int32) (t : mk_S) (z : Int32 × mk_S) (h : F_X11_mill x0 x1 x2 t = some z) : mk_is t x0 10 ∧ mk_Ct M_X11_mill [.ref x0, .int x1, .int x2] t (mk_wi z.1, z.2) :=
  ⟨(mk_gd_spec h).1, mk_ct (w := mk_wi) (by decide +kernel) (Nat.le_of_ble_eq_true rfl) (p_X11_mill x0 x1 x2 t) z (mk_gd_spec h).2⟩
def F_X11_isRoof (x0 : Nat) (x1 : Int32) (t : mk_S) : Option (Int32 × mk_S) := mk_gd t x0 10 ((mk_ga t x0 10 4).bind fun v1 => (mk_ga t v1 9 0).bind fun v2 => (mk_gi t v2 3 4).bind fun v3 => (F_X11_within x1 (0 : Int32) (v3 - (1 : Int32)) t).bind fun z4 => mk_rz z4.1 z4.2)
theorem p_X11_isRoof (x0 : Nat) (x1 : Int32) (t : mk_S) : mk_O mk_wi M_X11_isRoof 0 [some (.ref x0), some (.int x1)] [] t ((mk_ga t x0 10 4).bind fun v1 => (mk_ga t v1 9 0).bind fun v2 => (mk_gi t v2 3 4).bind fun v3 => (F_X11_within x1 (0 : Int32) (v3 - (1 : Int32)) t).bind fun z4 => mk_rz z4.1 z4.2) := by
  refine xo_iload_n rfl rfl dX11_isRoof_0 ?_
  refine xo_iconst kc_0 dX11_isRoof_1 ?_
  refine xo_aload_n rfl rfl dX11_isRoof_2 ?_
  refine xo_geta dX11_isRoof_3 cl_10 fl_RX11_41 rfl (fun v1 => ?_)
  refine xo_geta dX11_isRoof_6 cl_9 fl_RX11_78 rfl (fun v2 => ?_)
  refine xo_geti dX11_isRoof_9 cl_3 fl_RX11_166 rfl (fun v3 => ?_)
  refine xo_iconst kc_1 dX11_isRoof_12 ?_
  refine xo_isub dX11_isRoof_13 ?_
  refine mk_O.callS (N := M_X11_within) (As := [.int x1, .int (0 : Int32), .int (v3 - (1 : Int32))]) (S := []) md_X11_within ms_X11_within lk_RX11_61 rfl (Nat.le_of_ble_eq_true rfl) (by decide) dX11_isRoof_14 rfl (fun z hz => c_X11_within x1 (0 : Int32) (v3 - (1 : Int32)) t z hz) (fun z4 _ => ?_)
  show mk_O _ _ _ _ (.int z4.1 :: []) _ _
  exact xo_zret dX11_isRoof_17 rfl
theorem c_X11_isRoof (x0 : Nat) (x1 : Int32) (t : mk_S) (z : Int32 × mk_S) (h : F_X11_isRoof x0 x1 t = some z) : mk_is t x0 10 ∧ mk_Ct M_X11_isRoof [.ref x0, .int x1] t (mk_wi z.1, z.2) :=
  ⟨(mk_gd_spec h).1, mk_ct (w := mk_wi) (by decide +kernel) (Nat.le_of_ble_eq_true rfl) (p_X11_isRoof x0 x1 t) z (mk_gd_spec h).2⟩
def F_X11_roof (x0 : Nat) (x1 : Int32) (x2 : Int32) (t : mk_S) : Option (Int32 × mk_S) := mk_gd t x0 10 ((F_X11_isRoof x0 x1 t).bind fun z1 => if z1.1 = 0 then (some ((-1 : Int32), z1.2)) else (if x2 = (0 : Int32) then ((mk_ga z1.2 x0 10 4).bind fun v2 => (mk_ga z1.2 v2 9 0).bind fun v3 => (mk_ga z1.2 v3 3 10).bind fun v4 => (mk_ld 100 z1.2 v4 x1).bind fun v5 => some (v5, z1.2)) else (if x2 = (1 : Int32) then ((mk_ga z1.2 x0 10 4).bind fun v6 => (mk_ga z1.2 v6 9 0).bind fun v7 => (mk_ga z1.2 v7 3 11).bind fun v8 => (mk_ld 100 z1.2 v8 x1).bind fun v9 => some (v9, z1.2)) else (if x2 = (2 : Int32) then ((mk_ga z1.2 x0 10 4).bind fun v10 => (mk_ga z1.2 v10 9 1).bind fun v11 => (mk_gi z1.2 v11 6 7).bind fun v12 => some (((v12 >>> (x1 &&& 31)) &&& (1 : Int32)), z1.2)) else (some ((-1 : Int32), z1.2))))))
theorem p_X11_roof (x0 : Nat) (x1 : Int32) (x2 : Int32) (t : mk_S) : mk_O mk_wi M_X11_roof 0 [some (.ref x0), some (.int x1), some (.int x2)] [] t ((F_X11_isRoof x0 x1 t).bind fun z1 => if z1.1 = 0 then (some ((-1 : Int32), z1.2)) else (if x2 = (0 : Int32) then ((mk_ga z1.2 x0 10 4).bind fun v2 => (mk_ga z1.2 v2 9 0).bind fun v3 => (mk_ga z1.2 v3 3 10).bind fun v4 => (mk_ld 100 z1.2 v4 x1).bind fun v5 => some (v5, z1.2)) else (if x2 = (1 : Int32) then ((mk_ga z1.2 x0 10 4).bind fun v6 => (mk_ga z1.2 v6 9 0).bind fun v7 => (mk_ga z1.2 v7 3 11).bind fun v8 => (mk_ld 100 z1.2 v8 x1).bind fun v9 => some (v9, z1.2)) else (if x2 = (2 : Int32) then ((mk_ga z1.2 x0 10 4).bind fun v10 => (mk_ga z1.2 v10 9 1).bind fun v11 => (mk_gi z1.2 v11 6 7).bind fun v12 => some (((v12 >>> (x1 &&& 31)) &&& (1 : Int32)), z1.2)) else (some ((-1 : Int32), z1.2)))))) := by
  refine xo_aload_n rfl rfl dX11_roof_0 ?_
  refine xo_iload_n rfl rfl dX11_roof_1 ?_
  refine mk_O.callV (N := M_X11_isRoof) (ci := 10) (q := (RX11, TX11, 7)) (b := x0) (As1 := [.int x1]) (S := []) md_X11_isRoof mv_X11_isRoof lk_RX11_138 rfl (Nat.le_of_ble_eq_true rfl) (by decide) dX11_roof_2 rfl rfl rfl (fun z hz => (c_X11_isRoof x0 x1 t z hz).1) (fun z hz => (c_X11_isRoof x0 x1 t z hz).2) (fun z1 _ => ?_)
  show mk_O _ _ _ _ (.int z1.1 :: []) _ _
  refine xo_if_ne (tgt := 10) dX11_roof_5 rfl (fun _ => ?_) (fun _ => ?_)
  · refine xo_iconst kc_m1 dX11_roof_8 ?_
    exact xo_iret dX11_roof_9 rfl
  · refine xo_iload_n rfl rfl dX11_roof_10 ?_
    refine mk_O.cs (fun n0 => ?_) (fun n0 => ?_)
    · refine xo_tab (kx := 0) (j := 0) n0 dX11_roof_11 (by decide) (by decide) (by decide) rfl rfl ?_
      refine xo_aload_n rfl rfl dX11_roof_36 ?_
      refine xo_geta dX11_roof_37 cl_10 fl_RX11_41 rfl (fun v2 => ?_)
      refine xo_geta dX11_roof_40 cl_9 fl_RX11_78 rfl (fun v3 => ?_)
      refine xo_geta dX11_roof_43 cl_3 fl_RX11_141 rfl (fun v4 => ?_)
      refine xo_iload_n rfl rfl dX11_roof_46 ?_
      refine xo_iald dX11_roof_47 (fun v5 => ?_)
      exact xo_iret dX11_roof_48 rfl
    · refine mk_O.cs (fun n1 => ?_) (fun n1 => ?_)
      · refine xo_tab (kx := 1) (j := 1) n1 dX11_roof_11 (by decide) (by decide) (by decide) rfl rfl ?_
        refine xo_aload_n rfl rfl dX11_roof_49 ?_
        refine xo_geta dX11_roof_50 cl_10 fl_RX11_41 rfl (fun v6 => ?_)
        refine xo_geta dX11_roof_53 cl_9 fl_RX11_78 rfl (fun v7 => ?_)
        refine xo_geta dX11_roof_56 cl_3 fl_RX11_144 rfl (fun v8 => ?_)
        refine xo_iload_n rfl rfl dX11_roof_59 ?_
        refine xo_iald dX11_roof_60 (fun v9 => ?_)
        exact xo_iret dX11_roof_61 rfl
      · refine mk_O.cs (fun n2 => ?_) (fun n2 => ?_)
        · refine xo_tab (kx := 2) (j := 2) n2 dX11_roof_11 (by decide) (by decide) (by decide) rfl rfl ?_
          refine xo_aload_n rfl rfl dX11_roof_62 ?_
          refine xo_geta dX11_roof_63 cl_10 fl_RX11_41 rfl (fun v10 => ?_)
          refine xo_geta dX11_roof_66 cl_9 fl_RX11_101 rfl (fun v11 => ?_)
          refine xo_geti dX11_roof_69 cl_6 fl_RX11_147 rfl (fun v12 => ?_)
          refine xo_iload_n rfl rfl dX11_roof_72 ?_
          refine xo_ishr dX11_roof_73 ?_
          refine xo_iconst kc_1 dX11_roof_74 ?_
          refine xo_iand dX11_roof_75 ?_
          exact xo_iret dX11_roof_76 rfl
        · refine xo_tabo dX11_roof_11 (by have q0 := lv_neT (a := 0) n0 (by decide); have q1 := lv_neT (a := 1) n1 (by decide); have q2 := lv_neT (a := 2) n2 (by decide); omega) rfl ?_
          refine xo_iconst kc_m1 dX11_roof_77 ?_
          exact xo_iret dX11_roof_78 rfl
theorem c_X11_roof (x0 : Nat) (x1 : Int32) (x2 : Int32) (t : mk_S) (z : Int32 × mk_S) (h : F_X11_roof x0 x1 x2 t = some z) : mk_is t x0 10 ∧ mk_Ct M_X11_roof [.ref x0, .int x1, .int x2] t (mk_wi z.1, z.2) :=
  ⟨(mk_gd_spec h).1, mk_ct (w := mk_wi) (by decide +kernel) (Nat.le_of_ble_eq_true rfl) (p_X11_roof x0 x1 x2 t) z (mk_gd_spec h).2⟩
def F_X11_isCell (x0 : Nat) (x1 : Int32) (t : mk_S) : Option (Int32 × mk_S) := mk_gd t x0 10 ((mk_ga t x0 10 4).bind fun v1 => (mk_ga t v1 9 0).bind fun v2 => (F_X3_cells v2 t).bind fun z3 => (F_X11_within x1 (0 : Int32) (z3.1 - (1 : Int32)) z3.2).bind fun z4 => mk_rz z4.1 z4.2)
theorem p_X11_isCell (x0 : Nat) (x1 : Int32) (t : mk_S) : mk_O mk_wi M_X11_isCell 0 [some (.ref x0), some (.int x1)] [] t ((mk_ga t x0 10 4).bind fun v1 => (mk_ga t v1 9 0).bind fun v2 => (F_X3_cells v2 t).bind fun z3 => (F_X11_within x1 (0 : Int32) (z3.1 - (1 : Int32)) z3.2).bind fun z4 => mk_rz z4.1 z4.2) := by
  refine xo_iload_n rfl rfl dX11_isCell_0 ?_
  refine xo_iconst kc_0 dX11_isCell_1 ?_
  refine xo_aload_n rfl rfl dX11_isCell_2 ?_
  refine xo_geta dX11_isCell_3 cl_10 fl_RX11_41 rfl (fun v1 => ?_)
  refine xo_geta dX11_isCell_6 cl_9 fl_RX11_78 rfl (fun v2 => ?_)
  refine mk_O.callV (N := M_X3_cells) (ci := 3) (q := (RX3, TX3, 12)) (b := v2) (As1 := []) (S := [.int (0 : Int32), .int x1]) md_X3_cells mv_X3_cells lk_RX11_294 rfl (Nat.le_of_ble_eq_true rfl) (by decide) dX11_isCell_9 rfl rfl rfl (fun z hz => (c_X3_cells v2 t z hz).1) (fun z hz => (c_X3_cells v2 t z hz).2) (fun z3 _ => ?_)
  show mk_O _ _ _ _ (.int z3.1 :: [.int (0 : Int32), .int x1]) _ _
  refine xo_iconst kc_1 dX11_isCell_12 ?_
  refine xo_isub dX11_isCell_13 ?_
  refine mk_O.callS (N := M_X11_within) (As := [.int x1, .int (0 : Int32), .int (z3.1 - (1 : Int32))]) (S := []) md_X11_within ms_X11_within lk_RX11_61 rfl (Nat.le_of_ble_eq_true rfl) (by decide) dX11_isCell_14 rfl (fun z hz => c_X11_within x1 (0 : Int32) (z3.1 - (1 : Int32)) z3.2 z hz) (fun z4 _ => ?_)
  show mk_O _ _ _ _ (.int z4.1 :: []) _ _
  exact xo_zret dX11_isCell_17 rfl
theorem c_X11_isCell (x0 : Nat) (x1 : Int32) (t : mk_S) (z : Int32 × mk_S) (h : F_X11_isCell x0 x1 t = some z) : mk_is t x0 10 ∧ mk_Ct M_X11_isCell [.ref x0, .int x1] t (mk_wi z.1, z.2) :=
  ⟨(mk_gd_spec h).1, mk_ct (w := mk_wi) (by decide +kernel) (Nat.le_of_ble_eq_true rfl) (p_X11_isCell x0 x1 t) z (mk_gd_spec h).2⟩
def F_X11_wind (x0 : Nat) (x1 : Int32) (t : mk_S) : Option (Int32 × mk_S) := mk_gd t x0 10 ((F_X11_isCell x0 x1 t).bind fun z1 => if z1.1 = 0 then (some ((-1 : Int32), z1.2)) else ((mk_ga z1.2 x0 10 4).bind fun v2 => (mk_ga z1.2 v2 9 1).bind fun v3 => (F_X7_windAt v3 x1 z1.2).bind fun z4 => some (z4.1, z4.2)))
theorem p_X11_wind (x0 : Nat) (x1 : Int32) (t : mk_S) : mk_O mk_wi M_X11_wind 0 [some (.ref x0), some (.int x1)] [] t ((F_X11_isCell x0 x1 t).bind fun z1 => if z1.1 = 0 then (some ((-1 : Int32), z1.2)) else ((mk_ga z1.2 x0 10 4).bind fun v2 => (mk_ga z1.2 v2 9 1).bind fun v3 => (F_X7_windAt v3 x1 z1.2).bind fun z4 => some (z4.1, z4.2))) := by
  refine xo_aload_n rfl rfl dX11_wind_0 ?_
  refine xo_iload_n rfl rfl dX11_wind_1 ?_
  refine mk_O.callV (N := M_X11_isCell) (ci := 10) (q := (RX11, TX11, 7)) (b := x0) (As1 := [.int x1]) (S := []) md_X11_isCell mv_X11_isCell lk_RX11_150 rfl (Nat.le_of_ble_eq_true rfl) (by decide) dX11_wind_2 rfl rfl rfl (fun z hz => (c_X11_isCell x0 x1 t z hz).1) (fun z hz => (c_X11_isCell x0 x1 t z hz).2) (fun z1 _ => ?_)
  show mk_O _ _ _ _ (.int z1.1 :: []) _ _
  refine xo_if_eq (tgt := 22) dX11_wind_5 rfl (fun _ => ?_) (fun _ => ?_)
  · refine xo_iconst kc_m1 dX11_wind_22 ?_
    exact xo_iret dX11_wind_23 rfl
  · refine xo_aload_n rfl rfl dX11_wind_8 ?_
    refine xo_geta dX11_wind_9 cl_10 fl_RX11_41 rfl (fun v2 => ?_)
    refine xo_geta dX11_wind_12 cl_9 fl_RX11_101 rfl (fun v3 => ?_)
    refine xo_iload_n rfl rfl dX11_wind_15 ?_
    refine mk_O.callV (N := M_X7_windAt) (ci := 6) (q := (RX7, TX7, 9)) (b := v3) (As1 := [.int x1]) (S := []) md_X7_windAt mv_X7_windAt lk_RX11_153 rfl (Nat.le_of_ble_eq_true rfl) (by decide) dX11_wind_16 rfl rfl rfl (fun z hz => (c_X7_windAt v3 x1 z1.2 z hz).1) (fun z hz => (c_X7_windAt v3 x1 z1.2 z hz).2) (fun z4 _ => ?_)
    show mk_O _ _ _ _ (.int z4.1 :: []) _ _
    refine xo_goto (tgt := 23) dX11_wind_19 rfl ?_
    exact xo_iret dX11_wind_23 rfl
theorem c_X11_wind (x0 : Nat) (x1 : Int32) (t : mk_S) (z : Int32 × mk_S) (h : F_X11_wind x0 x1 t = some z) : mk_is t x0 10 ∧ mk_Ct M_X11_wind [.ref x0, .int x1] t (mk_wi z.1, z.2) :=
  ⟨(mk_gd_spec h).1, mk_ct (w := mk_wi) (by decide +kernel) (Nat.le_of_ble_eq_true rfl) (p_X11_wind x0 x1 t) z (mk_gd_spec h).2⟩
def F_X11_count (x0 : Nat) (x1 : Int32) (t : mk_S) : Option (Int32 × mk_S) := mk_gd t x0 10 (if x1 = (0 : Int32) then ((mk_ga t x0 10 4).bind fun v1 => (mk_ga t v1 9 0).bind fun v2 => (mk_gi t v2 3 0).bind fun v3 => some (v3, t)) else (if x1 = (1 : Int32) then ((mk_ga t x0 10 4).bind fun v4 => (mk_ga t v4 9 0).bind fun v5 => (mk_gi t v5 3 1).bind fun v6 => some (v6, t)) else (if x1 = (2 : Int32) then ((mk_ga t x0 10 4).bind fun v7 => (mk_ga t v7 9 0).bind fun v8 => (mk_gi t v8 3 2).bind fun v9 => some (v9, t)) else (if x1 = (3 : Int32) then ((mk_ga t x0 10 4).bind fun v10 => (mk_ga t v10 9 0).bind fun v11 => (mk_gi t v11 3 3).bind fun v12 => some (v12, t)) else (if x1 = (4 : Int32) then ((mk_ga t x0 10 4).bind fun v13 => (mk_ga t v13 9 0).bind fun v14 => (mk_gi t v14 3 4).bind fun v15 => some (v15, t)) else (if x1 = (5 : Int32) then ((mk_ga t x0 10 3).bind fun v16 => (mk_gi t v16 2 2).bind fun v17 => some (v17, t)) else (if x1 = (6 : Int32) then ((mk_ga t x0 10 4).bind fun v18 => (mk_gi t v18 9 4).bind fun v19 => some (v19, t)) else (if x1 = (7 : Int32) then ((mk_ga t x0 10 4).bind fun v20 => (mk_ga t v20 9 1).bind fun v21 => (mk_gi t v21 6 8).bind fun v22 => some (v22, t)) else (if x1 = (8 : Int32) then ((mk_ga t x0 10 4).bind fun v23 => (mk_ga t v23 9 1).bind fun v24 => (F_X7_groundInAll v24 t).bind fun z25 => some (z25.1, z25.2)) else (if x1 = (9 : Int32) then ((mk_ga t x0 10 4).bind fun v26 => (mk_ga t v26 9 1).bind fun v27 => (mk_gi t v27 6 7).bind fun v28 => some (v28, t)) else (if x1 = (10 : Int32) then ((mk_ga t x0 10 4).bind fun v29 => (mk_ga t v29 9 1).bind fun v30 => (F_X7_windInAll v30 t).bind fun z31 => some (z31.1, z31.2)) else (if x1 = (11 : Int32) then ((mk_ga t x0 10 4).bind fun v32 => (mk_ga t v32 9 1).bind fun v33 => (F_X7_actedInAll v33 t).bind fun z34 => some (z34.1, z34.2)) else (if x1 = (12 : Int32) then ((mk_ga t x0 10 4).bind fun v35 => (mk_ga t v35 9 3).bind fun v36 => (mk_gi t v36 1 3).bind fun v37 => some (v37, t)) else (if x1 = (13 : Int32) then ((mk_ga t x0 10 4).bind fun v38 => (mk_ga t v38 9 2).bind fun v39 => (mk_gi t v39 0 2).bind fun v40 => some (v40, t)) else (if x1 = (14 : Int32) then ((mk_ga t x0 10 4).bind fun v41 => (mk_gi t v41 9 5).bind fun v42 => some (v42, t)) else (if x1 = (15 : Int32) then ((mk_ga t x0 10 0).bind fun v43 => (mk_gi t v43 7 1).bind fun v44 => some (v44, t)) else (some ((-1 : Int32), t))))))))))))))))))
theorem p_X11_count (x0 : Nat) (x1 : Int32) (t : mk_S) : mk_O mk_wi M_X11_count 0 [some (.ref x0), some (.int x1)] [] t (if x1 = (0 : Int32) then ((mk_ga t x0 10 4).bind fun v1 => (mk_ga t v1 9 0).bind fun v2 => (mk_gi t v2 3 0).bind fun v3 => some (v3, t)) else (if x1 = (1 : Int32) then ((mk_ga t x0 10 4).bind fun v4 => (mk_ga t v4 9 0).bind fun v5 => (mk_gi t v5 3 1).bind fun v6 => some (v6, t)) else (if x1 = (2 : Int32) then ((mk_ga t x0 10 4).bind fun v7 => (mk_ga t v7 9 0).bind fun v8 => (mk_gi t v8 3 2).bind fun v9 => some (v9, t)) else (if x1 = (3 : Int32) then ((mk_ga t x0 10 4).bind fun v10 => (mk_ga t v10 9 0).bind fun v11 => (mk_gi t v11 3 3).bind fun v12 => some (v12, t)) else (if x1 = (4 : Int32) then ((mk_ga t x0 10 4).bind fun v13 => (mk_ga t v13 9 0).bind fun v14 => (mk_gi t v14 3 4).bind fun v15 => some (v15, t)) else (if x1 = (5 : Int32) then ((mk_ga t x0 10 3).bind fun v16 => (mk_gi t v16 2 2).bind fun v17 => some (v17, t)) else (if x1 = (6 : Int32) then ((mk_ga t x0 10 4).bind fun v18 => (mk_gi t v18 9 4).bind fun v19 => some (v19, t)) else (if x1 = (7 : Int32) then ((mk_ga t x0 10 4).bind fun v20 => (mk_ga t v20 9 1).bind fun v21 => (mk_gi t v21 6 8).bind fun v22 => some (v22, t)) else (if x1 = (8 : Int32) then ((mk_ga t x0 10 4).bind fun v23 => (mk_ga t v23 9 1).bind fun v24 => (F_X7_groundInAll v24 t).bind fun z25 => some (z25.1, z25.2)) else (if x1 = (9 : Int32) then ((mk_ga t x0 10 4).bind fun v26 => (mk_ga t v26 9 1).bind fun v27 => (mk_gi t v27 6 7).bind fun v28 => some (v28, t)) else (if x1 = (10 : Int32) then ((mk_ga t x0 10 4).bind fun v29 => (mk_ga t v29 9 1).bind fun v30 => (F_X7_windInAll v30 t).bind fun z31 => some (z31.1, z31.2)) else (if x1 = (11 : Int32) then ((mk_ga t x0 10 4).bind fun v32 => (mk_ga t v32 9 1).bind fun v33 => (F_X7_actedInAll v33 t).bind fun z34 => some (z34.1, z34.2)) else (if x1 = (12 : Int32) then ((mk_ga t x0 10 4).bind fun v35 => (mk_ga t v35 9 3).bind fun v36 => (mk_gi t v36 1 3).bind fun v37 => some (v37, t)) else (if x1 = (13 : Int32) then ((mk_ga t x0 10 4).bind fun v38 => (mk_ga t v38 9 2).bind fun v39 => (mk_gi t v39 0 2).bind fun v40 => some (v40, t)) else (if x1 = (14 : Int32) then ((mk_ga t x0 10 4).bind fun v41 => (mk_gi t v41 9 5).bind fun v42 => some (v42, t)) else (if x1 = (15 : Int32) then ((mk_ga t x0 10 0).bind fun v43 => (mk_gi t v43 7 1).bind fun v44 => some (v44, t)) else (some ((-1 : Int32), t)))))))))))))))))) := by
  refine xo_iload_n rfl rfl dX11_count_0 ?_
  refine mk_O.cs (fun n0 => ?_) (fun n0 => ?_)
  · refine xo_tab (kx := 0) (j := 0) n0 dX11_count_1 (by decide) (by decide) (by decide) rfl rfl ?_
    refine xo_aload_n rfl rfl dX11_count_80 ?_
    refine xo_geta dX11_count_81 cl_10 fl_RX11_41 rfl (fun v1 => ?_)
    refine xo_geta dX11_count_84 cl_9 fl_RX11_78 rfl (fun v2 => ?_)
    refine xo_geti dX11_count_87 cl_3 fl_RX11_157 rfl (fun v3 => ?_)
    exact xo_iret dX11_count_90 rfl
  · refine mk_O.cs (fun n1 => ?_) (fun n1 => ?_)
    · refine xo_tab (kx := 1) (j := 1) n1 dX11_count_1 (by decide) (by decide) (by decide) rfl rfl ?_
      refine xo_aload_n rfl rfl dX11_count_91 ?_
      refine xo_geta dX11_count_92 cl_10 fl_RX11_41 rfl (fun v4 => ?_)
      refine xo_geta dX11_count_95 cl_9 fl_RX11_78 rfl (fun v5 => ?_)
      refine xo_geti dX11_count_98 cl_3 fl_RX11_160 rfl (fun v6 => ?_)
      exact xo_iret dX11_count_101 rfl
    · refine mk_O.cs (fun n2 => ?_) (fun n2 => ?_)
      · refine xo_tab (kx := 2) (j := 2) n2 dX11_count_1 (by decide) (by decide) (by decide) rfl rfl ?_
        refine xo_aload_n rfl rfl dX11_count_102 ?_
        refine xo_geta dX11_count_103 cl_10 fl_RX11_41 rfl (fun v7 => ?_)
        refine xo_geta dX11_count_106 cl_9 fl_RX11_78 rfl (fun v8 => ?_)
        refine xo_geti dX11_count_109 cl_3 fl_RX11_81 rfl (fun v9 => ?_)
        exact xo_iret dX11_count_112 rfl
      · refine mk_O.cs (fun n3 => ?_) (fun n3 => ?_)
        · refine xo_tab (kx := 3) (j := 3) n3 dX11_count_1 (by decide) (by decide) (by decide) rfl rfl ?_
          refine xo_aload_n rfl rfl dX11_count_113 ?_
          refine xo_geta dX11_count_114 cl_10 fl_RX11_41 rfl (fun v10 => ?_)
          refine xo_geta dX11_count_117 cl_9 fl_RX11_78 rfl (fun v11 => ?_)
          refine xo_geti dX11_count_120 cl_3 fl_RX11_163 rfl (fun v12 => ?_)
          exact xo_iret dX11_count_123 rfl
        · refine mk_O.cs (fun n4 => ?_) (fun n4 => ?_)
          · refine xo_tab (kx := 4) (j := 4) n4 dX11_count_1 (by decide) (by decide) (by decide) rfl rfl ?_
            refine xo_aload_n rfl rfl dX11_count_124 ?_
            refine xo_geta dX11_count_125 cl_10 fl_RX11_41 rfl (fun v13 => ?_)
            refine xo_geta dX11_count_128 cl_9 fl_RX11_78 rfl (fun v14 => ?_)
            refine xo_geti dX11_count_131 cl_3 fl_RX11_166 rfl (fun v15 => ?_)
            exact xo_iret dX11_count_134 rfl
          · refine mk_O.cs (fun n5 => ?_) (fun n5 => ?_)
            · refine xo_tab (kx := 5) (j := 5) n5 dX11_count_1 (by decide) (by decide) (by decide) rfl rfl ?_
              refine xo_aload_n rfl rfl dX11_count_135 ?_
              refine xo_geta dX11_count_136 cl_10 fl_RX11_33 rfl (fun v16 => ?_)
              refine xo_geti dX11_count_139 cl_2 fl_RX11_84 rfl (fun v17 => ?_)
              exact xo_iret dX11_count_142 rfl
            · refine mk_O.cs (fun n6 => ?_) (fun n6 => ?_)
              · refine xo_tab (kx := 6) (j := 6) n6 dX11_count_1 (by decide) (by decide) (by decide) rfl rfl ?_
                refine xo_aload_n rfl rfl dX11_count_143 ?_
                refine xo_geta dX11_count_144 cl_10 fl_RX11_41 rfl (fun v18 => ?_)
                refine xo_geti dX11_count_147 cl_9 fl_RX11_94 rfl (fun v19 => ?_)
                exact xo_iret dX11_count_150 rfl
              · refine mk_O.cs (fun n7 => ?_) (fun n7 => ?_)
                · refine xo_tab (kx := 7) (j := 7) n7 dX11_count_1 (by decide) (by decide) (by decide) rfl rfl ?_
                  refine xo_aload_n rfl rfl dX11_count_151 ?_
                  refine xo_geta dX11_count_152 cl_10 fl_RX11_41 rfl (fun v20 => ?_)
                  refine xo_geta dX11_count_155 cl_9 fl_RX11_101 rfl (fun v21 => ?_)
                  refine xo_geti dX11_count_158 cl_6 fl_RX11_169 rfl (fun v22 => ?_)
                  exact xo_iret dX11_count_161 rfl
                · refine mk_O.cs (fun n8 => ?_) (fun n8 => ?_)
                  · refine xo_tab (kx := 8) (j := 8) n8 dX11_count_1 (by decide) (by decide) (by decide) rfl rfl ?_
                    refine xo_aload_n rfl rfl dX11_count_162 ?_
                    refine xo_geta dX11_count_163 cl_10 fl_RX11_41 rfl (fun v23 => ?_)
                    refine xo_geta dX11_count_166 cl_9 fl_RX11_101 rfl (fun v24 => ?_)
                    refine mk_O.callV (N := M_X7_groundInAll) (ci := 6) (q := (RX7, TX7, 9)) (b := v24) (As1 := []) (S := []) md_X7_groundInAll mv_X7_groundInAll lk_RX11_172 rfl (Nat.le_of_ble_eq_true rfl) (by decide) dX11_count_169 rfl rfl rfl (fun z hz => (c_X7_groundInAll v24 t z hz).1) (fun z hz => (c_X7_groundInAll v24 t z hz).2) (fun z25 _ => ?_)
                    show mk_O _ _ _ _ (.int z25.1 :: []) _ _
                    exact xo_iret dX11_count_172 rfl
                  · refine mk_O.cs (fun n9 => ?_) (fun n9 => ?_)
                    · refine xo_tab (kx := 9) (j := 9) n9 dX11_count_1 (by decide) (by decide) (by decide) rfl rfl ?_
                      refine xo_aload_n rfl rfl dX11_count_173 ?_
                      refine xo_geta dX11_count_174 cl_10 fl_RX11_41 rfl (fun v26 => ?_)
                      refine xo_geta dX11_count_177 cl_9 fl_RX11_101 rfl (fun v27 => ?_)
                      refine xo_geti dX11_count_180 cl_6 fl_RX11_147 rfl (fun v28 => ?_)
                      exact xo_iret dX11_count_183 rfl
                    · refine mk_O.cs (fun n10 => ?_) (fun n10 => ?_)
                      · refine xo_tab (kx := 10) (j := 10) n10 dX11_count_1 (by decide) (by decide) (by decide) rfl rfl ?_
                        refine xo_aload_n rfl rfl dX11_count_184 ?_
                        refine xo_geta dX11_count_185 cl_10 fl_RX11_41 rfl (fun v29 => ?_)
                        refine xo_geta dX11_count_188 cl_9 fl_RX11_101 rfl (fun v30 => ?_)
                        refine mk_O.callV (N := M_X7_windInAll) (ci := 6) (q := (RX7, TX7, 9)) (b := v30) (As1 := []) (S := []) md_X7_windInAll mv_X7_windInAll lk_RX11_176 rfl (Nat.le_of_ble_eq_true rfl) (by decide) dX11_count_191 rfl rfl rfl (fun z hz => (c_X7_windInAll v30 t z hz).1) (fun z hz => (c_X7_windInAll v30 t z hz).2) (fun z31 _ => ?_)
                        show mk_O _ _ _ _ (.int z31.1 :: []) _ _
                        exact xo_iret dX11_count_194 rfl
                      · refine mk_O.cs (fun n11 => ?_) (fun n11 => ?_)
                        · refine xo_tab (kx := 11) (j := 11) n11 dX11_count_1 (by decide) (by decide) (by decide) rfl rfl ?_
                          refine xo_aload_n rfl rfl dX11_count_195 ?_
                          refine xo_geta dX11_count_196 cl_10 fl_RX11_41 rfl (fun v32 => ?_)
                          refine xo_geta dX11_count_199 cl_9 fl_RX11_101 rfl (fun v33 => ?_)
                          refine mk_O.callV (N := M_X7_actedInAll) (ci := 6) (q := (RX7, TX7, 9)) (b := v33) (As1 := []) (S := []) md_X7_actedInAll mv_X7_actedInAll lk_RX11_179 rfl (Nat.le_of_ble_eq_true rfl) (by decide) dX11_count_202 rfl rfl rfl (fun z hz => (c_X7_actedInAll v33 t z hz).1) (fun z hz => (c_X7_actedInAll v33 t z hz).2) (fun z34 _ => ?_)
                          show mk_O _ _ _ _ (.int z34.1 :: []) _ _
                          exact xo_iret dX11_count_205 rfl
                        · refine mk_O.cs (fun n12 => ?_) (fun n12 => ?_)
                          · refine xo_tab (kx := 12) (j := 12) n12 dX11_count_1 (by decide) (by decide) (by decide) rfl rfl ?_
                            refine xo_aload_n rfl rfl dX11_count_206 ?_
                            refine xo_geta dX11_count_207 cl_10 fl_RX11_41 rfl (fun v35 => ?_)
                            refine xo_geta dX11_count_210 cl_9 fl_RX11_182 rfl (fun v36 => ?_)
                            refine xo_geti dX11_count_213 cl_1 fl_RX11_186 rfl (fun v37 => ?_)
                            exact xo_iret dX11_count_216 rfl
                          · refine mk_O.cs (fun n13 => ?_) (fun n13 => ?_)
                            · refine xo_tab (kx := 13) (j := 13) n13 dX11_count_1 (by decide) (by decide) (by decide) rfl rfl ?_
                              refine xo_aload_n rfl rfl dX11_count_217 ?_
                              refine xo_geta dX11_count_218 cl_10 fl_RX11_41 rfl (fun v38 => ?_)
                              refine xo_geta dX11_count_221 cl_9 fl_RX11_191 rfl (fun v39 => ?_)
                              refine xo_geti dX11_count_224 cl_0 fl_RX11_195 rfl (fun v40 => ?_)
                              exact xo_iret dX11_count_227 rfl
                            · refine mk_O.cs (fun n14 => ?_) (fun n14 => ?_)
                              · refine xo_tab (kx := 14) (j := 14) n14 dX11_count_1 (by decide) (by decide) (by decide) rfl rfl ?_
                                refine xo_aload_n rfl rfl dX11_count_228 ?_
                                refine xo_geta dX11_count_229 cl_10 fl_RX11_41 rfl (fun v41 => ?_)
                                refine xo_geti dX11_count_232 cl_9 fl_RX11_198 rfl (fun v42 => ?_)
                                exact xo_iret dX11_count_235 rfl
                              · refine mk_O.cs (fun n15 => ?_) (fun n15 => ?_)
                                · refine xo_tab (kx := 15) (j := 15) n15 dX11_count_1 (by decide) (by decide) (by decide) rfl rfl ?_
                                  refine xo_aload_n rfl rfl dX11_count_236 ?_
                                  refine xo_geta dX11_count_237 cl_10 fl_RX11_12 rfl (fun v43 => ?_)
                                  refine xo_geti dX11_count_240 cl_7 fl_RX11_53 rfl (fun v44 => ?_)
                                  exact xo_iret dX11_count_243 rfl
                                · refine xo_tabo dX11_count_1 (by have q0 := lv_neT (a := 0) n0 (by decide); have q1 := lv_neT (a := 1) n1 (by decide); have q2 := lv_neT (a := 2) n2 (by decide); have q3 := lv_neT (a := 3) n3 (by decide); have q4 := lv_neT (a := 4) n4 (by decide); have q5 := lv_neT (a := 5) n5 (by decide); have q6 := lv_neT (a := 6) n6 (by decide); have q7 := lv_neT (a := 7) n7 (by decide); have q8 := lv_neT (a := 8) n8 (by decide); have q9 := lv_neT (a := 9) n9 (by decide); have q10 := lv_neT (a := 10) n10 (by decide); have q11 := lv_neT (a := 11) n11 (by decide); have q12 := lv_neT (a := 12) n12 (by decide); have q13 := lv_neT (a := 13) n13 (by decide); have q14 := lv_neT (a := 14) n14 (by decide); have q15 := lv_neT (a := 15) n15 (by decide); omega) rfl ?_
                                  refine xo_iconst kc_m1 dX11_count_244 ?_
                                  exact xo_iret dX11_count_245 rfl
theorem c_X11_count (x0 : Nat) (x1 : Int32) (t : mk_S) (z : Int32 × mk_S) (h : F_X11_count x0 x1 t = some z) : mk_is t x0 10 ∧ mk_Ct M_X11_count [.ref x0, .int x1] t (mk_wi z.1, z.2) :=
  ⟨(mk_gd_spec h).1, mk_ct (w := mk_wi) (by decide +kernel) (Nat.le_of_ble_eq_true rfl) (p_X11_count x0 x1 t) z (mk_gd_spec h).2⟩
def F_X11_hour (x0 : Nat) (t : mk_S) : Option (Int32 × mk_S) := mk_gd t x0 10 ((mk_ga t x0 10 4).bind fun v1 => (mk_ga t v1 9 0).bind fun v2 => (F_X3_isThere v2 t).bind fun z3 => if z3.1 = 0 then (some ((-1 : Int32), z3.2)) else ((mk_ga z3.2 x0 10 4).bind fun v4 => (mk_ga z3.2 v4 9 1).bind fun v5 => (mk_gi z3.2 v5 6 8).bind fun v6 => if v6 < (999 : Int32) then ((mk_ga z3.2 x0 10 4).bind fun v7 => (mk_ga z3.2 v7 9 2).bind fun v8 => (mk_ga z3.2 x0 10 4).bind fun v9 => (mk_ga z3.2 v9 9 1).bind fun v10 => (F_X0_keep v8 v10 z3.2).bind fun z11 => (mk_ga z11.2 x0 10 3).bind fun v12 => (mk_ga z11.2 v12 2 3).bind fun v13 => (mk_ga z11.2 x0 10 4).bind fun v14 => (mk_ga z11.2 v14 9 0).bind fun v15 => (mk_ga z11.2 x0 10 3).bind fun v16 => (F_X2_inForce v16 z11.2).bind fun z17 => (mk_ga z17.2 x0 10 4).bind fun v18 => (mk_ga z17.2 v18 9 1).bind fun v19 => (F_X9_pass v13 v15 z17.1 v19 (-1 : Int32) z17.2).bind fun z20 => some (z20.1, z20.2)) else (some ((-1 : Int32), z3.2))))
theorem p_X11_hour (x0 : Nat) (t : mk_S) : mk_O mk_wi M_X11_hour 0 [some (.ref x0)] [] t ((mk_ga t x0 10 4).bind fun v1 => (mk_ga t v1 9 0).bind fun v2 => (F_X3_isThere v2 t).bind fun z3 => if z3.1 = 0 then (some ((-1 : Int32), z3.2)) else ((mk_ga z3.2 x0 10 4).bind fun v4 => (mk_ga z3.2 v4 9 1).bind fun v5 => (mk_gi z3.2 v5 6 8).bind fun v6 => if v6 < (999 : Int32) then ((mk_ga z3.2 x0 10 4).bind fun v7 => (mk_ga z3.2 v7 9 2).bind fun v8 => (mk_ga z3.2 x0 10 4).bind fun v9 => (mk_ga z3.2 v9 9 1).bind fun v10 => (F_X0_keep v8 v10 z3.2).bind fun z11 => (mk_ga z11.2 x0 10 3).bind fun v12 => (mk_ga z11.2 v12 2 3).bind fun v13 => (mk_ga z11.2 x0 10 4).bind fun v14 => (mk_ga z11.2 v14 9 0).bind fun v15 => (mk_ga z11.2 x0 10 3).bind fun v16 => (F_X2_inForce v16 z11.2).bind fun z17 => (mk_ga z17.2 x0 10 4).bind fun v18 => (mk_ga z17.2 v18 9 1).bind fun v19 => (F_X9_pass v13 v15 z17.1 v19 (-1 : Int32) z17.2).bind fun z20 => some (z20.1, z20.2)) else (some ((-1 : Int32), z3.2)))) := by
  refine xo_aload_n rfl rfl dX11_hour_0 ?_
  refine xo_geta dX11_hour_1 cl_10 fl_RX11_41 rfl (fun v1 => ?_)
  refine xo_geta dX11_hour_4 cl_9 fl_RX11_78 rfl (fun v2 => ?_)
  refine mk_O.callV (N := M_X3_isThere) (ci := 3) (q := (RX3, TX3, 12)) (b := v2) (As1 := []) (S := []) md_X3_isThere mv_X3_isThere lk_RX11_201 rfl (Nat.le_of_ble_eq_true rfl) (by decide) dX11_hour_7 rfl rfl rfl (fun z hz => (c_X3_isThere v2 t z hz).1) (fun z hz => (c_X3_isThere v2 t z hz).2) (fun z3 _ => ?_)
  show mk_O _ _ _ _ (.int z3.1 :: []) _ _
  refine xo_if_eq (tgt := 29) dX11_hour_10 rfl (fun _ => ?_) (fun _ => ?_)
  · refine xo_iconst kc_m1 dX11_hour_29 ?_
    exact xo_iret dX11_hour_30 rfl
  · refine xo_aload_n rfl rfl dX11_hour_13 ?_
    refine xo_geta dX11_hour_14 cl_10 fl_RX11_41 rfl (fun v4 => ?_)
    refine xo_geta dX11_hour_17 cl_9 fl_RX11_101 rfl (fun v5 => ?_)
    refine xo_geti dX11_hour_20 cl_6 fl_RX11_169 rfl (fun v6 => ?_)
    refine xo_sipush ks_999 dX11_hour_23 ?_
    refine xo_icmp_lt (tgt := 31) dX11_hour_26 rfl (fun _ => ?_) (fun _ => ?_)
    · refine xo_aload_n rfl rfl dX11_hour_31 ?_
      refine xo_geta dX11_hour_32 cl_10 fl_RX11_41 rfl (fun v7 => ?_)
      refine xo_geta dX11_hour_35 cl_9 fl_RX11_191 rfl (fun v8 => ?_)
      refine xo_aload_n rfl rfl dX11_hour_38 ?_
      refine xo_geta dX11_hour_39 cl_10 fl_RX11_41 rfl (fun v9 => ?_)
      refine xo_geta dX11_hour_42 cl_9 fl_RX11_101 rfl (fun v10 => ?_)
      refine mk_O.callV (N := M_X0_keep) (ci := 0) (q := (RX0, TX0, 3)) (b := v8) (As1 := [.ref v10]) (S := []) md_X0_keep mv_X0_keep lk_RX11_205 rfl (Nat.le_of_ble_eq_true rfl) (by decide) dX11_hour_45 rfl rfl rfl (fun z hz => (c_X0_keep v8 v10 z3.2 z hz).1) (fun z hz => (c_X0_keep v8 v10 z3.2 z hz).2) (fun z11 _ => ?_)
      show mk_O _ _ _ _ [] _ _
      refine xo_aload_n rfl rfl dX11_hour_48 ?_
      refine xo_geta dX11_hour_49 cl_10 fl_RX11_33 rfl (fun v12 => ?_)
      refine xo_geta dX11_hour_52 cl_2 fl_RX11_209 rfl (fun v13 => ?_)
      refine xo_aload_n rfl rfl dX11_hour_55 ?_
      refine xo_geta dX11_hour_56 cl_10 fl_RX11_41 rfl (fun v14 => ?_)
      refine xo_geta dX11_hour_59 cl_9 fl_RX11_78 rfl (fun v15 => ?_)
      refine xo_aload_n rfl rfl dX11_hour_62 ?_
      refine xo_geta dX11_hour_63 cl_10 fl_RX11_33 rfl (fun v16 => ?_)
      refine mk_O.callV (N := M_X2_inForce) (ci := 2) (q := (RX2, TX2, 14)) (b := v16) (As1 := []) (S := [.ref v15, .ref v13]) md_X2_inForce mv_X2_inForce lk_RX11_213 rfl (Nat.le_of_ble_eq_true rfl) (by decide) dX11_hour_66 rfl rfl rfl (fun z hz => (c_X2_inForce v16 z11.2 z hz).1) (fun z hz => (c_X2_inForce v16 z11.2 z hz).2) (fun z17 _ => ?_)
      show mk_O _ _ _ _ (va_rf z17.1 :: [.ref v15, .ref v13]) _ _
      refine xo_aload_n rfl rfl dX11_hour_69 ?_
      refine xo_geta dX11_hour_70 cl_10 fl_RX11_41 rfl (fun v18 => ?_)
      refine xo_geta dX11_hour_73 cl_9 fl_RX11_101 rfl (fun v19 => ?_)
      refine xo_iconst kc_m1 dX11_hour_76 ?_
      refine mk_O.callV (N := M_X9_pass) (ci := 8) (q := (RX9, TX9, 1)) (b := v13) (As1 := [.ref v15, va_rf z17.1, .ref v19, .int (-1 : Int32)]) (S := []) md_X9_pass mv_X9_pass lk_RX11_217 rfl (Nat.le_of_ble_eq_true rfl) (by decide) dX11_hour_77 rfl rfl rfl (fun z hz => (c_X9_pass v13 v15 z17.1 v19 (-1 : Int32) z17.2 z hz).1) (fun z hz => (c_X9_pass v13 v15 z17.1 v19 (-1 : Int32) z17.2 z hz).2) (fun z20 _ => ?_)
      show mk_O _ _ _ _ (.int z20.1 :: []) _ _
      exact xo_iret dX11_hour_80 rfl
    · refine xo_iconst kc_m1 dX11_hour_29 ?_
      exact xo_iret dX11_hour_30 rfl
theorem c_X11_hour (x0 : Nat) (t : mk_S) (z : Int32 × mk_S) (h : F_X11_hour x0 t = some z) : mk_is t x0 10 ∧ mk_Ct M_X11_hour [.ref x0] t (mk_wi z.1, z.2) :=
  ⟨(mk_gd_spec h).1, mk_ct (w := mk_wi) (by decide +kernel) (Nat.le_of_ble_eq_true rfl) (p_X11_hour x0 t) z (mk_gd_spec h).2⟩
def F_X11_wine (x0 : Nat) (x1 : Int32) (x2 : Int32) (t : mk_S) : Option (Int32 × mk_S) := mk_gd t x0 10 ((F_X11_isPerson x0 x1 t).bind fun z1 => if z1.1 = 0 then (some ((-1 : Int32), z1.2)) else ((F_X11_within x2 (1 : Int32) (9 : Int32) z1.2).bind fun z2 => if z2.1 = 0 then (some ((-1 : Int32), z2.2)) else ((mk_ga z2.2 x0 10 4).bind fun v3 => (mk_ga z2.2 v3 9 2).bind fun v4 => (mk_ga z2.2 x0 10 4).bind fun v5 => (mk_ga z2.2 v5 9 1).bind fun v6 => (F_X0_keep v4 v6 z2.2).bind fun z7 => (mk_ga z7.2 x0 10 4).bind fun v8 => (mk_ga z7.2 v8 9 1).bind fun v9 => (F_X7_urgeOn v9 x1 x2 z7.2).bind fun z10 => (mk_ga z10.2 x0 10 4).bind fun v11 => (mk_ga z10.2 v11 9 1).bind fun v12 => (mk_ga z10.2 v12 6 2).bind fun v13 => (mk_ld 100 z10.2 v13 x1).bind fun v14 => some (v14, z10.2))))
theorem p_X11_wine (x0 : Nat) (x1 : Int32) (x2 : Int32) (t : mk_S) : mk_O mk_wi M_X11_wine 0 [some (.ref x0), some (.int x1), some (.int x2)] [] t ((F_X11_isPerson x0 x1 t).bind fun z1 => if z1.1 = 0 then (some ((-1 : Int32), z1.2)) else ((F_X11_within x2 (1 : Int32) (9 : Int32) z1.2).bind fun z2 => if z2.1 = 0 then (some ((-1 : Int32), z2.2)) else ((mk_ga z2.2 x0 10 4).bind fun v3 => (mk_ga z2.2 v3 9 2).bind fun v4 => (mk_ga z2.2 x0 10 4).bind fun v5 => (mk_ga z2.2 v5 9 1).bind fun v6 => (F_X0_keep v4 v6 z2.2).bind fun z7 => (mk_ga z7.2 x0 10 4).bind fun v8 => (mk_ga z7.2 v8 9 1).bind fun v9 => (F_X7_urgeOn v9 x1 x2 z7.2).bind fun z10 => (mk_ga z10.2 x0 10 4).bind fun v11 => (mk_ga z10.2 v11 9 1).bind fun v12 => (mk_ga z10.2 v12 6 2).bind fun v13 => (mk_ld 100 z10.2 v13 x1).bind fun v14 => some (v14, z10.2)))) := by
  refine xo_aload_n rfl rfl dX11_wine_0 ?_
  refine xo_iload_n rfl rfl dX11_wine_1 ?_
  refine mk_O.callV (N := M_X11_isPerson) (ci := 10) (q := (RX11, TX11, 7)) (b := x0) (As1 := [.int x1]) (S := []) md_X11_isPerson mv_X11_isPerson lk_RX11_97 rfl (Nat.le_of_ble_eq_true rfl) (by decide) dX11_wine_2 rfl rfl rfl (fun z hz => (c_X11_isPerson x0 x1 t z hz).1) (fun z hz => (c_X11_isPerson x0 x1 t z hz).2) (fun z1 _ => ?_)
  show mk_O _ _ _ _ (.int z1.1 :: []) _ _
  refine xo_if_eq (tgt := 18) dX11_wine_5 rfl (fun _ => ?_) (fun _ => ?_)
  · refine xo_iconst kc_m1 dX11_wine_18 ?_
    exact xo_iret dX11_wine_19 rfl
  · refine xo_iload_n rfl rfl dX11_wine_8 ?_
    refine xo_iconst kc_1 dX11_wine_9 ?_
    refine xo_bipush kb_9 dX11_wine_10 ?_
    refine mk_O.callS (N := M_X11_within) (As := [.int x2, .int (1 : Int32), .int (9 : Int32)]) (S := []) md_X11_within ms_X11_within lk_RX11_61 rfl (Nat.le_of_ble_eq_true rfl) (by decide) dX11_wine_12 rfl (fun z hz => c_X11_within x2 (1 : Int32) (9 : Int32) z1.2 z hz) (fun z2 _ => ?_)
    show mk_O _ _ _ _ (.int z2.1 :: []) _ _
    refine xo_if_ne (tgt := 20) dX11_wine_15 rfl (fun _ => ?_) (fun _ => ?_)
    · refine xo_iconst kc_m1 dX11_wine_18 ?_
      exact xo_iret dX11_wine_19 rfl
    · refine xo_aload_n rfl rfl dX11_wine_20 ?_
      refine xo_geta dX11_wine_21 cl_10 fl_RX11_41 rfl (fun v3 => ?_)
      refine xo_geta dX11_wine_24 cl_9 fl_RX11_191 rfl (fun v4 => ?_)
      refine xo_aload_n rfl rfl dX11_wine_27 ?_
      refine xo_geta dX11_wine_28 cl_10 fl_RX11_41 rfl (fun v5 => ?_)
      refine xo_geta dX11_wine_31 cl_9 fl_RX11_101 rfl (fun v6 => ?_)
      refine mk_O.callV (N := M_X0_keep) (ci := 0) (q := (RX0, TX0, 3)) (b := v4) (As1 := [.ref v6]) (S := []) md_X0_keep mv_X0_keep lk_RX11_205 rfl (Nat.le_of_ble_eq_true rfl) (by decide) dX11_wine_34 rfl rfl rfl (fun z hz => (c_X0_keep v4 v6 z2.2 z hz).1) (fun z hz => (c_X0_keep v4 v6 z2.2 z hz).2) (fun z7 _ => ?_)
      show mk_O _ _ _ _ [] _ _
      refine xo_aload_n rfl rfl dX11_wine_37 ?_
      refine xo_geta dX11_wine_38 cl_10 fl_RX11_41 rfl (fun v8 => ?_)
      refine xo_geta dX11_wine_41 cl_9 fl_RX11_101 rfl (fun v9 => ?_)
      refine xo_iload_n rfl rfl dX11_wine_44 ?_
      refine xo_iload_n rfl rfl dX11_wine_45 ?_
      refine mk_O.callV (N := M_X7_urgeOn) (ci := 6) (q := (RX7, TX7, 9)) (b := v9) (As1 := [.int x1, .int x2]) (S := []) md_X7_urgeOn mv_X7_urgeOn lk_RX11_223 rfl (Nat.le_of_ble_eq_true rfl) (by decide) dX11_wine_46 rfl rfl rfl (fun z hz => (c_X7_urgeOn v9 x1 x2 z7.2 z hz).1) (fun z hz => (c_X7_urgeOn v9 x1 x2 z7.2 z hz).2) (fun z10 _ => ?_)
      show mk_O _ _ _ _ [] _ _
      refine xo_aload_n rfl rfl dX11_wine_49 ?_
      refine xo_geta dX11_wine_50 cl_10 fl_RX11_41 rfl (fun v11 => ?_)
      refine xo_geta dX11_wine_53 cl_9 fl_RX11_101 rfl (fun v12 => ?_)
      refine xo_geta dX11_wine_56 cl_6 fl_RX11_117 rfl (fun v13 => ?_)
      refine xo_iload_n rfl rfl dX11_wine_59 ?_
      refine xo_iald dX11_wine_60 (fun v14 => ?_)
      exact xo_iret dX11_wine_61 rfl
theorem c_X11_wine (x0 : Nat) (x1 : Int32) (x2 : Int32) (t : mk_S) (z : Int32 × mk_S) (h : F_X11_wine x0 x1 x2 t = some z) : mk_is t x0 10 ∧ mk_Ct M_X11_wine [.ref x0, .int x1, .int x2] t (mk_wi z.1, z.2) :=
  ⟨(mk_gd_spec h).1, mk_ct (w := mk_wi) (by decide +kernel) (Nat.le_of_ble_eq_true rfl) (p_X11_wine x0 x1 x2 t) z (mk_gd_spec h).2⟩
def F_X11_place (x0 : Nat) (x1 : Int32) (x2 : Int32) (t : mk_S) : Option (Int32 × mk_S) := mk_gd t x0 10 ((F_X11_isPerson x0 x1 t).bind fun z1 => if z1.1 = 0 then (some ((-1 : Int32), z1.2)) else ((F_X11_isCell x0 x2 z1.2).bind fun z2 => if z2.1 = 0 then (some ((-1 : Int32), z2.2)) else ((mk_ga z2.2 x0 10 4).bind fun v3 => (mk_ga z2.2 v3 9 1).bind fun v4 => (mk_ga z2.2 v4 6 0).bind fun v5 => (mk_ld 100 z2.2 v5 x1).bind fun v6 => if v6 = x2 then (some ((-1 : Int32), z2.2)) else ((mk_ga z2.2 x0 10 4).bind fun v7 => (mk_ga z2.2 v7 9 2).bind fun v8 => (mk_ga z2.2 x0 10 4).bind fun v9 => (mk_ga z2.2 v9 9 1).bind fun v10 => (F_X0_keep v8 v10 z2.2).bind fun z11 => (mk_ga z11.2 x0 10 4).bind fun v12 => (mk_ga z11.2 v12 9 1).bind fun v13 => (mk_ga z11.2 v13 6 0).bind fun v14 => (mk_ld 100 z11.2 v14 x1).bind fun v15 => (mk_ga z11.2 x0 10 4).bind fun v16 => (mk_ga z11.2 v16 9 1).bind fun v17 => (mk_ga z11.2 v17 6 0).bind fun v18 => (mk_st 100 z11.2 v18 x1 x2).bind fun t19 => some (v15, t19)))))
theorem p_X11_place (x0 : Nat) (x1 : Int32) (x2 : Int32) (t : mk_S) : mk_O mk_wi M_X11_place 0 [some (.ref x0), some (.int x1), some (.int x2), none] [] t ((F_X11_isPerson x0 x1 t).bind fun z1 => if z1.1 = 0 then (some ((-1 : Int32), z1.2)) else ((F_X11_isCell x0 x2 z1.2).bind fun z2 => if z2.1 = 0 then (some ((-1 : Int32), z2.2)) else ((mk_ga z2.2 x0 10 4).bind fun v3 => (mk_ga z2.2 v3 9 1).bind fun v4 => (mk_ga z2.2 v4 6 0).bind fun v5 => (mk_ld 100 z2.2 v5 x1).bind fun v6 => if v6 = x2 then (some ((-1 : Int32), z2.2)) else ((mk_ga z2.2 x0 10 4).bind fun v7 => (mk_ga z2.2 v7 9 2).bind fun v8 => (mk_ga z2.2 x0 10 4).bind fun v9 => (mk_ga z2.2 v9 9 1).bind fun v10 => (F_X0_keep v8 v10 z2.2).bind fun z11 => (mk_ga z11.2 x0 10 4).bind fun v12 => (mk_ga z11.2 v12 9 1).bind fun v13 => (mk_ga z11.2 v13 6 0).bind fun v14 => (mk_ld 100 z11.2 v14 x1).bind fun v15 => (mk_ga z11.2 x0 10 4).bind fun v16 => (mk_ga z11.2 v16 9 1).bind fun v17 => (mk_ga z11.2 v17 6 0).bind fun v18 => (mk_st 100 z11.2 v18 x1 x2).bind fun t19 => some (v15, t19))))) := by
  refine xo_aload_n rfl rfl dX11_place_0 ?_
  refine xo_iload_n rfl rfl dX11_place_1 ?_
  refine mk_O.callV (N := M_X11_isPerson) (ci := 10) (q := (RX11, TX11, 7)) (b := x0) (As1 := [.int x1]) (S := []) md_X11_isPerson mv_X11_isPerson lk_RX11_97 rfl (Nat.le_of_ble_eq_true rfl) (by decide) dX11_place_2 rfl rfl rfl (fun z hz => (c_X11_isPerson x0 x1 t z hz).1) (fun z hz => (c_X11_isPerson x0 x1 t z hz).2) (fun z1 _ => ?_)
  show mk_O _ _ _ _ (.int z1.1 :: []) _ _
  refine xo_if_eq (tgt := 32) dX11_place_5 rfl (fun _ => ?_) (fun _ => ?_)
  · refine xo_iconst kc_m1 dX11_place_32 ?_
    exact xo_iret dX11_place_33 rfl
  · refine xo_aload_n rfl rfl dX11_place_8 ?_
    refine xo_iload_n rfl rfl dX11_place_9 ?_
    refine mk_O.callV (N := M_X11_isCell) (ci := 10) (q := (RX11, TX11, 7)) (b := x0) (As1 := [.int x2]) (S := []) md_X11_isCell mv_X11_isCell lk_RX11_150 rfl (Nat.le_of_ble_eq_true rfl) (by decide) dX11_place_10 rfl rfl rfl (fun z hz => (c_X11_isCell x0 x2 z1.2 z hz).1) (fun z hz => (c_X11_isCell x0 x2 z1.2 z hz).2) (fun z2 _ => ?_)
    show mk_O _ _ _ _ (.int z2.1 :: []) _ _
    refine xo_if_eq (tgt := 32) dX11_place_13 rfl (fun _ => ?_) (fun _ => ?_)
    · refine xo_iconst kc_m1 dX11_place_32 ?_
      exact xo_iret dX11_place_33 rfl
    · refine xo_aload_n rfl rfl dX11_place_16 ?_
      refine xo_geta dX11_place_17 cl_10 fl_RX11_41 rfl (fun v3 => ?_)
      refine xo_geta dX11_place_20 cl_9 fl_RX11_101 rfl (fun v4 => ?_)
      refine xo_geta dX11_place_23 cl_6 fl_RX11_105 rfl (fun v5 => ?_)
      refine xo_iload_n rfl rfl dX11_place_26 ?_
      refine xo_iald dX11_place_27 (fun v6 => ?_)
      refine xo_iload_n rfl rfl dX11_place_28 ?_
      refine xo_icmp_ne (tgt := 34) dX11_place_29 rfl (fun _ => ?_) (fun _ => ?_)
      · refine xo_iconst kc_m1 dX11_place_32 ?_
        exact xo_iret dX11_place_33 rfl
      · refine xo_aload_n rfl rfl dX11_place_34 ?_
        refine xo_geta dX11_place_35 cl_10 fl_RX11_41 rfl (fun v7 => ?_)
        refine xo_geta dX11_place_38 cl_9 fl_RX11_191 rfl (fun v8 => ?_)
        refine xo_aload_n rfl rfl dX11_place_41 ?_
        refine xo_geta dX11_place_42 cl_10 fl_RX11_41 rfl (fun v9 => ?_)
        refine xo_geta dX11_place_45 cl_9 fl_RX11_101 rfl (fun v10 => ?_)
        refine mk_O.callV (N := M_X0_keep) (ci := 0) (q := (RX0, TX0, 3)) (b := v8) (As1 := [.ref v10]) (S := []) md_X0_keep mv_X0_keep lk_RX11_205 rfl (Nat.le_of_ble_eq_true rfl) (by decide) dX11_place_48 rfl rfl rfl (fun z hz => (c_X0_keep v8 v10 z2.2 z hz).1) (fun z hz => (c_X0_keep v8 v10 z2.2 z hz).2) (fun z11 _ => ?_)
        show mk_O _ _ _ _ [] _ _
        refine xo_aload_n rfl rfl dX11_place_51 ?_
        refine xo_geta dX11_place_52 cl_10 fl_RX11_41 rfl (fun v12 => ?_)
        refine xo_geta dX11_place_55 cl_9 fl_RX11_101 rfl (fun v13 => ?_)
        refine xo_geta dX11_place_58 cl_6 fl_RX11_105 rfl (fun v14 => ?_)
        refine xo_iload_n rfl rfl dX11_place_61 ?_
        refine xo_iald dX11_place_62 (fun v15 => ?_)
        refine xo_istore_n rfl (by decide) (mk_p1_v rfl rfl) dX11_place_63 ?_
        refine xo_aload_n rfl rfl dX11_place_64 ?_
        refine xo_geta dX11_place_65 cl_10 fl_RX11_41 rfl (fun v16 => ?_)
        refine xo_geta dX11_place_68 cl_9 fl_RX11_101 rfl (fun v17 => ?_)
        refine xo_geta dX11_place_71 cl_6 fl_RX11_105 rfl (fun v18 => ?_)
        refine xo_iload_n rfl rfl dX11_place_74 ?_
        refine xo_iload_n rfl rfl dX11_place_75 ?_
        refine xo_iast dX11_place_76 (fun t19 => ?_)
        refine xo_iload_n rfl rfl dX11_place_77 ?_
        exact xo_iret dX11_place_78 rfl
theorem c_X11_place (x0 : Nat) (x1 : Int32) (x2 : Int32) (t : mk_S) (z : Int32 × mk_S) (h : F_X11_place x0 x1 x2 t = some z) : mk_is t x0 10 ∧ mk_Ct M_X11_place [.ref x0, .int x1, .int x2] t (mk_wi z.1, z.2) :=
  ⟨(mk_gd_spec h).1, mk_ct (w := mk_wi) (by decide +kernel) (Nat.le_of_ble_eq_true rfl) (p_X11_place x0 x1 x2 t) z (mk_gd_spec h).2⟩
def F_X11_face (x0 : Nat) (x1 : Int32) (x2 : Int32) (t : mk_S) : Option (Int32 × mk_S) := mk_gd t x0 10 ((F_X11_isPerson x0 x1 t).bind fun z1 => if z1.1 = 0 then (some ((-1 : Int32), z1.2)) else ((F_X11_within x2 (0 : Int32) (3 : Int32) z1.2).bind fun z2 => if z2.1 = 0 then (some ((-1 : Int32), z2.2)) else ((mk_ga z2.2 x0 10 4).bind fun v3 => (mk_ga z2.2 v3 9 1).bind fun v4 => (mk_ga z2.2 v4 6 1).bind fun v5 => (mk_ld 100 z2.2 v5 x1).bind fun v6 => if v6 = x2 then (some ((-1 : Int32), z2.2)) else ((mk_ga z2.2 x0 10 4).bind fun v7 => (mk_ga z2.2 v7 9 2).bind fun v8 => (mk_ga z2.2 x0 10 4).bind fun v9 => (mk_ga z2.2 v9 9 1).bind fun v10 => (F_X0_keep v8 v10 z2.2).bind fun z11 => (mk_ga z11.2 x0 10 4).bind fun v12 => (mk_ga z11.2 v12 9 1).bind fun v13 => (mk_ga z11.2 v13 6 1).bind fun v14 => (mk_ld 100 z11.2 v14 x1).bind fun v15 => (mk_ga z11.2 x0 10 4).bind fun v16 => (mk_ga z11.2 v16 9 1).bind fun v17 => (mk_ga z11.2 v17 6 1).bind fun v18 => (mk_st 100 z11.2 v18 x1 x2).bind fun t19 => some (v15, t19)))))
theorem p_X11_face (x0 : Nat) (x1 : Int32) (x2 : Int32) (t : mk_S) : mk_O mk_wi M_X11_face 0 [some (.ref x0), some (.int x1), some (.int x2), none] [] t ((F_X11_isPerson x0 x1 t).bind fun z1 => if z1.1 = 0 then (some ((-1 : Int32), z1.2)) else ((F_X11_within x2 (0 : Int32) (3 : Int32) z1.2).bind fun z2 => if z2.1 = 0 then (some ((-1 : Int32), z2.2)) else ((mk_ga z2.2 x0 10 4).bind fun v3 => (mk_ga z2.2 v3 9 1).bind fun v4 => (mk_ga z2.2 v4 6 1).bind fun v5 => (mk_ld 100 z2.2 v5 x1).bind fun v6 => if v6 = x2 then (some ((-1 : Int32), z2.2)) else ((mk_ga z2.2 x0 10 4).bind fun v7 => (mk_ga z2.2 v7 9 2).bind fun v8 => (mk_ga z2.2 x0 10 4).bind fun v9 => (mk_ga z2.2 v9 9 1).bind fun v10 => (F_X0_keep v8 v10 z2.2).bind fun z11 => (mk_ga z11.2 x0 10 4).bind fun v12 => (mk_ga z11.2 v12 9 1).bind fun v13 => (mk_ga z11.2 v13 6 1).bind fun v14 => (mk_ld 100 z11.2 v14 x1).bind fun v15 => (mk_ga z11.2 x0 10 4).bind fun v16 => (mk_ga z11.2 v16 9 1).bind fun v17 => (mk_ga z11.2 v17 6 1).bind fun v18 => (mk_st 100 z11.2 v18 x1 x2).bind fun t19 => some (v15, t19))))) := by
  refine xo_aload_n rfl rfl dX11_face_0 ?_
  refine xo_iload_n rfl rfl dX11_face_1 ?_
  refine mk_O.callV (N := M_X11_isPerson) (ci := 10) (q := (RX11, TX11, 7)) (b := x0) (As1 := [.int x1]) (S := []) md_X11_isPerson mv_X11_isPerson lk_RX11_97 rfl (Nat.le_of_ble_eq_true rfl) (by decide) dX11_face_2 rfl rfl rfl (fun z hz => (c_X11_isPerson x0 x1 t z hz).1) (fun z hz => (c_X11_isPerson x0 x1 t z hz).2) (fun z1 _ => ?_)
  show mk_O _ _ _ _ (.int z1.1 :: []) _ _
  refine xo_if_eq (tgt := 33) dX11_face_5 rfl (fun _ => ?_) (fun _ => ?_)
  · refine xo_iconst kc_m1 dX11_face_33 ?_
    exact xo_iret dX11_face_34 rfl
  · refine xo_iload_n rfl rfl dX11_face_8 ?_
    refine xo_iconst kc_0 dX11_face_9 ?_
    refine xo_iconst kc_3 dX11_face_10 ?_
    refine mk_O.callS (N := M_X11_within) (As := [.int x2, .int (0 : Int32), .int (3 : Int32)]) (S := []) md_X11_within ms_X11_within lk_RX11_61 rfl (Nat.le_of_ble_eq_true rfl) (by decide) dX11_face_11 rfl (fun z hz => c_X11_within x2 (0 : Int32) (3 : Int32) z1.2 z hz) (fun z2 _ => ?_)
    show mk_O _ _ _ _ (.int z2.1 :: []) _ _
    refine xo_if_eq (tgt := 33) dX11_face_14 rfl (fun _ => ?_) (fun _ => ?_)
    · refine xo_iconst kc_m1 dX11_face_33 ?_
      exact xo_iret dX11_face_34 rfl
    · refine xo_aload_n rfl rfl dX11_face_17 ?_
      refine xo_geta dX11_face_18 cl_10 fl_RX11_41 rfl (fun v3 => ?_)
      refine xo_geta dX11_face_21 cl_9 fl_RX11_101 rfl (fun v4 => ?_)
      refine xo_geta dX11_face_24 cl_6 fl_RX11_114 rfl (fun v5 => ?_)
      refine xo_iload_n rfl rfl dX11_face_27 ?_
      refine xo_iald dX11_face_28 (fun v6 => ?_)
      refine xo_iload_n rfl rfl dX11_face_29 ?_
      refine xo_icmp_ne (tgt := 35) dX11_face_30 rfl (fun _ => ?_) (fun _ => ?_)
      · refine xo_iconst kc_m1 dX11_face_33 ?_
        exact xo_iret dX11_face_34 rfl
      · refine xo_aload_n rfl rfl dX11_face_35 ?_
        refine xo_geta dX11_face_36 cl_10 fl_RX11_41 rfl (fun v7 => ?_)
        refine xo_geta dX11_face_39 cl_9 fl_RX11_191 rfl (fun v8 => ?_)
        refine xo_aload_n rfl rfl dX11_face_42 ?_
        refine xo_geta dX11_face_43 cl_10 fl_RX11_41 rfl (fun v9 => ?_)
        refine xo_geta dX11_face_46 cl_9 fl_RX11_101 rfl (fun v10 => ?_)
        refine mk_O.callV (N := M_X0_keep) (ci := 0) (q := (RX0, TX0, 3)) (b := v8) (As1 := [.ref v10]) (S := []) md_X0_keep mv_X0_keep lk_RX11_205 rfl (Nat.le_of_ble_eq_true rfl) (by decide) dX11_face_49 rfl rfl rfl (fun z hz => (c_X0_keep v8 v10 z2.2 z hz).1) (fun z hz => (c_X0_keep v8 v10 z2.2 z hz).2) (fun z11 _ => ?_)
        show mk_O _ _ _ _ [] _ _
        refine xo_aload_n rfl rfl dX11_face_52 ?_
        refine xo_geta dX11_face_53 cl_10 fl_RX11_41 rfl (fun v12 => ?_)
        refine xo_geta dX11_face_56 cl_9 fl_RX11_101 rfl (fun v13 => ?_)
        refine xo_geta dX11_face_59 cl_6 fl_RX11_114 rfl (fun v14 => ?_)
        refine xo_iload_n rfl rfl dX11_face_62 ?_
        refine xo_iald dX11_face_63 (fun v15 => ?_)
        refine xo_istore_n rfl (by decide) (mk_p1_v rfl rfl) dX11_face_64 ?_
        refine xo_aload_n rfl rfl dX11_face_65 ?_
        refine xo_geta dX11_face_66 cl_10 fl_RX11_41 rfl (fun v16 => ?_)
        refine xo_geta dX11_face_69 cl_9 fl_RX11_101 rfl (fun v17 => ?_)
        refine xo_geta dX11_face_72 cl_6 fl_RX11_114 rfl (fun v18 => ?_)
        refine xo_iload_n rfl rfl dX11_face_75 ?_
        refine xo_iload_n rfl rfl dX11_face_76 ?_
        refine xo_iast dX11_face_77 (fun t19 => ?_)
        refine xo_iload_n rfl rfl dX11_face_78 ?_
        exact xo_iret dX11_face_79 rfl
theorem c_X11_face (x0 : Nat) (x1 : Int32) (x2 : Int32) (t : mk_S) (z : Int32 × mk_S) (h : F_X11_face x0 x1 x2 t = some z) : mk_is t x0 10 ∧ mk_Ct M_X11_face [.ref x0, .int x1, .int x2] t (mk_wi z.1, z.2) :=
  ⟨(mk_gd_spec h).1, mk_ct (w := mk_wi) (by decide +kernel) (Nat.le_of_ble_eq_true rfl) (p_X11_face x0 x1 x2 t) z (mk_gd_spec h).2⟩
def F_X11_mend (x0 : Nat) (x1 : Int32) (t : mk_S) : Option (Int32 × mk_S) := mk_gd t x0 10 ((F_X11_isRoof x0 x1 t).bind fun z1 => if z1.1 = 0 then (some ((-1 : Int32), z1.2)) else ((mk_ga z1.2 x0 10 4).bind fun v2 => (mk_ga z1.2 v2 9 1).bind fun v3 => (mk_gi z1.2 v3 6 7).bind fun v4 => if ((v4 >>> (x1 &&& 31)) &&& (1 : Int32)) = 0 then (some ((-1 : Int32), z1.2)) else ((mk_ga z1.2 x0 10 4).bind fun v5 => (mk_ga z1.2 v5 9 2).bind fun v6 => (mk_ga z1.2 x0 10 4).bind fun v7 => (mk_ga z1.2 v7 9 1).bind fun v8 => (F_X0_keep v6 v8 z1.2).bind fun z9 => (mk_ga z9.2 x0 10 4).bind fun v10 => (mk_ga z9.2 v10 9 1).bind fun v11 => (mk_gi z9.2 v11 6 7).bind fun v12 => (mk_pi z9.2 v11 6 7 (v12 &&& (((1 : Int32) <<< (x1 &&& 31)) ^^^ (-1 : Int32)))).bind fun t13 => (mk_ga t13 x0 10 4).bind fun v14 => (mk_ga t13 v14 9 1).bind fun v15 => (mk_gi t13 v15 6 7).bind fun v16 => (F_J6_bitCount_0f7a4 v16 t13).bind fun z17 => some (z17.1, z17.2))))
theorem p_X11_mend (x0 : Nat) (x1 : Int32) (t : mk_S) : mk_O mk_wi M_X11_mend 0 [some (.ref x0), some (.int x1)] [] t ((F_X11_isRoof x0 x1 t).bind fun z1 => if z1.1 = 0 then (some ((-1 : Int32), z1.2)) else ((mk_ga z1.2 x0 10 4).bind fun v2 => (mk_ga z1.2 v2 9 1).bind fun v3 => (mk_gi z1.2 v3 6 7).bind fun v4 => if ((v4 >>> (x1 &&& 31)) &&& (1 : Int32)) = 0 then (some ((-1 : Int32), z1.2)) else ((mk_ga z1.2 x0 10 4).bind fun v5 => (mk_ga z1.2 v5 9 2).bind fun v6 => (mk_ga z1.2 x0 10 4).bind fun v7 => (mk_ga z1.2 v7 9 1).bind fun v8 => (F_X0_keep v6 v8 z1.2).bind fun z9 => (mk_ga z9.2 x0 10 4).bind fun v10 => (mk_ga z9.2 v10 9 1).bind fun v11 => (mk_gi z9.2 v11 6 7).bind fun v12 => (mk_pi z9.2 v11 6 7 (v12 &&& (((1 : Int32) <<< (x1 &&& 31)) ^^^ (-1 : Int32)))).bind fun t13 => (mk_ga t13 x0 10 4).bind fun v14 => (mk_ga t13 v14 9 1).bind fun v15 => (mk_gi t13 v15 6 7).bind fun v16 => (F_J6_bitCount_0f7a4 v16 t13).bind fun z17 => some (z17.1, z17.2)))) := by
  refine xo_aload_n rfl rfl dX11_mend_0 ?_
  refine xo_iload_n rfl rfl dX11_mend_1 ?_
  refine mk_O.callV (N := M_X11_isRoof) (ci := 10) (q := (RX11, TX11, 7)) (b := x0) (As1 := [.int x1]) (S := []) md_X11_isRoof mv_X11_isRoof lk_RX11_138 rfl (Nat.le_of_ble_eq_true rfl) (by decide) dX11_mend_2 rfl rfl rfl (fun z hz => (c_X11_isRoof x0 x1 t z hz).1) (fun z hz => (c_X11_isRoof x0 x1 t z hz).2) (fun z1 _ => ?_)
  show mk_O _ _ _ _ (.int z1.1 :: []) _ _
  refine xo_if_eq (tgt := 25) dX11_mend_5 rfl (fun _ => ?_) (fun _ => ?_)
  · refine xo_iconst kc_m1 dX11_mend_25 ?_
    exact xo_iret dX11_mend_26 rfl
  · refine xo_aload_n rfl rfl dX11_mend_8 ?_
    refine xo_geta dX11_mend_9 cl_10 fl_RX11_41 rfl (fun v2 => ?_)
    refine xo_geta dX11_mend_12 cl_9 fl_RX11_101 rfl (fun v3 => ?_)
    refine xo_geti dX11_mend_15 cl_6 fl_RX11_147 rfl (fun v4 => ?_)
    refine xo_iload_n rfl rfl dX11_mend_18 ?_
    refine xo_ishr dX11_mend_19 ?_
    refine xo_iconst kc_1 dX11_mend_20 ?_
    refine xo_iand dX11_mend_21 ?_
    refine xo_if_ne (tgt := 27) dX11_mend_22 rfl (fun _ => ?_) (fun _ => ?_)
    · refine xo_iconst kc_m1 dX11_mend_25 ?_
      exact xo_iret dX11_mend_26 rfl
    · refine xo_aload_n rfl rfl dX11_mend_27 ?_
      refine xo_geta dX11_mend_28 cl_10 fl_RX11_41 rfl (fun v5 => ?_)
      refine xo_geta dX11_mend_31 cl_9 fl_RX11_191 rfl (fun v6 => ?_)
      refine xo_aload_n rfl rfl dX11_mend_34 ?_
      refine xo_geta dX11_mend_35 cl_10 fl_RX11_41 rfl (fun v7 => ?_)
      refine xo_geta dX11_mend_38 cl_9 fl_RX11_101 rfl (fun v8 => ?_)
      refine mk_O.callV (N := M_X0_keep) (ci := 0) (q := (RX0, TX0, 3)) (b := v6) (As1 := [.ref v8]) (S := []) md_X0_keep mv_X0_keep lk_RX11_205 rfl (Nat.le_of_ble_eq_true rfl) (by decide) dX11_mend_41 rfl rfl rfl (fun z hz => (c_X0_keep v6 v8 z1.2 z hz).1) (fun z hz => (c_X0_keep v6 v8 z1.2 z hz).2) (fun z9 _ => ?_)
      show mk_O _ _ _ _ [] _ _
      refine xo_aload_n rfl rfl dX11_mend_44 ?_
      refine xo_geta dX11_mend_45 cl_10 fl_RX11_41 rfl (fun v10 => ?_)
      refine xo_geta dX11_mend_48 cl_9 fl_RX11_101 rfl (fun v11 => ?_)
      refine xo_dup rfl dX11_mend_51 ?_
      refine xo_geti dX11_mend_52 cl_6 fl_RX11_147 rfl (fun v12 => ?_)
      refine xo_iconst kc_1 dX11_mend_55 ?_
      refine xo_iload_n rfl rfl dX11_mend_56 ?_
      refine xo_ishl dX11_mend_57 ?_
      refine xo_iconst kc_m1 dX11_mend_58 ?_
      refine xo_ixor dX11_mend_59 ?_
      refine xo_iand dX11_mend_60 ?_
      refine xo_puti dX11_mend_61 cl_6 fl_RX11_147 rfl ft_6_7 (fun t13 => ?_)
      refine xo_aload_n rfl rfl dX11_mend_64 ?_
      refine xo_geta dX11_mend_65 cl_10 fl_RX11_41 rfl (fun v14 => ?_)
      refine xo_geta dX11_mend_68 cl_9 fl_RX11_101 rfl (fun v15 => ?_)
      refine xo_geti dX11_mend_71 cl_6 fl_RX11_147 rfl (fun v16 => ?_)
      refine mk_O.callS (N := M_J6_bitCount_0f7a4) (As := [.int v16]) (S := []) md_J6_bitCount_0f7a4 ms_J6_bitCount_0f7a4 lk_RX11_227 rfl (Nat.le_of_ble_eq_true rfl) (by decide) dX11_mend_74 rfl (fun z hz => c_J6_bitCount_0f7a4 v16 t13 z hz) (fun z17 _ => ?_)
      show mk_O _ _ _ _ (.int z17.1 :: []) _ _
      exact xo_iret dX11_mend_77 rfl
theorem c_X11_mend (x0 : Nat) (x1 : Int32) (t : mk_S) (z : Int32 × mk_S) (h : F_X11_mend x0 x1 t = some z) : mk_is t x0 10 ∧ mk_Ct M_X11_mend [.ref x0, .int x1] t (mk_wi z.1, z.2) :=
  ⟨(mk_gd_spec h).1, mk_ct (w := mk_wi) (by decide +kernel) (Nat.le_of_ble_eq_true rfl) (p_X11_mend x0 x1 t) z (mk_gd_spec h).2⟩
def F_X11_undo (x0 : Nat) (t : mk_S) : Option (Int32 × mk_S) := mk_gd t x0 10 ((mk_ga t x0 10 4).bind fun v1 => (mk_ga t v1 9 2).bind fun v2 => (mk_ga t x0 10 4).bind fun v3 => (mk_ga t v3 9 1).bind fun v4 => (F_X0_goBack v2 v4 t).bind fun z5 => if z5.1 = 0 then (some ((-2 : Int32), z5.2)) else ((mk_ga z5.2 x0 10 4).bind fun v6 => (mk_ga z5.2 v6 9 2).bind fun v7 => (mk_gi z5.2 v7 0 2).bind fun v8 => some (v8, z5.2)))
theorem p_X11_undo (x0 : Nat) (t : mk_S) : mk_O mk_wi M_X11_undo 0 [some (.ref x0)] [] t ((mk_ga t x0 10 4).bind fun v1 => (mk_ga t v1 9 2).bind fun v2 => (mk_ga t x0 10 4).bind fun v3 => (mk_ga t v3 9 1).bind fun v4 => (F_X0_goBack v2 v4 t).bind fun z5 => if z5.1 = 0 then (some ((-2 : Int32), z5.2)) else ((mk_ga z5.2 x0 10 4).bind fun v6 => (mk_ga z5.2 v6 9 2).bind fun v7 => (mk_gi z5.2 v7 0 2).bind fun v8 => some (v8, z5.2))) := by
  refine xo_aload_n rfl rfl dX11_undo_0 ?_
  refine xo_geta dX11_undo_1 cl_10 fl_RX11_41 rfl (fun v1 => ?_)
  refine xo_geta dX11_undo_4 cl_9 fl_RX11_191 rfl (fun v2 => ?_)
  refine xo_aload_n rfl rfl dX11_undo_7 ?_
  refine xo_geta dX11_undo_8 cl_10 fl_RX11_41 rfl (fun v3 => ?_)
  refine xo_geta dX11_undo_11 cl_9 fl_RX11_101 rfl (fun v4 => ?_)
  refine mk_O.callV (N := M_X0_goBack) (ci := 0) (q := (RX0, TX0, 3)) (b := v2) (As1 := [.ref v4]) (S := []) md_X0_goBack mv_X0_goBack lk_RX11_232 rfl (Nat.le_of_ble_eq_true rfl) (by decide) dX11_undo_14 rfl rfl rfl (fun z hz => (c_X0_goBack v2 v4 t z hz).1) (fun z hz => (c_X0_goBack v2 v4 t z hz).2) (fun z5 _ => ?_)
  show mk_O _ _ _ _ (.int z5.1 :: []) _ _
  refine xo_if_eq (tgt := 33) dX11_undo_17 rfl (fun _ => ?_) (fun _ => ?_)
  · refine xo_bipush kb_m2 dX11_undo_33 ?_
    exact xo_iret dX11_undo_35 rfl
  · refine xo_aload_n rfl rfl dX11_undo_20 ?_
    refine xo_geta dX11_undo_21 cl_10 fl_RX11_41 rfl (fun v6 => ?_)
    refine xo_geta dX11_undo_24 cl_9 fl_RX11_191 rfl (fun v7 => ?_)
    refine xo_geti dX11_undo_27 cl_0 fl_RX11_195 rfl (fun v8 => ?_)
    refine xo_goto (tgt := 35) dX11_undo_30 rfl ?_
    exact xo_iret dX11_undo_35 rfl
theorem c_X11_undo (x0 : Nat) (t : mk_S) (z : Int32 × mk_S) (h : F_X11_undo x0 t = some z) : mk_is t x0 10 ∧ mk_Ct M_X11_undo [.ref x0] t (mk_wi z.1, z.2) :=
  ⟨(mk_gd_spec h).1, mk_ct (w := mk_wi) (by decide +kernel) (Nat.le_of_ble_eq_true rfl) (p_X11_undo x0 t) z (mk_gd_spec h).2⟩
def F_X11_isAhead (x0 : Nat) (x1 : Int32) (x2 : Int32) (t : mk_S) : Option (Int32 × mk_S) := mk_gd t x0 10 (if x2 = (0 : Int32) then ((F_X11_isPerson x0 x1 t).bind fun z1 => mk_rz z1.1 z1.2) else (if x2 = (1 : Int32) then ((F_X11_isMill x0 x1 t).bind fun z2 => mk_rz z2.1 z2.2) else (if x2 = (2 : Int32) then ((F_X11_isCell x0 x1 t).bind fun z3 => mk_rz z3.1 z3.2) else (if x2 = (3 : Int32) then (mk_rz (1 : Int32) t) else (mk_rz (0 : Int32) t)))))
theorem p_X11_isAhead (x0 : Nat) (x1 : Int32) (x2 : Int32) (t : mk_S) : mk_O mk_wi M_X11_isAhead 0 [some (.ref x0), some (.int x1), some (.int x2)] [] t (if x2 = (0 : Int32) then ((F_X11_isPerson x0 x1 t).bind fun z1 => mk_rz z1.1 z1.2) else (if x2 = (1 : Int32) then ((F_X11_isMill x0 x1 t).bind fun z2 => mk_rz z2.1 z2.2) else (if x2 = (2 : Int32) then ((F_X11_isCell x0 x1 t).bind fun z3 => mk_rz z3.1 z3.2) else (if x2 = (3 : Int32) then (mk_rz (1 : Int32) t) else (mk_rz (0 : Int32) t))))) := by
  refine xo_iload_n rfl rfl dX11_isAhead_0 ?_
  refine mk_O.cs (fun n0 => ?_) (fun n0 => ?_)
  · refine xo_tab (kx := 0) (j := 0) n0 dX11_isAhead_1 (by decide) (by decide) (by decide) rfl rfl ?_
    refine xo_aload_n rfl rfl dX11_isAhead_28 ?_
    refine xo_iload_n rfl rfl dX11_isAhead_29 ?_
    refine mk_O.callV (N := M_X11_isPerson) (ci := 10) (q := (RX11, TX11, 7)) (b := x0) (As1 := [.int x1]) (S := []) md_X11_isPerson mv_X11_isPerson lk_RX11_97 rfl (Nat.le_of_ble_eq_true rfl) (by decide) dX11_isAhead_30 rfl rfl rfl (fun z hz => (c_X11_isPerson x0 x1 t z hz).1) (fun z hz => (c_X11_isPerson x0 x1 t z hz).2) (fun z1 _ => ?_)
    show mk_O _ _ _ _ (.int z1.1 :: []) _ _
    exact xo_zret dX11_isAhead_33 rfl
  · refine mk_O.cs (fun n1 => ?_) (fun n1 => ?_)
    · refine xo_tab (kx := 1) (j := 1) n1 dX11_isAhead_1 (by decide) (by decide) (by decide) rfl rfl ?_
      refine xo_aload_n rfl rfl dX11_isAhead_34 ?_
      refine xo_iload_n rfl rfl dX11_isAhead_35 ?_
      refine mk_O.callV (N := M_X11_isMill) (ci := 10) (q := (RX11, TX11, 7)) (b := x0) (As1 := [.int x1]) (S := []) md_X11_isMill mv_X11_isMill lk_RX11_126 rfl (Nat.le_of_ble_eq_true rfl) (by decide) dX11_isAhead_36 rfl rfl rfl (fun z hz => (c_X11_isMill x0 x1 t z hz).1) (fun z hz => (c_X11_isMill x0 x1 t z hz).2) (fun z2 _ => ?_)
      show mk_O _ _ _ _ (.int z2.1 :: []) _ _
      exact xo_zret dX11_isAhead_39 rfl
    · refine mk_O.cs (fun n2 => ?_) (fun n2 => ?_)
      · refine xo_tab (kx := 2) (j := 2) n2 dX11_isAhead_1 (by decide) (by decide) (by decide) rfl rfl ?_
        refine xo_aload_n rfl rfl dX11_isAhead_40 ?_
        refine xo_iload_n rfl rfl dX11_isAhead_41 ?_
        refine mk_O.callV (N := M_X11_isCell) (ci := 10) (q := (RX11, TX11, 7)) (b := x0) (As1 := [.int x1]) (S := []) md_X11_isCell mv_X11_isCell lk_RX11_150 rfl (Nat.le_of_ble_eq_true rfl) (by decide) dX11_isAhead_42 rfl rfl rfl (fun z hz => (c_X11_isCell x0 x1 t z hz).1) (fun z hz => (c_X11_isCell x0 x1 t z hz).2) (fun z3 _ => ?_)
        show mk_O _ _ _ _ (.int z3.1 :: []) _ _
        exact xo_zret dX11_isAhead_45 rfl
      · refine xo_tabo dX11_isAhead_1 (by have q0 := lv_neT (a := 0) n0 (by decide); have q1 := lv_neT (a := 1) n1 (by decide); have q2 := lv_neT (a := 2) n2 (by decide); omega) rfl ?_
        refine xo_iload_n rfl rfl dX11_isAhead_46 ?_
        refine xo_iconst kc_3 dX11_isAhead_47 ?_
        refine xo_icmp_ne (tgt := 55) dX11_isAhead_48 rfl (fun _ => ?_) (fun _ => ?_)
        · refine xo_iconst kc_1 dX11_isAhead_51 ?_
          refine xo_goto (tgt := 56) dX11_isAhead_52 rfl ?_
          exact xo_zret dX11_isAhead_56 rfl
        · refine xo_iconst kc_0 dX11_isAhead_55 ?_
          exact xo_zret dX11_isAhead_56 rfl
theorem c_X11_isAhead (x0 : Nat) (x1 : Int32) (x2 : Int32) (t : mk_S) (z : Int32 × mk_S) (h : F_X11_isAhead x0 x1 x2 t = some z) : mk_is t x0 10 ∧ mk_Ct M_X11_isAhead [.ref x0, .int x1, .int x2] t (mk_wi z.1, z.2) :=
  ⟨(mk_gd_spec h).1, mk_ct (w := mk_wi) (by decide +kernel) (Nat.le_of_ble_eq_true rfl) (p_X11_isAhead x0 x1 x2 t) z (mk_gd_spec h).2⟩
def F_X11_ahead (x0 : Nat) (x1 : Int32) (x2 : Int32) (x3 : Int32) (t : mk_S) : Option (Int32 × mk_S) := mk_gd t x0 10 ((mk_ga t x0 10 4).bind fun v1 => (mk_ga t v1 9 0).bind fun v2 => (F_X3_isThere v2 t).bind fun z3 => if z3.1 = 0 then (some ((-1 : Int32), z3.2)) else ((F_X11_within x2 (0 : Int32) (100 : Int32) z3.2).bind fun z4 => if z4.1 = 0 then (some ((-1 : Int32), z4.2)) else ((F_X11_isAhead x0 x1 x3 z4.2).bind fun z5 => if z5.1 = 0 then (some ((-1 : Int32), z5.2)) else ((mk_ga z5.2 x0 10 3).bind fun v6 => (F_X2_aheadBy v6 x1 x2 x3 z5.2).bind fun z7 => some (z7.1, z7.2)))))
theorem p_X11_ahead (x0 : Nat) (x1 : Int32) (x2 : Int32) (x3 : Int32) (t : mk_S) : mk_O mk_wi M_X11_ahead 0 [some (.ref x0), some (.int x1), some (.int x2), some (.int x3)] [] t ((mk_ga t x0 10 4).bind fun v1 => (mk_ga t v1 9 0).bind fun v2 => (F_X3_isThere v2 t).bind fun z3 => if z3.1 = 0 then (some ((-1 : Int32), z3.2)) else ((F_X11_within x2 (0 : Int32) (100 : Int32) z3.2).bind fun z4 => if z4.1 = 0 then (some ((-1 : Int32), z4.2)) else ((F_X11_isAhead x0 x1 x3 z4.2).bind fun z5 => if z5.1 = 0 then (some ((-1 : Int32), z5.2)) else ((mk_ga z5.2 x0 10 3).bind fun v6 => (F_X2_aheadBy v6 x1 x2 x3 z5.2).bind fun z7 => some (z7.1, z7.2))))) := by
  refine xo_aload_n rfl rfl dX11_ahead_0 ?_
  refine xo_geta dX11_ahead_1 cl_10 fl_RX11_41 rfl (fun v1 => ?_)
  refine xo_geta dX11_ahead_4 cl_9 fl_RX11_78 rfl (fun v2 => ?_)
  refine mk_O.callV (N := M_X3_isThere) (ci := 3) (q := (RX3, TX3, 12)) (b := v2) (As1 := []) (S := []) md_X3_isThere mv_X3_isThere lk_RX11_201 rfl (Nat.le_of_ble_eq_true rfl) (by decide) dX11_ahead_7 rfl rfl rfl (fun z hz => (c_X3_isThere v2 t z hz).1) (fun z hz => (c_X3_isThere v2 t z hz).2) (fun z3 _ => ?_)
  show mk_O _ _ _ _ (.int z3.1 :: []) _ _
  refine xo_if_eq (tgt := 32) dX11_ahead_10 rfl (fun _ => ?_) (fun _ => ?_)
  · refine xo_iconst kc_m1 dX11_ahead_32 ?_
    exact xo_iret dX11_ahead_33 rfl
  · refine xo_iload_n rfl rfl dX11_ahead_13 ?_
    refine xo_iconst kc_0 dX11_ahead_14 ?_
    refine xo_bipush kb_100 dX11_ahead_15 ?_
    refine mk_O.callS (N := M_X11_within) (As := [.int x2, .int (0 : Int32), .int (100 : Int32)]) (S := []) md_X11_within ms_X11_within lk_RX11_61 rfl (Nat.le_of_ble_eq_true rfl) (by decide) dX11_ahead_17 rfl (fun z hz => c_X11_within x2 (0 : Int32) (100 : Int32) z3.2 z hz) (fun z4 _ => ?_)
    show mk_O _ _ _ _ (.int z4.1 :: []) _ _
    refine xo_if_eq (tgt := 32) dX11_ahead_20 rfl (fun _ => ?_) (fun _ => ?_)
    · refine xo_iconst kc_m1 dX11_ahead_32 ?_
      exact xo_iret dX11_ahead_33 rfl
    · refine xo_aload_n rfl rfl dX11_ahead_23 ?_
      refine xo_iload_n rfl rfl dX11_ahead_24 ?_
      refine xo_iload_n rfl rfl dX11_ahead_25 ?_
      refine mk_O.callV (N := M_X11_isAhead) (ci := 10) (q := (RX11, TX11, 7)) (b := x0) (As1 := [.int x1, .int x3]) (S := []) md_X11_isAhead mv_X11_isAhead lk_RX11_236 rfl (Nat.le_of_ble_eq_true rfl) (by decide) dX11_ahead_26 rfl rfl rfl (fun z hz => (c_X11_isAhead x0 x1 x3 z4.2 z hz).1) (fun z hz => (c_X11_isAhead x0 x1 x3 z4.2 z hz).2) (fun z5 _ => ?_)
      show mk_O _ _ _ _ (.int z5.1 :: []) _ _
      refine xo_if_ne (tgt := 34) dX11_ahead_29 rfl (fun _ => ?_) (fun _ => ?_)
      · refine xo_iconst kc_m1 dX11_ahead_32 ?_
        exact xo_iret dX11_ahead_33 rfl
      · refine xo_aload_n rfl rfl dX11_ahead_34 ?_
        refine xo_geta dX11_ahead_35 cl_10 fl_RX11_33 rfl (fun v6 => ?_)
        refine xo_iload_n rfl rfl dX11_ahead_38 ?_
        refine xo_iload_n rfl rfl dX11_ahead_39 ?_
        refine xo_iload_n rfl rfl dX11_ahead_40 ?_
        refine mk_O.callV (N := M_X2_aheadBy) (ci := 2) (q := (RX2, TX2, 14)) (b := v6) (As1 := [.int x1, .int x2, .int x3]) (S := []) md_X2_aheadBy mv_X2_aheadBy lk_RX11_240 rfl (Nat.le_of_ble_eq_true rfl) (by decide) dX11_ahead_41 rfl rfl rfl (fun z hz => (c_X2_aheadBy v6 x1 x2 x3 z5.2 z hz).1) (fun z hz => (c_X2_aheadBy v6 x1 x2 x3 z5.2 z hz).2) (fun z7 _ => ?_)
        show mk_O _ _ _ _ (.int z7.1 :: []) _ _
        exact xo_iret dX11_ahead_44 rfl
theorem c_X11_ahead (x0 : Nat) (x1 : Int32) (x2 : Int32) (x3 : Int32) (t : mk_S) (z : Int32 × mk_S) (h : F_X11_ahead x0 x1 x2 x3 t = some z) : mk_is t x0 10 ∧ mk_Ct M_X11_ahead [.ref x0, .int x1, .int x2, .int x3] t (mk_wi z.1, z.2) :=
  ⟨(mk_gd_spec h).1, mk_ct (w := mk_wi) (by decide +kernel) (Nat.le_of_ble_eq_true rfl) (p_X11_ahead x0 x1 x2 x3 t) z (mk_gd_spec h).2⟩
def F_X11_whim (x0 : Nat) (x1 : Int32) (t : mk_S) : Option (Int32 × mk_S) := mk_gd t x0 10 ((F_X11_isPerson x0 x1 t).bind fun z1 => if z1.1 = 0 then (some ((-1 : Int32), z1.2)) else ((mk_ga z1.2 x0 10 3).bind fun v2 => (F_X2_firstHour v2 ((1 : Int32) <<< (x1 &&& 31)) (1 : Int32) z1.2).bind fun z3 => some (z3.1, z3.2)))
theorem p_X11_whim (x0 : Nat) (x1 : Int32) (t : mk_S) : mk_O mk_wi M_X11_whim 0 [some (.ref x0), some (.int x1)] [] t ((F_X11_isPerson x0 x1 t).bind fun z1 => if z1.1 = 0 then (some ((-1 : Int32), z1.2)) else ((mk_ga z1.2 x0 10 3).bind fun v2 => (F_X2_firstHour v2 ((1 : Int32) <<< (x1 &&& 31)) (1 : Int32) z1.2).bind fun z3 => some (z3.1, z3.2))) := by
  refine xo_aload_n rfl rfl dX11_whim_0 ?_
  refine xo_iload_n rfl rfl dX11_whim_1 ?_
  refine mk_O.callV (N := M_X11_isPerson) (ci := 10) (q := (RX11, TX11, 7)) (b := x0) (As1 := [.int x1]) (S := []) md_X11_isPerson mv_X11_isPerson lk_RX11_97 rfl (Nat.le_of_ble_eq_true rfl) (by decide) dX11_whim_2 rfl rfl rfl (fun z hz => (c_X11_isPerson x0 x1 t z hz).1) (fun z hz => (c_X11_isPerson x0 x1 t z hz).2) (fun z1 _ => ?_)
  show mk_O _ _ _ _ (.int z1.1 :: []) _ _
  refine xo_if_eq (tgt := 22) dX11_whim_5 rfl (fun _ => ?_) (fun _ => ?_)
  · refine xo_iconst kc_m1 dX11_whim_22 ?_
    exact xo_iret dX11_whim_23 rfl
  · refine xo_aload_n rfl rfl dX11_whim_8 ?_
    refine xo_geta dX11_whim_9 cl_10 fl_RX11_33 rfl (fun v2 => ?_)
    refine xo_iconst kc_1 dX11_whim_12 ?_
    refine xo_iload_n rfl rfl dX11_whim_13 ?_
    refine xo_ishl dX11_whim_14 ?_
    refine xo_iconst kc_1 dX11_whim_15 ?_
    refine mk_O.callV (N := M_X2_firstHour) (ci := 2) (q := (RX2, TX2, 14)) (b := v2) (As1 := [.int ((1 : Int32) <<< (x1 &&& 31)), .int (1 : Int32)]) (S := []) md_X2_firstHour mv_X2_firstHour lk_RX11_244 rfl (Nat.le_of_ble_eq_true rfl) (by decide) dX11_whim_16 rfl rfl rfl (fun z hz => (c_X2_firstHour v2 ((1 : Int32) <<< (x1 &&& 31)) (1 : Int32) z1.2 z hz).1) (fun z hz => (c_X2_firstHour v2 ((1 : Int32) <<< (x1 &&& 31)) (1 : Int32) z1.2 z hz).2) (fun z3 _ => ?_)
    show mk_O _ _ _ _ (.int z3.1 :: []) _ _
    refine xo_goto (tgt := 23) dX11_whim_19 rfl ?_
    exact xo_iret dX11_whim_23 rfl
theorem c_X11_whim (x0 : Nat) (x1 : Int32) (t : mk_S) (z : Int32 × mk_S) (h : F_X11_whim x0 x1 t = some z) : mk_is t x0 10 ∧ mk_Ct M_X11_whim [.ref x0, .int x1] t (mk_wi z.1, z.2) :=
  ⟨(mk_gd_spec h).1, mk_ct (w := mk_wi) (by decide +kernel) (Nat.le_of_ble_eq_true rfl) (p_X11_whim x0 x1 t) z (mk_gd_spec h).2⟩
def F_X11_storm (x0 : Nat) (x1 : Int32) (t : mk_S) : Option (Int32 × mk_S) := mk_gd t x0 10 ((mk_ga t x0 10 4).bind fun v1 => (mk_ga t v1 9 0).bind fun v2 => (F_X3_isThere v2 t).bind fun z3 => if z3.1 = 0 then (some ((-1 : Int32), z3.2)) else ((F_X11_within x1 (1 : Int32) (6 : Int32) z3.2).bind fun z4 => if z4.1 = 0 then (some ((-1 : Int32), z4.2)) else ((mk_ga z4.2 x0 10 3).bind fun v5 => (F_X2_firstHour v5 (63 : Int32) x1 z4.2).bind fun z6 => some (z6.1, z6.2))))
theorem p_X11_storm (x0 : Nat) (x1 : Int32) (t : mk_S) : mk_O mk_wi M_X11_storm 0 [some (.ref x0), some (.int x1)] [] t ((mk_ga t x0 10 4).bind fun v1 => (mk_ga t v1 9 0).bind fun v2 => (F_X3_isThere v2 t).bind fun z3 => if z3.1 = 0 then (some ((-1 : Int32), z3.2)) else ((F_X11_within x1 (1 : Int32) (6 : Int32) z3.2).bind fun z4 => if z4.1 = 0 then (some ((-1 : Int32), z4.2)) else ((mk_ga z4.2 x0 10 3).bind fun v5 => (F_X2_firstHour v5 (63 : Int32) x1 z4.2).bind fun z6 => some (z6.1, z6.2)))) := by
  refine xo_aload_n rfl rfl dX11_storm_0 ?_
  refine xo_geta dX11_storm_1 cl_10 fl_RX11_41 rfl (fun v1 => ?_)
  refine xo_geta dX11_storm_4 cl_9 fl_RX11_78 rfl (fun v2 => ?_)
  refine mk_O.callV (N := M_X3_isThere) (ci := 3) (q := (RX3, TX3, 12)) (b := v2) (As1 := []) (S := []) md_X3_isThere mv_X3_isThere lk_RX11_201 rfl (Nat.le_of_ble_eq_true rfl) (by decide) dX11_storm_7 rfl rfl rfl (fun z hz => (c_X3_isThere v2 t z hz).1) (fun z hz => (c_X3_isThere v2 t z hz).2) (fun z3 _ => ?_)
  show mk_O _ _ _ _ (.int z3.1 :: []) _ _
  refine xo_if_eq (tgt := 23) dX11_storm_10 rfl (fun _ => ?_) (fun _ => ?_)
  · refine xo_iconst kc_m1 dX11_storm_23 ?_
    exact xo_iret dX11_storm_24 rfl
  · refine xo_iload_n rfl rfl dX11_storm_13 ?_
    refine xo_iconst kc_1 dX11_storm_14 ?_
    refine xo_bipush kb_6 dX11_storm_15 ?_
    refine mk_O.callS (N := M_X11_within) (As := [.int x1, .int (1 : Int32), .int (6 : Int32)]) (S := []) md_X11_within ms_X11_within lk_RX11_61 rfl (Nat.le_of_ble_eq_true rfl) (by decide) dX11_storm_17 rfl (fun z hz => c_X11_within x1 (1 : Int32) (6 : Int32) z3.2 z hz) (fun z4 _ => ?_)
    show mk_O _ _ _ _ (.int z4.1 :: []) _ _
    refine xo_if_ne (tgt := 25) dX11_storm_20 rfl (fun _ => ?_) (fun _ => ?_)
    · refine xo_iconst kc_m1 dX11_storm_23 ?_
      exact xo_iret dX11_storm_24 rfl
    · refine xo_aload_n rfl rfl dX11_storm_25 ?_
      refine xo_geta dX11_storm_26 cl_10 fl_RX11_33 rfl (fun v5 => ?_)
      refine xo_bipush kb_63 dX11_storm_29 ?_
      refine xo_iload_n rfl rfl dX11_storm_31 ?_
      refine mk_O.callV (N := M_X2_firstHour) (ci := 2) (q := (RX2, TX2, 14)) (b := v5) (As1 := [.int (63 : Int32), .int x1]) (S := []) md_X2_firstHour mv_X2_firstHour lk_RX11_244 rfl (Nat.le_of_ble_eq_true rfl) (by decide) dX11_storm_32 rfl rfl rfl (fun z hz => (c_X2_firstHour v5 (63 : Int32) x1 z4.2 z hz).1) (fun z hz => (c_X2_firstHour v5 (63 : Int32) x1 z4.2 z hz).2) (fun z6 _ => ?_)
      show mk_O _ _ _ _ (.int z6.1 :: []) _ _
      exact xo_iret dX11_storm_35 rfl
theorem c_X11_storm (x0 : Nat) (x1 : Int32) (t : mk_S) (z : Int32 × mk_S) (h : F_X11_storm x0 x1 t = some z) : mk_is t x0 10 ∧ mk_Ct M_X11_storm [.ref x0, .int x1] t (mk_wi z.1, z.2) :=
  ⟨(mk_gd_spec h).1, mk_ct (w := mk_wi) (by decide +kernel) (Nat.le_of_ble_eq_true rfl) (p_X11_storm x0 x1 t) z (mk_gd_spec h).2⟩
def B_X11_isWayAsked_23 (t : mk_S) : Option (Int32 × mk_S) := mk_rz (0 : Int32) t
def F_X11_isWayAsked (x0 : Int32) (x1 : Int32) (t : mk_S) : Option (Int32 × mk_S) := (F_X11_within x0 (1 : Int32) (60 : Int32) t).bind fun z1 => if z1.1 = 0 then (B_X11_isWayAsked_23 z1.2) else ((F_X11_within x1 (0 : Int32) (2 : Int32) z1.2).bind fun z2 => if z2.1 = 0 then (B_X11_isWayAsked_23 z2.2) else (mk_rz (1 : Int32) z2.2))
theorem o_X11_isWayAsked_23 (t : mk_S) : mk_O mk_wi M_X11_isWayAsked 23 [none, none] [] t (B_X11_isWayAsked_23  t) := by
  unfold B_X11_isWayAsked_23
  refine xo_iconst kc_0 dX11_isWayAsked_23 ?_
  exact xo_zret dX11_isWayAsked_24 rfl
theorem p_X11_isWayAsked (x0 : Int32) (x1 : Int32) (t : mk_S) : mk_O mk_wi M_X11_isWayAsked 0 [some (.int x0), some (.int x1)] [] t ((F_X11_within x0 (1 : Int32) (60 : Int32) t).bind fun z1 => if z1.1 = 0 then (B_X11_isWayAsked_23 z1.2) else ((F_X11_within x1 (0 : Int32) (2 : Int32) z1.2).bind fun z2 => if z2.1 = 0 then (B_X11_isWayAsked_23 z2.2) else (mk_rz (1 : Int32) z2.2))) := by
  refine xo_iload_n rfl rfl dX11_isWayAsked_0 ?_
  refine xo_iconst kc_1 dX11_isWayAsked_1 ?_
  refine xo_bipush kb_60 dX11_isWayAsked_2 ?_
  refine mk_O.callS (N := M_X11_within) (As := [.int x0, .int (1 : Int32), .int (60 : Int32)]) (S := []) md_X11_within ms_X11_within lk_RX11_61 rfl (Nat.le_of_ble_eq_true rfl) (by decide) dX11_isWayAsked_4 rfl (fun z hz => c_X11_within x0 (1 : Int32) (60 : Int32) t z hz) (fun z1 _ => ?_)
  show mk_O _ _ _ _ (.int z1.1 :: []) _ _
  refine xo_if_eq (tgt := 23) dX11_isWayAsked_7 rfl (fun _ => ?_) (fun _ => ?_)
  · exact mk_O.wk (o_X11_isWayAsked_23 z1.2) trivial
  · refine xo_iload_n rfl rfl dX11_isWayAsked_10 ?_
    refine xo_iconst kc_0 dX11_isWayAsked_11 ?_
    refine xo_iconst kc_2 dX11_isWayAsked_12 ?_
    refine mk_O.callS (N := M_X11_within) (As := [.int x1, .int (0 : Int32), .int (2 : Int32)]) (S := []) md_X11_within ms_X11_within lk_RX11_61 rfl (Nat.le_of_ble_eq_true rfl) (by decide) dX11_isWayAsked_13 rfl (fun z hz => c_X11_within x1 (0 : Int32) (2 : Int32) z1.2 z hz) (fun z2 _ => ?_)
    show mk_O _ _ _ _ (.int z2.1 :: []) _ _
    refine xo_if_eq (tgt := 23) dX11_isWayAsked_16 rfl (fun _ => ?_) (fun _ => ?_)
    · exact mk_O.wk (o_X11_isWayAsked_23 z2.2) trivial
    · refine xo_iconst kc_1 dX11_isWayAsked_19 ?_
      refine xo_goto (tgt := 24) dX11_isWayAsked_20 rfl ?_
      exact xo_zret dX11_isWayAsked_24 rfl
theorem c_X11_isWayAsked (x0 : Int32) (x1 : Int32) (t : mk_S) (z : Int32 × mk_S) (h : F_X11_isWayAsked x0 x1 t = some z) : mk_Ct M_X11_isWayAsked [.int x0, .int x1] t (mk_wi z.1, z.2) :=
  mk_ct (w := mk_wi) (by decide +kernel) (Nat.le_of_ble_eq_true rfl) (p_X11_isWayAsked x0 x1 t) z h
def F_X11_stand (x0 : Nat) (x1 : Int32) (x2 : Int32) (x3 : Int32) (t : mk_S) : Option (Int32 × mk_S) := mk_gd t x0 10 ((F_X11_isPerson x0 x1 t).bind fun z1 => if z1.1 = 0 then (some ((-1 : Int32), z1.2)) else ((F_X11_isWayAsked x2 x3 z1.2).bind fun z2 => if z2.1 = 0 then (some ((-1 : Int32), z2.2)) else ((mk_ga z2.2 x0 10 3).bind fun v3 => (F_X2_bestCell v3 x1 x2 x3 z2.2).bind fun z4 => some (z4.1, z4.2))))
theorem p_X11_stand (x0 : Nat) (x1 : Int32) (x2 : Int32) (x3 : Int32) (t : mk_S) : mk_O mk_wi M_X11_stand 0 [some (.ref x0), some (.int x1), some (.int x2), some (.int x3)] [] t ((F_X11_isPerson x0 x1 t).bind fun z1 => if z1.1 = 0 then (some ((-1 : Int32), z1.2)) else ((F_X11_isWayAsked x2 x3 z1.2).bind fun z2 => if z2.1 = 0 then (some ((-1 : Int32), z2.2)) else ((mk_ga z2.2 x0 10 3).bind fun v3 => (F_X2_bestCell v3 x1 x2 x3 z2.2).bind fun z4 => some (z4.1, z4.2)))) := by
  refine xo_aload_n rfl rfl dX11_stand_0 ?_
  refine xo_iload_n rfl rfl dX11_stand_1 ?_
  refine mk_O.callV (N := M_X11_isPerson) (ci := 10) (q := (RX11, TX11, 7)) (b := x0) (As1 := [.int x1]) (S := []) md_X11_isPerson mv_X11_isPerson lk_RX11_97 rfl (Nat.le_of_ble_eq_true rfl) (by decide) dX11_stand_2 rfl rfl rfl (fun z hz => (c_X11_isPerson x0 x1 t z hz).1) (fun z hz => (c_X11_isPerson x0 x1 t z hz).2) (fun z1 _ => ?_)
  show mk_O _ _ _ _ (.int z1.1 :: []) _ _
  refine xo_if_eq (tgt := 16) dX11_stand_5 rfl (fun _ => ?_) (fun _ => ?_)
  · refine xo_iconst kc_m1 dX11_stand_16 ?_
    exact xo_iret dX11_stand_17 rfl
  · refine xo_iload_n rfl rfl dX11_stand_8 ?_
    refine xo_iload_n rfl rfl dX11_stand_9 ?_
    refine mk_O.callS (N := M_X11_isWayAsked) (As := [.int x2, .int x3]) (S := []) md_X11_isWayAsked ms_X11_isWayAsked lk_RX11_248 rfl (Nat.le_of_ble_eq_true rfl) (by decide) dX11_stand_10 rfl (fun z hz => c_X11_isWayAsked x2 x3 z1.2 z hz) (fun z2 _ => ?_)
    show mk_O _ _ _ _ (.int z2.1 :: []) _ _
    refine xo_if_ne (tgt := 18) dX11_stand_13 rfl (fun _ => ?_) (fun _ => ?_)
    · refine xo_iconst kc_m1 dX11_stand_16 ?_
      exact xo_iret dX11_stand_17 rfl
    · refine xo_aload_n rfl rfl dX11_stand_18 ?_
      refine xo_geta dX11_stand_19 cl_10 fl_RX11_33 rfl (fun v3 => ?_)
      refine xo_iload_n rfl rfl dX11_stand_22 ?_
      refine xo_iload_n rfl rfl dX11_stand_23 ?_
      refine xo_iload_n rfl rfl dX11_stand_24 ?_
      refine mk_O.callV (N := M_X2_bestCell) (ci := 2) (q := (RX2, TX2, 14)) (b := v3) (As1 := [.int x1, .int x2, .int x3]) (S := []) md_X2_bestCell mv_X2_bestCell lk_RX11_251 rfl (Nat.le_of_ble_eq_true rfl) (by decide) dX11_stand_25 rfl rfl rfl (fun z hz => (c_X2_bestCell v3 x1 x2 x3 z2.2 z hz).1) (fun z hz => (c_X2_bestCell v3 x1 x2 x3 z2.2 z hz).2) (fun z4 _ => ?_)
      show mk_O _ _ _ _ (.int z4.1 :: []) _ _
      exact xo_iret dX11_stand_28 rfl
theorem c_X11_stand (x0 : Nat) (x1 : Int32) (x2 : Int32) (x3 : Int32) (t : mk_S) (z : Int32 × mk_S) (h : F_X11_stand x0 x1 x2 x3 t = some z) : mk_is t x0 10 ∧ mk_Ct M_X11_stand [.ref x0, .int x1, .int x2, .int x3] t (mk_wi z.1, z.2) :=
  ⟨(mk_gd_spec h).1, mk_ct (w := mk_wi) (by decide +kernel) (Nat.le_of_ble_eq_true rfl) (p_X11_stand x0 x1 x2 x3 t) z (mk_gd_spec h).2⟩
def F_X11_turn (x0 : Nat) (x1 : Int32) (x2 : Int32) (x3 : Int32) (t : mk_S) : Option (Int32 × mk_S) := mk_gd t x0 10 ((F_X11_isPerson x0 x1 t).bind fun z1 => if z1.1 = 0 then (some ((-1 : Int32), z1.2)) else ((F_X11_isWayAsked x2 x3 z1.2).bind fun z2 => if z2.1 = 0 then (some ((-1 : Int32), z2.2)) else ((mk_ga z2.2 x0 10 3).bind fun v3 => (F_X2_bestFace v3 x1 x2 x3 z2.2).bind fun z4 => some (z4.1, z4.2))))
theorem p_X11_turn (x0 : Nat) (x1 : Int32) (x2 : Int32) (x3 : Int32) (t : mk_S) : mk_O mk_wi M_X11_turn 0 [some (.ref x0), some (.int x1), some (.int x2), some (.int x3)] [] t ((F_X11_isPerson x0 x1 t).bind fun z1 => if z1.1 = 0 then (some ((-1 : Int32), z1.2)) else ((F_X11_isWayAsked x2 x3 z1.2).bind fun z2 => if z2.1 = 0 then (some ((-1 : Int32), z2.2)) else ((mk_ga z2.2 x0 10 3).bind fun v3 => (F_X2_bestFace v3 x1 x2 x3 z2.2).bind fun z4 => some (z4.1, z4.2)))) := by
  refine xo_aload_n rfl rfl dX11_turn_0 ?_
  refine xo_iload_n rfl rfl dX11_turn_1 ?_
  refine mk_O.callV (N := M_X11_isPerson) (ci := 10) (q := (RX11, TX11, 7)) (b := x0) (As1 := [.int x1]) (S := []) md_X11_isPerson mv_X11_isPerson lk_RX11_97 rfl (Nat.le_of_ble_eq_true rfl) (by decide) dX11_turn_2 rfl rfl rfl (fun z hz => (c_X11_isPerson x0 x1 t z hz).1) (fun z hz => (c_X11_isPerson x0 x1 t z hz).2) (fun z1 _ => ?_)
  show mk_O _ _ _ _ (.int z1.1 :: []) _ _
  refine xo_if_eq (tgt := 16) dX11_turn_5 rfl (fun _ => ?_) (fun _ => ?_)
  · refine xo_iconst kc_m1 dX11_turn_16 ?_
    exact xo_iret dX11_turn_17 rfl
  · refine xo_iload_n rfl rfl dX11_turn_8 ?_
    refine xo_iload_n rfl rfl dX11_turn_9 ?_
    refine mk_O.callS (N := M_X11_isWayAsked) (As := [.int x2, .int x3]) (S := []) md_X11_isWayAsked ms_X11_isWayAsked lk_RX11_248 rfl (Nat.le_of_ble_eq_true rfl) (by decide) dX11_turn_10 rfl (fun z hz => c_X11_isWayAsked x2 x3 z1.2 z hz) (fun z2 _ => ?_)
    show mk_O _ _ _ _ (.int z2.1 :: []) _ _
    refine xo_if_ne (tgt := 18) dX11_turn_13 rfl (fun _ => ?_) (fun _ => ?_)
    · refine xo_iconst kc_m1 dX11_turn_16 ?_
      exact xo_iret dX11_turn_17 rfl
    · refine xo_aload_n rfl rfl dX11_turn_18 ?_
      refine xo_geta dX11_turn_19 cl_10 fl_RX11_33 rfl (fun v3 => ?_)
      refine xo_iload_n rfl rfl dX11_turn_22 ?_
      refine xo_iload_n rfl rfl dX11_turn_23 ?_
      refine xo_iload_n rfl rfl dX11_turn_24 ?_
      refine mk_O.callV (N := M_X2_bestFace) (ci := 2) (q := (RX2, TX2, 14)) (b := v3) (As1 := [.int x1, .int x2, .int x3]) (S := []) md_X2_bestFace mv_X2_bestFace lk_RX11_254 rfl (Nat.le_of_ble_eq_true rfl) (by decide) dX11_turn_25 rfl rfl rfl (fun z hz => (c_X2_bestFace v3 x1 x2 x3 z2.2 z hz).1) (fun z hz => (c_X2_bestFace v3 x1 x2 x3 z2.2 z hz).2) (fun z4 _ => ?_)
      show mk_O _ _ _ _ (.int z4.1 :: []) _ _
      exact xo_iret dX11_turn_28 rfl
theorem c_X11_turn (x0 : Nat) (x1 : Int32) (x2 : Int32) (x3 : Int32) (t : mk_S) (z : Int32 × mk_S) (h : F_X11_turn x0 x1 x2 x3 t = some z) : mk_is t x0 10 ∧ mk_Ct M_X11_turn [.ref x0, .int x1, .int x2, .int x3] t (mk_wi z.1, z.2) :=
  ⟨(mk_gd_spec h).1, mk_ct (w := mk_wi) (by decide +kernel) (Nat.le_of_ble_eq_true rfl) (p_X11_turn x0 x1 x2 x3 t) z (mk_gd_spec h).2⟩
def F_X11_takes (x0 : Nat) (x1 : Int32) (x2 : Int32) (x3 : Int32) (x4 : Int32) (t : mk_S) : Option (Int32 × mk_S) := mk_gd t x0 10 ((F_X11_isPerson x0 x1 t).bind fun z1 => if z1.1 = 0 then (some ((-1 : Int32), z1.2)) else ((F_X11_isMill x0 x2 z1.2).bind fun z2 => if z2.1 = 0 then (some ((-1 : Int32), z2.2)) else ((F_X11_within x3 (1 : Int32) (9999 : Int32) z2.2).bind fun z3 => if z3.1 = 0 then (some ((-1 : Int32), z3.2)) else ((F_X11_within x4 (1 : Int32) (60 : Int32) z3.2).bind fun z4 => if z4.1 = 0 then (some ((-1 : Int32), z4.2)) else ((mk_ga z4.2 x0 10 3).bind fun v5 => (F_X2_leastWine v5 x1 x2 x3 x4 z4.2).bind fun z6 => some (z6.1, z6.2))))))
theorem p_X11_takes (x0 : Nat) (x1 : Int32) (x2 : Int32) (x3 : Int32) (x4 : Int32) (t : mk_S) : mk_O mk_wi M_X11_takes 0 [some (.ref x0), some (.int x1), some (.int x2), some (.int x3), some (.int x4)] [] t ((F_X11_isPerson x0 x1 t).bind fun z1 => if z1.1 = 0 then (some ((-1 : Int32), z1.2)) else ((F_X11_isMill x0 x2 z1.2).bind fun z2 => if z2.1 = 0 then (some ((-1 : Int32), z2.2)) else ((F_X11_within x3 (1 : Int32) (9999 : Int32) z2.2).bind fun z3 => if z3.1 = 0 then (some ((-1 : Int32), z3.2)) else ((F_X11_within x4 (1 : Int32) (60 : Int32) z3.2).bind fun z4 => if z4.1 = 0 then (some ((-1 : Int32), z4.2)) else ((mk_ga z4.2 x0 10 3).bind fun v5 => (F_X2_leastWine v5 x1 x2 x3 x4 z4.2).bind fun z6 => some (z6.1, z6.2)))))) := by
  refine xo_aload_n rfl rfl dX11_takes_0 ?_
  refine xo_iload_n rfl rfl dX11_takes_1 ?_
  refine mk_O.callV (N := M_X11_isPerson) (ci := 10) (q := (RX11, TX11, 7)) (b := x0) (As1 := [.int x1]) (S := []) md_X11_isPerson mv_X11_isPerson lk_RX11_97 rfl (Nat.le_of_ble_eq_true rfl) (by decide) dX11_takes_2 rfl rfl rfl (fun z hz => (c_X11_isPerson x0 x1 t z hz).1) (fun z hz => (c_X11_isPerson x0 x1 t z hz).2) (fun z1 _ => ?_)
  show mk_O _ _ _ _ (.int z1.1 :: []) _ _
  refine xo_if_eq (tgt := 38) dX11_takes_5 rfl (fun _ => ?_) (fun _ => ?_)
  · refine xo_iconst kc_m1 dX11_takes_38 ?_
    exact xo_iret dX11_takes_39 rfl
  · refine xo_aload_n rfl rfl dX11_takes_8 ?_
    refine xo_iload_n rfl rfl dX11_takes_9 ?_
    refine mk_O.callV (N := M_X11_isMill) (ci := 10) (q := (RX11, TX11, 7)) (b := x0) (As1 := [.int x2]) (S := []) md_X11_isMill mv_X11_isMill lk_RX11_126 rfl (Nat.le_of_ble_eq_true rfl) (by decide) dX11_takes_10 rfl rfl rfl (fun z hz => (c_X11_isMill x0 x2 z1.2 z hz).1) (fun z hz => (c_X11_isMill x0 x2 z1.2 z hz).2) (fun z2 _ => ?_)
    show mk_O _ _ _ _ (.int z2.1 :: []) _ _
    refine xo_if_eq (tgt := 38) dX11_takes_13 rfl (fun _ => ?_) (fun _ => ?_)
    · refine xo_iconst kc_m1 dX11_takes_38 ?_
      exact xo_iret dX11_takes_39 rfl
    · refine xo_iload_n rfl rfl dX11_takes_16 ?_
      refine xo_iconst kc_1 dX11_takes_17 ?_
      refine xo_sipush ks_9999 dX11_takes_18 ?_
      refine mk_O.callS (N := M_X11_within) (As := [.int x3, .int (1 : Int32), .int (9999 : Int32)]) (S := []) md_X11_within ms_X11_within lk_RX11_61 rfl (Nat.le_of_ble_eq_true rfl) (by decide) dX11_takes_21 rfl (fun z hz => c_X11_within x3 (1 : Int32) (9999 : Int32) z2.2 z hz) (fun z3 _ => ?_)
      show mk_O _ _ _ _ (.int z3.1 :: []) _ _
      refine xo_if_eq (tgt := 38) dX11_takes_24 rfl (fun _ => ?_) (fun _ => ?_)
      · refine xo_iconst kc_m1 dX11_takes_38 ?_
        exact xo_iret dX11_takes_39 rfl
      · refine xo_iload rfl dX11_takes_27 ?_
        refine xo_iconst kc_1 dX11_takes_29 ?_
        refine xo_bipush kb_60 dX11_takes_30 ?_
        refine mk_O.callS (N := M_X11_within) (As := [.int x4, .int (1 : Int32), .int (60 : Int32)]) (S := []) md_X11_within ms_X11_within lk_RX11_61 rfl (Nat.le_of_ble_eq_true rfl) (by decide) dX11_takes_32 rfl (fun z hz => c_X11_within x4 (1 : Int32) (60 : Int32) z3.2 z hz) (fun z4 _ => ?_)
        show mk_O _ _ _ _ (.int z4.1 :: []) _ _
        refine xo_if_ne (tgt := 40) dX11_takes_35 rfl (fun _ => ?_) (fun _ => ?_)
        · refine xo_iconst kc_m1 dX11_takes_38 ?_
          exact xo_iret dX11_takes_39 rfl
        · refine xo_aload_n rfl rfl dX11_takes_40 ?_
          refine xo_geta dX11_takes_41 cl_10 fl_RX11_33 rfl (fun v5 => ?_)
          refine xo_iload_n rfl rfl dX11_takes_44 ?_
          refine xo_iload_n rfl rfl dX11_takes_45 ?_
          refine xo_iload_n rfl rfl dX11_takes_46 ?_
          refine xo_iload rfl dX11_takes_47 ?_
          refine mk_O.callV (N := M_X2_leastWine) (ci := 2) (q := (RX2, TX2, 14)) (b := v5) (As1 := [.int x1, .int x2, .int x3, .int x4]) (S := []) md_X2_leastWine mv_X2_leastWine lk_RX11_257 rfl (Nat.le_of_ble_eq_true rfl) (by decide) dX11_takes_49 rfl rfl rfl (fun z hz => (c_X2_leastWine v5 x1 x2 x3 x4 z4.2 z hz).1) (fun z hz => (c_X2_leastWine v5 x1 x2 x3 x4 z4.2 z hz).2) (fun z6 _ => ?_)
          show mk_O _ _ _ _ (.int z6.1 :: []) _ _
          exact xo_iret dX11_takes_52 rfl
theorem c_X11_takes (x0 : Nat) (x1 : Int32) (x2 : Int32) (x3 : Int32) (x4 : Int32) (t : mk_S) (z : Int32 × mk_S) (h : F_X11_takes x0 x1 x2 x3 x4 t = some z) : mk_is t x0 10 ∧ mk_Ct M_X11_takes [.ref x0, .int x1, .int x2, .int x3, .int x4] t (mk_wi z.1, z.2) :=
  ⟨(mk_gd_spec h).1, mk_ct (w := mk_wi) (by decide +kernel) (Nat.le_of_ble_eq_true rfl) (p_X11_takes x0 x1 x2 x3 x4 t) z (mk_gd_spec h).2⟩
def F_X11_blown (x0 : Nat) (x1 : Int32) (x2 : Int32) (x3 : Int32) (t : mk_S) : Option (Int32 × mk_S) := mk_gd t x0 10 ((F_X11_isCell x0 x1 t).bind fun z1 => if z1.1 = 0 then (some ((-3 : Int32), z1.2)) else ((F_X11_within x2 (0 : Int32) (999 : Int32) z1.2).bind fun z2 => if z2.1 = 0 then (some ((-3 : Int32), z2.2)) else ((F_X11_within x3 (0 : Int32) (2 : Int32) z2.2).bind fun z3 => if z3.1 = 0 then (some ((-3 : Int32), z3.2)) else ((mk_ga z3.2 x0 10 3).bind fun v4 => (F_X2_blowers v4 x1 x2 x3 z3.2).bind fun z5 => some (z5.1, z5.2)))))
theorem p_X11_blown (x0 : Nat) (x1 : Int32) (x2 : Int32) (x3 : Int32) (t : mk_S) : mk_O mk_wi M_X11_blown 0 [some (.ref x0), some (.int x1), some (.int x2), some (.int x3)] [] t ((F_X11_isCell x0 x1 t).bind fun z1 => if z1.1 = 0 then (some ((-3 : Int32), z1.2)) else ((F_X11_within x2 (0 : Int32) (999 : Int32) z1.2).bind fun z2 => if z2.1 = 0 then (some ((-3 : Int32), z2.2)) else ((F_X11_within x3 (0 : Int32) (2 : Int32) z2.2).bind fun z3 => if z3.1 = 0 then (some ((-3 : Int32), z3.2)) else ((mk_ga z3.2 x0 10 3).bind fun v4 => (F_X2_blowers v4 x1 x2 x3 z3.2).bind fun z5 => some (z5.1, z5.2))))) := by
  refine xo_aload_n rfl rfl dX11_blown_0 ?_
  refine xo_iload_n rfl rfl dX11_blown_1 ?_
  refine mk_O.callV (N := M_X11_isCell) (ci := 10) (q := (RX11, TX11, 7)) (b := x0) (As1 := [.int x1]) (S := []) md_X11_isCell mv_X11_isCell lk_RX11_150 rfl (Nat.le_of_ble_eq_true rfl) (by decide) dX11_blown_2 rfl rfl rfl (fun z hz => (c_X11_isCell x0 x1 t z hz).1) (fun z hz => (c_X11_isCell x0 x1 t z hz).2) (fun z1 _ => ?_)
  show mk_O _ _ _ _ (.int z1.1 :: []) _ _
  refine xo_if_eq (tgt := 28) dX11_blown_5 rfl (fun _ => ?_) (fun _ => ?_)
  · refine xo_bipush kb_m3 dX11_blown_28 ?_
    exact xo_iret dX11_blown_30 rfl
  · refine xo_iload_n rfl rfl dX11_blown_8 ?_
    refine xo_iconst kc_0 dX11_blown_9 ?_
    refine xo_sipush ks_999 dX11_blown_10 ?_
    refine mk_O.callS (N := M_X11_within) (As := [.int x2, .int (0 : Int32), .int (999 : Int32)]) (S := []) md_X11_within ms_X11_within lk_RX11_61 rfl (Nat.le_of_ble_eq_true rfl) (by decide) dX11_blown_13 rfl (fun z hz => c_X11_within x2 (0 : Int32) (999 : Int32) z1.2 z hz) (fun z2 _ => ?_)
    show mk_O _ _ _ _ (.int z2.1 :: []) _ _
    refine xo_if_eq (tgt := 28) dX11_blown_16 rfl (fun _ => ?_) (fun _ => ?_)
    · refine xo_bipush kb_m3 dX11_blown_28 ?_
      exact xo_iret dX11_blown_30 rfl
    · refine xo_iload_n rfl rfl dX11_blown_19 ?_
      refine xo_iconst kc_0 dX11_blown_20 ?_
      refine xo_iconst kc_2 dX11_blown_21 ?_
      refine mk_O.callS (N := M_X11_within) (As := [.int x3, .int (0 : Int32), .int (2 : Int32)]) (S := []) md_X11_within ms_X11_within lk_RX11_61 rfl (Nat.le_of_ble_eq_true rfl) (by decide) dX11_blown_22 rfl (fun z hz => c_X11_within x3 (0 : Int32) (2 : Int32) z2.2 z hz) (fun z3 _ => ?_)
      show mk_O _ _ _ _ (.int z3.1 :: []) _ _
      refine xo_if_ne (tgt := 31) dX11_blown_25 rfl (fun _ => ?_) (fun _ => ?_)
      · refine xo_bipush kb_m3 dX11_blown_28 ?_
        exact xo_iret dX11_blown_30 rfl
      · refine xo_aload_n rfl rfl dX11_blown_31 ?_
        refine xo_geta dX11_blown_32 cl_10 fl_RX11_33 rfl (fun v4 => ?_)
        refine xo_iload_n rfl rfl dX11_blown_35 ?_
        refine xo_iload_n rfl rfl dX11_blown_36 ?_
        refine xo_iload_n rfl rfl dX11_blown_37 ?_
        refine mk_O.callV (N := M_X2_blowers) (ci := 2) (q := (RX2, TX2, 14)) (b := v4) (As1 := [.int x1, .int x2, .int x3]) (S := []) md_X2_blowers mv_X2_blowers lk_RX11_261 rfl (Nat.le_of_ble_eq_true rfl) (by decide) dX11_blown_38 rfl rfl rfl (fun z hz => (c_X2_blowers v4 x1 x2 x3 z3.2 z hz).1) (fun z hz => (c_X2_blowers v4 x1 x2 x3 z3.2 z hz).2) (fun z5 _ => ?_)
        show mk_O _ _ _ _ (.int z5.1 :: []) _ _
        exact xo_iret dX11_blown_41 rfl
theorem c_X11_blown (x0 : Nat) (x1 : Int32) (x2 : Int32) (x3 : Int32) (t : mk_S) (z : Int32 × mk_S) (h : F_X11_blown x0 x1 x2 x3 t = some z) : mk_is t x0 10 ∧ mk_Ct M_X11_blown [.ref x0, .int x1, .int x2, .int x3] t (mk_wi z.1, z.2) :=
  ⟨(mk_gd_spec h).1, mk_ct (w := mk_wi) (by decide +kernel) (Nat.le_of_ble_eq_true rfl) (p_X11_blown x0 x1 x2 x3 t) z (mk_gd_spec h).2⟩
def F_X11_still (x0 : Nat) (x1 : Int32) (x2 : Int32) (t : mk_S) : Option (Int32 × mk_S) := mk_gd t x0 10 ((mk_ga t x0 10 4).bind fun v1 => (mk_ga t v1 9 0).bind fun v2 => (F_X3_isThere v2 t).bind fun z3 => if z3.1 = 0 then (some ((-2 : Int32), z3.2)) else ((F_X11_isWayAsked x1 x2 z3.2).bind fun z4 => if z4.1 = 0 then (some ((-2 : Int32), z4.2)) else ((mk_ga z4.2 x0 10 3).bind fun v5 => (F_X2_bestStill v5 x1 x2 z4.2).bind fun z6 => some (z6.1, z6.2))))
theorem p_X11_still (x0 : Nat) (x1 : Int32) (x2 : Int32) (t : mk_S) : mk_O mk_wi M_X11_still 0 [some (.ref x0), some (.int x1), some (.int x2)] [] t ((mk_ga t x0 10 4).bind fun v1 => (mk_ga t v1 9 0).bind fun v2 => (F_X3_isThere v2 t).bind fun z3 => if z3.1 = 0 then (some ((-2 : Int32), z3.2)) else ((F_X11_isWayAsked x1 x2 z3.2).bind fun z4 => if z4.1 = 0 then (some ((-2 : Int32), z4.2)) else ((mk_ga z4.2 x0 10 3).bind fun v5 => (F_X2_bestStill v5 x1 x2 z4.2).bind fun z6 => some (z6.1, z6.2)))) := by
  refine xo_aload_n rfl rfl dX11_still_0 ?_
  refine xo_geta dX11_still_1 cl_10 fl_RX11_41 rfl (fun v1 => ?_)
  refine xo_geta dX11_still_4 cl_9 fl_RX11_78 rfl (fun v2 => ?_)
  refine mk_O.callV (N := M_X3_isThere) (ci := 3) (q := (RX3, TX3, 12)) (b := v2) (As1 := []) (S := []) md_X3_isThere mv_X3_isThere lk_RX11_201 rfl (Nat.le_of_ble_eq_true rfl) (by decide) dX11_still_7 rfl rfl rfl (fun z hz => (c_X3_isThere v2 t z hz).1) (fun z hz => (c_X3_isThere v2 t z hz).2) (fun z3 _ => ?_)
  show mk_O _ _ _ _ (.int z3.1 :: []) _ _
  refine xo_if_eq (tgt := 21) dX11_still_10 rfl (fun _ => ?_) (fun _ => ?_)
  · refine xo_bipush kb_m2 dX11_still_21 ?_
    exact xo_iret dX11_still_23 rfl
  · refine xo_iload_n rfl rfl dX11_still_13 ?_
    refine xo_iload_n rfl rfl dX11_still_14 ?_
    refine mk_O.callS (N := M_X11_isWayAsked) (As := [.int x1, .int x2]) (S := []) md_X11_isWayAsked ms_X11_isWayAsked lk_RX11_248 rfl (Nat.le_of_ble_eq_true rfl) (by decide) dX11_still_15 rfl (fun z hz => c_X11_isWayAsked x1 x2 z3.2 z hz) (fun z4 _ => ?_)
    show mk_O _ _ _ _ (.int z4.1 :: []) _ _
    refine xo_if_ne (tgt := 24) dX11_still_18 rfl (fun _ => ?_) (fun _ => ?_)
    · refine xo_bipush kb_m2 dX11_still_21 ?_
      exact xo_iret dX11_still_23 rfl
    · refine xo_aload_n rfl rfl dX11_still_24 ?_
      refine xo_geta dX11_still_25 cl_10 fl_RX11_33 rfl (fun v5 => ?_)
      refine xo_iload_n rfl rfl dX11_still_28 ?_
      refine xo_iload_n rfl rfl dX11_still_29 ?_
      refine mk_O.callV (N := M_X2_bestStill) (ci := 2) (q := (RX2, TX2, 14)) (b := v5) (As1 := [.int x1, .int x2]) (S := []) md_X2_bestStill mv_X2_bestStill lk_RX11_264 rfl (Nat.le_of_ble_eq_true rfl) (by decide) dX11_still_30 rfl rfl rfl (fun z hz => (c_X2_bestStill v5 x1 x2 z4.2 z hz).1) (fun z hz => (c_X2_bestStill v5 x1 x2 z4.2 z hz).2) (fun z6 _ => ?_)
      show mk_O _ _ _ _ (.int z6.1 :: []) _ _
      exact xo_iret dX11_still_33 rfl
theorem c_X11_still (x0 : Nat) (x1 : Int32) (x2 : Int32) (t : mk_S) (z : Int32 × mk_S) (h : F_X11_still x0 x1 x2 t = some z) : mk_is t x0 10 ∧ mk_Ct M_X11_still [.ref x0, .int x1, .int x2] t (mk_wi z.1, z.2) :=
  ⟨(mk_gd_spec h).1, mk_ct (w := mk_wi) (by decide +kernel) (Nat.le_of_ble_eq_true rfl) (p_X11_still x0 x1 x2 t) z (mk_gd_spec h).2⟩
def F_X11_lull (x0 : Nat) (x1 : Int32) (x2 : Int32) (t : mk_S) : Option (Int32 × mk_S) := mk_gd t x0 10 ((mk_ga t x0 10 4).bind fun v1 => (mk_ga t v1 9 0).bind fun v2 => (F_X3_isThere v2 t).bind fun z3 => if z3.1 = 0 then (some ((-1 : Int32), z3.2)) else ((F_X11_within x1 (1 : Int32) (100 : Int32) z3.2).bind fun z4 => if z4.1 = 0 then (some ((-1 : Int32), z4.2)) else ((F_X11_within x2 (0 : Int32) (1 : Int32) z4.2).bind fun z5 => if z5.1 = 0 then (some ((-1 : Int32), z5.2)) else ((mk_ga z5.2 x0 10 3).bind fun v6 => (F_X2_longestLull v6 x1 x2 z5.2).bind fun z7 => some (z7.1, z7.2)))))
theorem p_X11_lull (x0 : Nat) (x1 : Int32) (x2 : Int32) (t : mk_S) : mk_O mk_wi M_X11_lull 0 [some (.ref x0), some (.int x1), some (.int x2)] [] t ((mk_ga t x0 10 4).bind fun v1 => (mk_ga t v1 9 0).bind fun v2 => (F_X3_isThere v2 t).bind fun z3 => if z3.1 = 0 then (some ((-1 : Int32), z3.2)) else ((F_X11_within x1 (1 : Int32) (100 : Int32) z3.2).bind fun z4 => if z4.1 = 0 then (some ((-1 : Int32), z4.2)) else ((F_X11_within x2 (0 : Int32) (1 : Int32) z4.2).bind fun z5 => if z5.1 = 0 then (some ((-1 : Int32), z5.2)) else ((mk_ga z5.2 x0 10 3).bind fun v6 => (F_X2_longestLull v6 x1 x2 z5.2).bind fun z7 => some (z7.1, z7.2))))) := by
  refine xo_aload_n rfl rfl dX11_lull_0 ?_
  refine xo_geta dX11_lull_1 cl_10 fl_RX11_41 rfl (fun v1 => ?_)
  refine xo_geta dX11_lull_4 cl_9 fl_RX11_78 rfl (fun v2 => ?_)
  refine mk_O.callV (N := M_X3_isThere) (ci := 3) (q := (RX3, TX3, 12)) (b := v2) (As1 := []) (S := []) md_X3_isThere mv_X3_isThere lk_RX11_201 rfl (Nat.le_of_ble_eq_true rfl) (by decide) dX11_lull_7 rfl rfl rfl (fun z hz => (c_X3_isThere v2 t z hz).1) (fun z hz => (c_X3_isThere v2 t z hz).2) (fun z3 _ => ?_)
  show mk_O _ _ _ _ (.int z3.1 :: []) _ _
  refine xo_if_eq (tgt := 32) dX11_lull_10 rfl (fun _ => ?_) (fun _ => ?_)
  · refine xo_iconst kc_m1 dX11_lull_32 ?_
    exact xo_iret dX11_lull_33 rfl
  · refine xo_iload_n rfl rfl dX11_lull_13 ?_
    refine xo_iconst kc_1 dX11_lull_14 ?_
    refine xo_bipush kb_100 dX11_lull_15 ?_
    refine mk_O.callS (N := M_X11_within) (As := [.int x1, .int (1 : Int32), .int (100 : Int32)]) (S := []) md_X11_within ms_X11_within lk_RX11_61 rfl (Nat.le_of_ble_eq_true rfl) (by decide) dX11_lull_17 rfl (fun z hz => c_X11_within x1 (1 : Int32) (100 : Int32) z3.2 z hz) (fun z4 _ => ?_)
    show mk_O _ _ _ _ (.int z4.1 :: []) _ _
    refine xo_if_eq (tgt := 32) dX11_lull_20 rfl (fun _ => ?_) (fun _ => ?_)
    · refine xo_iconst kc_m1 dX11_lull_32 ?_
      exact xo_iret dX11_lull_33 rfl
    · refine xo_iload_n rfl rfl dX11_lull_23 ?_
      refine xo_iconst kc_0 dX11_lull_24 ?_
      refine xo_iconst kc_1 dX11_lull_25 ?_
      refine mk_O.callS (N := M_X11_within) (As := [.int x2, .int (0 : Int32), .int (1 : Int32)]) (S := []) md_X11_within ms_X11_within lk_RX11_61 rfl (Nat.le_of_ble_eq_true rfl) (by decide) dX11_lull_26 rfl (fun z hz => c_X11_within x2 (0 : Int32) (1 : Int32) z4.2 z hz) (fun z5 _ => ?_)
      show mk_O _ _ _ _ (.int z5.1 :: []) _ _
      refine xo_if_ne (tgt := 34) dX11_lull_29 rfl (fun _ => ?_) (fun _ => ?_)
      · refine xo_iconst kc_m1 dX11_lull_32 ?_
        exact xo_iret dX11_lull_33 rfl
      · refine xo_aload_n rfl rfl dX11_lull_34 ?_
        refine xo_geta dX11_lull_35 cl_10 fl_RX11_33 rfl (fun v6 => ?_)
        refine xo_iload_n rfl rfl dX11_lull_38 ?_
        refine xo_iload_n rfl rfl dX11_lull_39 ?_
        refine mk_O.callV (N := M_X2_longestLull) (ci := 2) (q := (RX2, TX2, 14)) (b := v6) (As1 := [.int x1, .int x2]) (S := []) md_X2_longestLull mv_X2_longestLull lk_RX11_267 rfl (Nat.le_of_ble_eq_true rfl) (by decide) dX11_lull_40 rfl rfl rfl (fun z hz => (c_X2_longestLull v6 x1 x2 z5.2 z hz).1) (fun z hz => (c_X2_longestLull v6 x1 x2 z5.2 z hz).2) (fun z7 _ => ?_)
        show mk_O _ _ _ _ (.int z7.1 :: []) _ _
        exact xo_iret dX11_lull_43 rfl
theorem c_X11_lull (x0 : Nat) (x1 : Int32) (x2 : Int32) (t : mk_S) (z : Int32 × mk_S) (h : F_X11_lull x0 x1 x2 t = some z) : mk_is t x0 10 ∧ mk_Ct M_X11_lull [.ref x0, .int x1, .int x2] t (mk_wi z.1, z.2) :=
  ⟨(mk_gd_spec h).1, mk_ct (w := mk_wi) (by decide +kernel) (Nat.le_of_ble_eq_true rfl) (p_X11_lull x0 x1 x2 t) z (mk_gd_spec h).2⟩
def F_X11_harvest (x0 : Nat) (x1 : Int32) (x2 : Int32) (t : mk_S) : Option (Int32 × mk_S) := mk_gd t x0 10 ((mk_ga t x0 10 4).bind fun v1 => (mk_ga t v1 9 0).bind fun v2 => (F_X3_isThere v2 t).bind fun z3 => if z3.1 = 0 then (some ((-1 : Int32), z3.2)) else ((F_X11_within x1 (1 : Int32) (100 : Int32) z3.2).bind fun z4 => if z4.1 = 0 then (some ((-1 : Int32), z4.2)) else ((F_X11_within x2 (0 : Int32) (1 : Int32) z4.2).bind fun z5 => if z5.1 = 0 then (some ((-1 : Int32), z5.2)) else ((mk_ga z5.2 x0 10 3).bind fun v6 => (F_X2_windiest v6 x1 x2 z5.2).bind fun z7 => some (z7.1, z7.2)))))
theorem p_X11_harvest (x0 : Nat) (x1 : Int32) (x2 : Int32) (t : mk_S) : mk_O mk_wi M_X11_harvest 0 [some (.ref x0), some (.int x1), some (.int x2)] [] t ((mk_ga t x0 10 4).bind fun v1 => (mk_ga t v1 9 0).bind fun v2 => (F_X3_isThere v2 t).bind fun z3 => if z3.1 = 0 then (some ((-1 : Int32), z3.2)) else ((F_X11_within x1 (1 : Int32) (100 : Int32) z3.2).bind fun z4 => if z4.1 = 0 then (some ((-1 : Int32), z4.2)) else ((F_X11_within x2 (0 : Int32) (1 : Int32) z4.2).bind fun z5 => if z5.1 = 0 then (some ((-1 : Int32), z5.2)) else ((mk_ga z5.2 x0 10 3).bind fun v6 => (F_X2_windiest v6 x1 x2 z5.2).bind fun z7 => some (z7.1, z7.2))))) := by
  refine xo_aload_n rfl rfl dX11_harvest_0 ?_
  refine xo_geta dX11_harvest_1 cl_10 fl_RX11_41 rfl (fun v1 => ?_)
  refine xo_geta dX11_harvest_4 cl_9 fl_RX11_78 rfl (fun v2 => ?_)
  refine mk_O.callV (N := M_X3_isThere) (ci := 3) (q := (RX3, TX3, 12)) (b := v2) (As1 := []) (S := []) md_X3_isThere mv_X3_isThere lk_RX11_201 rfl (Nat.le_of_ble_eq_true rfl) (by decide) dX11_harvest_7 rfl rfl rfl (fun z hz => (c_X3_isThere v2 t z hz).1) (fun z hz => (c_X3_isThere v2 t z hz).2) (fun z3 _ => ?_)
  show mk_O _ _ _ _ (.int z3.1 :: []) _ _
  refine xo_if_eq (tgt := 32) dX11_harvest_10 rfl (fun _ => ?_) (fun _ => ?_)
  · refine xo_iconst kc_m1 dX11_harvest_32 ?_
    exact xo_iret dX11_harvest_33 rfl
  · refine xo_iload_n rfl rfl dX11_harvest_13 ?_
    refine xo_iconst kc_1 dX11_harvest_14 ?_
    refine xo_bipush kb_100 dX11_harvest_15 ?_
    refine mk_O.callS (N := M_X11_within) (As := [.int x1, .int (1 : Int32), .int (100 : Int32)]) (S := []) md_X11_within ms_X11_within lk_RX11_61 rfl (Nat.le_of_ble_eq_true rfl) (by decide) dX11_harvest_17 rfl (fun z hz => c_X11_within x1 (1 : Int32) (100 : Int32) z3.2 z hz) (fun z4 _ => ?_)
    show mk_O _ _ _ _ (.int z4.1 :: []) _ _
    refine xo_if_eq (tgt := 32) dX11_harvest_20 rfl (fun _ => ?_) (fun _ => ?_)
    · refine xo_iconst kc_m1 dX11_harvest_32 ?_
      exact xo_iret dX11_harvest_33 rfl
    · refine xo_iload_n rfl rfl dX11_harvest_23 ?_
      refine xo_iconst kc_0 dX11_harvest_24 ?_
      refine xo_iconst kc_1 dX11_harvest_25 ?_
      refine mk_O.callS (N := M_X11_within) (As := [.int x2, .int (0 : Int32), .int (1 : Int32)]) (S := []) md_X11_within ms_X11_within lk_RX11_61 rfl (Nat.le_of_ble_eq_true rfl) (by decide) dX11_harvest_26 rfl (fun z hz => c_X11_within x2 (0 : Int32) (1 : Int32) z4.2 z hz) (fun z5 _ => ?_)
      show mk_O _ _ _ _ (.int z5.1 :: []) _ _
      refine xo_if_ne (tgt := 34) dX11_harvest_29 rfl (fun _ => ?_) (fun _ => ?_)
      · refine xo_iconst kc_m1 dX11_harvest_32 ?_
        exact xo_iret dX11_harvest_33 rfl
      · refine xo_aload_n rfl rfl dX11_harvest_34 ?_
        refine xo_geta dX11_harvest_35 cl_10 fl_RX11_33 rfl (fun v6 => ?_)
        refine xo_iload_n rfl rfl dX11_harvest_38 ?_
        refine xo_iload_n rfl rfl dX11_harvest_39 ?_
        refine mk_O.callV (N := M_X2_windiest) (ci := 2) (q := (RX2, TX2, 14)) (b := v6) (As1 := [.int x1, .int x2]) (S := []) md_X2_windiest mv_X2_windiest lk_RX11_270 rfl (Nat.le_of_ble_eq_true rfl) (by decide) dX11_harvest_40 rfl rfl rfl (fun z hz => (c_X2_windiest v6 x1 x2 z5.2 z hz).1) (fun z hz => (c_X2_windiest v6 x1 x2 z5.2 z hz).2) (fun z7 _ => ?_)
        show mk_O _ _ _ _ (.int z7.1 :: []) _ _
        exact xo_iret dX11_harvest_43 rfl
theorem c_X11_harvest (x0 : Nat) (x1 : Int32) (x2 : Int32) (t : mk_S) (z : Int32 × mk_S) (h : F_X11_harvest x0 x1 x2 t = some z) : mk_is t x0 10 ∧ mk_Ct M_X11_harvest [.ref x0, .int x1, .int x2] t (mk_wi z.1, z.2) :=
  ⟨(mk_gd_spec h).1, mk_ct (w := mk_wi) (by decide +kernel) (Nat.le_of_ble_eq_true rfl) (p_X11_harvest x0 x1 x2 t) z (mk_gd_spec h).2⟩
def F_X11_rests (x0 : Nat) (x1 : Int32) (x2 : Int32) (x3 : Int32) (x4 : Int32) (t : mk_S) : Option (Int32 × mk_S) := mk_gd t x0 10 ((F_X11_isPerson x0 x1 t).bind fun z1 => if z1.1 = 0 then (some ((-1 : Int32), z1.2)) else ((F_X11_isPerson x0 x2 z1.2).bind fun z2 => if z2.1 = 0 then (some ((-1 : Int32), z2.2)) else (if x1 = x2 then (some ((-1 : Int32), z2.2)) else ((F_X11_within x3 (1 : Int32) (20 : Int32) z2.2).bind fun z3 => if z3.1 = 0 then (some ((-1 : Int32), z3.2)) else ((F_X11_within x4 (0 : Int32) (2 : Int32) z3.2).bind fun z4 => if z4.1 = 0 then (some ((-1 : Int32), z4.2)) else ((mk_ga z4.2 x0 10 3).bind fun v5 => (F_X2_restsOf v5 x1 x2 x3 x4 z4.2).bind fun z6 => some (z6.1, z6.2)))))))
theorem p_X11_rests (x0 : Nat) (x1 : Int32) (x2 : Int32) (x3 : Int32) (x4 : Int32) (t : mk_S) : mk_O mk_wi M_X11_rests 0 [some (.ref x0), some (.int x1), some (.int x2), some (.int x3), some (.int x4)] [] t ((F_X11_isPerson x0 x1 t).bind fun z1 => if z1.1 = 0 then (some ((-1 : Int32), z1.2)) else ((F_X11_isPerson x0 x2 z1.2).bind fun z2 => if z2.1 = 0 then (some ((-1 : Int32), z2.2)) else (if x1 = x2 then (some ((-1 : Int32), z2.2)) else ((F_X11_within x3 (1 : Int32) (20 : Int32) z2.2).bind fun z3 => if z3.1 = 0 then (some ((-1 : Int32), z3.2)) else ((F_X11_within x4 (0 : Int32) (2 : Int32) z3.2).bind fun z4 => if z4.1 = 0 then (some ((-1 : Int32), z4.2)) else ((mk_ga z4.2 x0 10 3).bind fun v5 => (F_X2_restsOf v5 x1 x2 x3 x4 z4.2).bind fun z6 => some (z6.1, z6.2))))))) := by
  refine xo_aload_n rfl rfl dX11_rests_0 ?_
  refine xo_iload_n rfl rfl dX11_rests_1 ?_
  refine mk_O.callV (N := M_X11_isPerson) (ci := 10) (q := (RX11, TX11, 7)) (b := x0) (As1 := [.int x1]) (S := []) md_X11_isPerson mv_X11_isPerson lk_RX11_97 rfl (Nat.le_of_ble_eq_true rfl) (by decide) dX11_rests_2 rfl rfl rfl (fun z hz => (c_X11_isPerson x0 x1 t z hz).1) (fun z hz => (c_X11_isPerson x0 x1 t z hz).2) (fun z1 _ => ?_)
  show mk_O _ _ _ _ (.int z1.1 :: []) _ _
  refine xo_if_eq (tgt := 21) dX11_rests_5 rfl (fun _ => ?_) (fun _ => ?_)
  · refine xo_iconst kc_m1 dX11_rests_21 ?_
    exact xo_iret dX11_rests_22 rfl
  · refine xo_aload_n rfl rfl dX11_rests_8 ?_
    refine xo_iload_n rfl rfl dX11_rests_9 ?_
    refine mk_O.callV (N := M_X11_isPerson) (ci := 10) (q := (RX11, TX11, 7)) (b := x0) (As1 := [.int x2]) (S := []) md_X11_isPerson mv_X11_isPerson lk_RX11_97 rfl (Nat.le_of_ble_eq_true rfl) (by decide) dX11_rests_10 rfl rfl rfl (fun z hz => (c_X11_isPerson x0 x2 z1.2 z hz).1) (fun z hz => (c_X11_isPerson x0 x2 z1.2 z hz).2) (fun z2 _ => ?_)
    show mk_O _ _ _ _ (.int z2.1 :: []) _ _
    refine xo_if_eq (tgt := 21) dX11_rests_13 rfl (fun _ => ?_) (fun _ => ?_)
    · refine xo_iconst kc_m1 dX11_rests_21 ?_
      exact xo_iret dX11_rests_22 rfl
    · refine xo_iload_n rfl rfl dX11_rests_16 ?_
      refine xo_iload_n rfl rfl dX11_rests_17 ?_
      refine xo_icmp_ne (tgt := 23) dX11_rests_18 rfl (fun _ => ?_) (fun _ => ?_)
      · refine xo_iconst kc_m1 dX11_rests_21 ?_
        exact xo_iret dX11_rests_22 rfl
      · refine xo_iload_n rfl rfl dX11_rests_23 ?_
        refine xo_iconst kc_1 dX11_rests_24 ?_
        refine xo_bipush kb_20 dX11_rests_25 ?_
        refine mk_O.callS (N := M_X11_within) (As := [.int x3, .int (1 : Int32), .int (20 : Int32)]) (S := []) md_X11_within ms_X11_within lk_RX11_61 rfl (Nat.le_of_ble_eq_true rfl) (by decide) dX11_rests_27 rfl (fun z hz => c_X11_within x3 (1 : Int32) (20 : Int32) z2.2 z hz) (fun z3 _ => ?_)
        show mk_O _ _ _ _ (.int z3.1 :: []) _ _
        refine xo_if_eq (tgt := 43) dX11_rests_30 rfl (fun _ => ?_) (fun _ => ?_)
        · refine xo_iconst kc_m1 dX11_rests_43 ?_
          exact xo_iret dX11_rests_44 rfl
        · refine xo_iload rfl dX11_rests_33 ?_
          refine xo_iconst kc_0 dX11_rests_35 ?_
          refine xo_iconst kc_2 dX11_rests_36 ?_
          refine mk_O.callS (N := M_X11_within) (As := [.int x4, .int (0 : Int32), .int (2 : Int32)]) (S := []) md_X11_within ms_X11_within lk_RX11_61 rfl (Nat.le_of_ble_eq_true rfl) (by decide) dX11_rests_37 rfl (fun z hz => c_X11_within x4 (0 : Int32) (2 : Int32) z3.2 z hz) (fun z4 _ => ?_)
          show mk_O _ _ _ _ (.int z4.1 :: []) _ _
          refine xo_if_ne (tgt := 45) dX11_rests_40 rfl (fun _ => ?_) (fun _ => ?_)
          · refine xo_iconst kc_m1 dX11_rests_43 ?_
            exact xo_iret dX11_rests_44 rfl
          · refine xo_aload_n rfl rfl dX11_rests_45 ?_
            refine xo_geta dX11_rests_46 cl_10 fl_RX11_33 rfl (fun v5 => ?_)
            refine xo_iload_n rfl rfl dX11_rests_49 ?_
            refine xo_iload_n rfl rfl dX11_rests_50 ?_
            refine xo_iload_n rfl rfl dX11_rests_51 ?_
            refine xo_iload rfl dX11_rests_52 ?_
            refine mk_O.callV (N := M_X2_restsOf) (ci := 2) (q := (RX2, TX2, 14)) (b := v5) (As1 := [.int x1, .int x2, .int x3, .int x4]) (S := []) md_X2_restsOf mv_X2_restsOf lk_RX11_273 rfl (Nat.le_of_ble_eq_true rfl) (by decide) dX11_rests_54 rfl rfl rfl (fun z hz => (c_X2_restsOf v5 x1 x2 x3 x4 z4.2 z hz).1) (fun z hz => (c_X2_restsOf v5 x1 x2 x3 x4 z4.2 z hz).2) (fun z6 _ => ?_)
            show mk_O _ _ _ _ (.int z6.1 :: []) _ _
            exact xo_iret dX11_rests_57 rfl
theorem c_X11_rests (x0 : Nat) (x1 : Int32) (x2 : Int32) (x3 : Int32) (x4 : Int32) (t : mk_S) (z : Int32 × mk_S) (h : F_X11_rests x0 x1 x2 x3 x4 t = some z) : mk_is t x0 10 ∧ mk_Ct M_X11_rests [.ref x0, .int x1, .int x2, .int x3, .int x4] t (mk_wi z.1, z.2) :=
  ⟨(mk_gd_spec h).1, mk_ct (w := mk_wi) (by decide +kernel) (Nat.le_of_ble_eq_true rfl) (p_X11_rests x0 x1 x2 x3 x4 t) z (mk_gd_spec h).2⟩
def F_X11_pence (x0 : Nat) (x1 : Int32) (x2 : Int32) (t : mk_S) : Option (Int32 × mk_S) := mk_gd t x0 10 ((F_X11_isPerson x0 x2 t).bind fun z1 => if z1.1 = 0 then (some ((-1 : Int32), z1.2)) else ((F_X11_within x1 (0 : Int32) (9999 : Int32) z1.2).bind fun z2 => if z2.1 = 0 then (some ((-1 : Int32), z2.2)) else ((mk_ga z2.2 x0 10 4).bind fun v3 => (mk_ga z2.2 v3 9 1).bind fun v4 => (F_X7_share v4 x1 x2 z2.2).bind fun z5 => some (z5.1, z5.2))))
theorem p_X11_pence (x0 : Nat) (x1 : Int32) (x2 : Int32) (t : mk_S) : mk_O mk_wi M_X11_pence 0 [some (.ref x0), some (.int x1), some (.int x2)] [] t ((F_X11_isPerson x0 x2 t).bind fun z1 => if z1.1 = 0 then (some ((-1 : Int32), z1.2)) else ((F_X11_within x1 (0 : Int32) (9999 : Int32) z1.2).bind fun z2 => if z2.1 = 0 then (some ((-1 : Int32), z2.2)) else ((mk_ga z2.2 x0 10 4).bind fun v3 => (mk_ga z2.2 v3 9 1).bind fun v4 => (F_X7_share v4 x1 x2 z2.2).bind fun z5 => some (z5.1, z5.2)))) := by
  refine xo_aload_n rfl rfl dX11_pence_0 ?_
  refine xo_iload_n rfl rfl dX11_pence_1 ?_
  refine mk_O.callV (N := M_X11_isPerson) (ci := 10) (q := (RX11, TX11, 7)) (b := x0) (As1 := [.int x2]) (S := []) md_X11_isPerson mv_X11_isPerson lk_RX11_97 rfl (Nat.le_of_ble_eq_true rfl) (by decide) dX11_pence_2 rfl rfl rfl (fun z hz => (c_X11_isPerson x0 x2 t z hz).1) (fun z hz => (c_X11_isPerson x0 x2 t z hz).2) (fun z1 _ => ?_)
  show mk_O _ _ _ _ (.int z1.1 :: []) _ _
  refine xo_if_eq (tgt := 19) dX11_pence_5 rfl (fun _ => ?_) (fun _ => ?_)
  · refine xo_iconst kc_m1 dX11_pence_19 ?_
    exact xo_iret dX11_pence_20 rfl
  · refine xo_iload_n rfl rfl dX11_pence_8 ?_
    refine xo_iconst kc_0 dX11_pence_9 ?_
    refine xo_sipush ks_9999 dX11_pence_10 ?_
    refine mk_O.callS (N := M_X11_within) (As := [.int x1, .int (0 : Int32), .int (9999 : Int32)]) (S := []) md_X11_within ms_X11_within lk_RX11_61 rfl (Nat.le_of_ble_eq_true rfl) (by decide) dX11_pence_13 rfl (fun z hz => c_X11_within x1 (0 : Int32) (9999 : Int32) z1.2 z hz) (fun z2 _ => ?_)
    show mk_O _ _ _ _ (.int z2.1 :: []) _ _
    refine xo_if_ne (tgt := 21) dX11_pence_16 rfl (fun _ => ?_) (fun _ => ?_)
    · refine xo_iconst kc_m1 dX11_pence_19 ?_
      exact xo_iret dX11_pence_20 rfl
    · refine xo_aload_n rfl rfl dX11_pence_21 ?_
      refine xo_geta dX11_pence_22 cl_10 fl_RX11_41 rfl (fun v3 => ?_)
      refine xo_geta dX11_pence_25 cl_9 fl_RX11_101 rfl (fun v4 => ?_)
      refine xo_iload_n rfl rfl dX11_pence_28 ?_
      refine xo_iload_n rfl rfl dX11_pence_29 ?_
      refine mk_O.callV (N := M_X7_share) (ci := 6) (q := (RX7, TX7, 9)) (b := v4) (As1 := [.int x1, .int x2]) (S := []) md_X7_share mv_X7_share lk_RX11_276 rfl (Nat.le_of_ble_eq_true rfl) (by decide) dX11_pence_30 rfl rfl rfl (fun z hz => (c_X7_share v4 x1 x2 z2.2 z hz).1) (fun z hz => (c_X7_share v4 x1 x2 z2.2 z hz).2) (fun z5 _ => ?_)
      show mk_O _ _ _ _ (.int z5.1 :: []) _ _
      exact xo_iret dX11_pence_33 rfl
theorem c_X11_pence (x0 : Nat) (x1 : Int32) (x2 : Int32) (t : mk_S) (z : Int32 × mk_S) (h : F_X11_pence x0 x1 x2 t = some z) : mk_is t x0 10 ∧ mk_Ct M_X11_pence [.ref x0, .int x1, .int x2] t (mk_wi z.1, z.2) :=
  ⟨(mk_gd_spec h).1, mk_ct (w := mk_wi) (by decide +kernel) (Nat.le_of_ble_eq_true rfl) (p_X11_pence x0 x1 x2 t) z (mk_gd_spec h).2⟩
def F_X11_note (x0 : Nat) (x1 : Int32) (x2 : Int32) (x3 : Int32) (t : mk_S) : Option (Int32 × mk_S) := mk_gd t x0 10 (if x1 = (-1 : Int32) then ((mk_ga t x0 10 4).bind fun v1 => (mk_ga t v1 9 3).bind fun v2 => (mk_pi t v2 1 3 (0 : Int32)).bind fun t3 => some ((0 : Int32), t3)) else ((F_X11_within x1 (0 : Int32) (60 : Int32) t).bind fun z4 => if z4.1 = 0 then (some ((-2 : Int32), z4.2)) else ((F_X11_isCell x0 x2 z4.2).bind fun z5 => if z5.1 = 0 then (some ((-2 : Int32), z5.2)) else ((F_X11_within x3 (0 : Int32) (999 : Int32) z5.2).bind fun z6 => if z6.1 = 0 then (some ((-2 : Int32), z6.2)) else ((mk_ga z6.2 x0 10 4).bind fun v7 => (mk_ga z6.2 v7 9 3).bind fun v8 => (F_X1_add v8 x1 x2 x3 z6.2).bind fun z9 => if z9.1 = 0 then (some ((-2 : Int32), z9.2)) else ((mk_ga z9.2 x0 10 4).bind fun v10 => (mk_ga z9.2 v10 9 3).bind fun v11 => (mk_gi z9.2 v11 1 3).bind fun v12 => some (v12, z9.2)))))))
theorem p_X11_note (x0 : Nat) (x1 : Int32) (x2 : Int32) (x3 : Int32) (t : mk_S) : mk_O mk_wi M_X11_note 0 [some (.ref x0), some (.int x1), some (.int x2), some (.int x3)] [] t (if x1 = (-1 : Int32) then ((mk_ga t x0 10 4).bind fun v1 => (mk_ga t v1 9 3).bind fun v2 => (mk_pi t v2 1 3 (0 : Int32)).bind fun t3 => some ((0 : Int32), t3)) else ((F_X11_within x1 (0 : Int32) (60 : Int32) t).bind fun z4 => if z4.1 = 0 then (some ((-2 : Int32), z4.2)) else ((F_X11_isCell x0 x2 z4.2).bind fun z5 => if z5.1 = 0 then (some ((-2 : Int32), z5.2)) else ((F_X11_within x3 (0 : Int32) (999 : Int32) z5.2).bind fun z6 => if z6.1 = 0 then (some ((-2 : Int32), z6.2)) else ((mk_ga z6.2 x0 10 4).bind fun v7 => (mk_ga z6.2 v7 9 3).bind fun v8 => (F_X1_add v8 x1 x2 x3 z6.2).bind fun z9 => if z9.1 = 0 then (some ((-2 : Int32), z9.2)) else ((mk_ga z9.2 x0 10 4).bind fun v10 => (mk_ga z9.2 v10 9 3).bind fun v11 => (mk_gi z9.2 v11 1 3).bind fun v12 => some (v12, z9.2))))))) := by
  refine xo_iload_n rfl rfl dX11_note_0 ?_
  refine xo_iconst kc_m1 dX11_note_1 ?_
  refine xo_icmp_ne (tgt := 18) dX11_note_2 rfl (fun _ => ?_) (fun _ => ?_)
  · refine xo_aload_n rfl rfl dX11_note_5 ?_
    refine xo_geta dX11_note_6 cl_10 fl_RX11_41 rfl (fun v1 => ?_)
    refine xo_geta dX11_note_9 cl_9 fl_RX11_182 rfl (fun v2 => ?_)
    refine xo_iconst kc_0 dX11_note_12 ?_
    refine xo_puti dX11_note_13 cl_1 fl_RX11_186 rfl ft_1_3 (fun t3 => ?_)
    refine xo_iconst kc_0 dX11_note_16 ?_
    exact xo_iret dX11_note_17 rfl
  · refine xo_iload_n rfl rfl dX11_note_18 ?_
    refine xo_iconst kc_0 dX11_note_19 ?_
    refine xo_bipush kb_60 dX11_note_20 ?_
    refine mk_O.callS (N := M_X11_within) (As := [.int x1, .int (0 : Int32), .int (60 : Int32)]) (S := []) md_X11_within ms_X11_within lk_RX11_61 rfl (Nat.le_of_ble_eq_true rfl) (by decide) dX11_note_22 rfl (fun z hz => c_X11_within x1 (0 : Int32) (60 : Int32) t z hz) (fun z4 _ => ?_)
    show mk_O _ _ _ _ (.int z4.1 :: []) _ _
    refine xo_if_eq (tgt := 47) dX11_note_25 rfl (fun _ => ?_) (fun _ => ?_)
    · refine xo_bipush kb_m2 dX11_note_47 ?_
      exact xo_iret dX11_note_49 rfl
    · refine xo_aload_n rfl rfl dX11_note_28 ?_
      refine xo_iload_n rfl rfl dX11_note_29 ?_
      refine mk_O.callV (N := M_X11_isCell) (ci := 10) (q := (RX11, TX11, 7)) (b := x0) (As1 := [.int x2]) (S := []) md_X11_isCell mv_X11_isCell lk_RX11_150 rfl (Nat.le_of_ble_eq_true rfl) (by decide) dX11_note_30 rfl rfl rfl (fun z hz => (c_X11_isCell x0 x2 z4.2 z hz).1) (fun z hz => (c_X11_isCell x0 x2 z4.2 z hz).2) (fun z5 _ => ?_)
      show mk_O _ _ _ _ (.int z5.1 :: []) _ _
      refine xo_if_eq (tgt := 47) dX11_note_33 rfl (fun _ => ?_) (fun _ => ?_)
      · refine xo_bipush kb_m2 dX11_note_47 ?_
        exact xo_iret dX11_note_49 rfl
      · refine xo_iload_n rfl rfl dX11_note_36 ?_
        refine xo_iconst kc_0 dX11_note_37 ?_
        refine xo_sipush ks_999 dX11_note_38 ?_
        refine mk_O.callS (N := M_X11_within) (As := [.int x3, .int (0 : Int32), .int (999 : Int32)]) (S := []) md_X11_within ms_X11_within lk_RX11_61 rfl (Nat.le_of_ble_eq_true rfl) (by decide) dX11_note_41 rfl (fun z hz => c_X11_within x3 (0 : Int32) (999 : Int32) z5.2 z hz) (fun z6 _ => ?_)
        show mk_O _ _ _ _ (.int z6.1 :: []) _ _
        refine xo_if_ne (tgt := 50) dX11_note_44 rfl (fun _ => ?_) (fun _ => ?_)
        · refine xo_bipush kb_m2 dX11_note_47 ?_
          exact xo_iret dX11_note_49 rfl
        · refine xo_aload_n rfl rfl dX11_note_50 ?_
          refine xo_geta dX11_note_51 cl_10 fl_RX11_41 rfl (fun v7 => ?_)
          refine xo_geta dX11_note_54 cl_9 fl_RX11_182 rfl (fun v8 => ?_)
          refine xo_iload_n rfl rfl dX11_note_57 ?_
          refine xo_iload_n rfl rfl dX11_note_58 ?_
          refine xo_iload_n rfl rfl dX11_note_59 ?_
          refine mk_O.callV (N := M_X1_add) (ci := 1) (q := (RX1, TX1, 4)) (b := v8) (As1 := [.int x1, .int x2, .int x3]) (S := []) md_X1_add mv_X1_add lk_RX11_279 rfl (Nat.le_of_ble_eq_true rfl) (by decide) dX11_note_60 rfl rfl rfl (fun z hz => (c_X1_add v8 x1 x2 x3 z6.2 z hz).1) (fun z hz => (c_X1_add v8 x1 x2 x3 z6.2 z hz).2) (fun z9 _ => ?_)
          show mk_O _ _ _ _ (.int z9.1 :: []) _ _
          refine xo_if_eq (tgt := 79) dX11_note_63 rfl (fun _ => ?_) (fun _ => ?_)
          · refine xo_bipush kb_m2 dX11_note_79 ?_
            exact xo_iret dX11_note_81 rfl
          · refine xo_aload_n rfl rfl dX11_note_66 ?_
            refine xo_geta dX11_note_67 cl_10 fl_RX11_41 rfl (fun v10 => ?_)
            refine xo_geta dX11_note_70 cl_9 fl_RX11_182 rfl (fun v11 => ?_)
            refine xo_geti dX11_note_73 cl_1 fl_RX11_186 rfl (fun v12 => ?_)
            refine xo_goto (tgt := 81) dX11_note_76 rfl ?_
            exact xo_iret dX11_note_81 rfl
theorem c_X11_note (x0 : Nat) (x1 : Int32) (x2 : Int32) (x3 : Int32) (t : mk_S) (z : Int32 × mk_S) (h : F_X11_note x0 x1 x2 x3 t = some z) : mk_is t x0 10 ∧ mk_Ct M_X11_note [.ref x0, .int x1, .int x2, .int x3] t (mk_wi z.1, z.2) :=
  ⟨(mk_gd_spec h).1, mk_ct (w := mk_wi) (by decide +kernel) (Nat.le_of_ble_eq_true rfl) (p_X11_note x0 x1 x2 x3 t) z (mk_gd_spec h).2⟩
def B_X11_ruled_44 : Nat → Int32 → Int32 → mk_S → Option (Int32 × mk_S)
  | 0, _, _, _ => none
  | n + 1, x2, x3, t => if (6 : Int32) ≤ x3 then (some ((-2 : Int32), t)) else (if ((x2 >>> ((x3 + (1 : Int32)) &&& 31)) &&& (1 : Int32)) = 0 then (B_X11_ruled_44 n x2 (x3 + (1 : Int32)) t) else (some (x3, t)))
def F_X11_ruled (x0 : Nat) (x1 : Int32) (t : mk_S) : Option (Int32 × mk_S) := mk_gd t x0 10 ((mk_ga t x0 10 4).bind fun v1 => (mk_ga t v1 9 0).bind fun v2 => (F_X3_isThere v2 t).bind fun z3 => if z3.1 = 0 then (some ((-3 : Int32), z3.2)) else ((F_X11_within x1 (0 : Int32) (1 : Int32) z3.2).bind fun z4 => if z4.1 = 0 then (some ((-3 : Int32), z4.2)) else ((mk_ga z4.2 x0 10 3).bind fun v5 => (F_X2_fitting v5 z4.2).bind fun z6 => if x1 = 0 then ((F_J6_bitCount_0f7a4 z6.1 z6.2).bind fun z7 => some (z7.1, z7.2)) else (B_X11_ruled_44 mk_fu z6.1 (-1 : Int32) z6.2))))
theorem o_X11_ruled_44 : ∀ (n : Nat) (x2 : Int32) (x3 : Int32) (t : mk_S), mk_O mk_wi M_X11_ruled 44 [none, none, some (.int x2), some (.int x3)] [] t (B_X11_ruled_44 n x2 x3 t) := by
  intro n
  induction n with
  | zero =>
    intro x2 x3 t
    exact mk_O.none
  | succ n ih =>
    intro x2 x3 t
    rw [B_X11_ruled_44]
    refine xo_iload_n rfl rfl dX11_ruled_44 ?_
    refine xo_bipush kb_6 dX11_ruled_45 ?_
    refine xo_icmp_ge (tgt := 68) dX11_ruled_47 rfl (fun _ => ?_) (fun _ => ?_)
    · refine xo_bipush kb_m2 dX11_ruled_68 ?_
      exact xo_iret dX11_ruled_70 rfl
    · refine xo_iload_n rfl rfl dX11_ruled_50 ?_
      refine xo_iload_n rfl rfl dX11_ruled_51 ?_
      refine xo_iconst kc_1 dX11_ruled_52 ?_
      refine xo_iadd dX11_ruled_53 ?_
      refine xo_ishr dX11_ruled_54 ?_
      refine xo_iconst kc_1 dX11_ruled_55 ?_
      refine xo_iand dX11_ruled_56 ?_
      refine xo_if_eq (tgt := 62) dX11_ruled_57 rfl (fun _ => ?_) (fun _ => ?_)
      · refine xo_iinc rfl (congrArg _ kc_1) (by decide) (mk_p1_v rfl rfl) dX11_ruled_62 ?_
        refine xo_goto (tgt := 44) dX11_ruled_65 rfl ?_
        exact mk_O.wk (ih x2 (x3 + (1 : Int32)) t) ⟨rfl, ⟨rfl, trivial⟩⟩
      · refine xo_iload_n rfl rfl dX11_ruled_60 ?_
        exact xo_iret dX11_ruled_61 rfl
theorem p_X11_ruled (x0 : Nat) (x1 : Int32) (t : mk_S) : mk_O mk_wi M_X11_ruled 0 [some (.ref x0), some (.int x1), none, none] [] t ((mk_ga t x0 10 4).bind fun v1 => (mk_ga t v1 9 0).bind fun v2 => (F_X3_isThere v2 t).bind fun z3 => if z3.1 = 0 then (some ((-3 : Int32), z3.2)) else ((F_X11_within x1 (0 : Int32) (1 : Int32) z3.2).bind fun z4 => if z4.1 = 0 then (some ((-3 : Int32), z4.2)) else ((mk_ga z4.2 x0 10 3).bind fun v5 => (F_X2_fitting v5 z4.2).bind fun z6 => if x1 = 0 then ((F_J6_bitCount_0f7a4 z6.1 z6.2).bind fun z7 => some (z7.1, z7.2)) else (B_X11_ruled_44 mk_fu z6.1 (-1 : Int32) z6.2)))) := by
  refine xo_aload_n rfl rfl dX11_ruled_0 ?_
  refine xo_geta dX11_ruled_1 cl_10 fl_RX11_41 rfl (fun v1 => ?_)
  refine xo_geta dX11_ruled_4 cl_9 fl_RX11_78 rfl (fun v2 => ?_)
  refine mk_O.callV (N := M_X3_isThere) (ci := 3) (q := (RX3, TX3, 12)) (b := v2) (As1 := []) (S := []) md_X3_isThere mv_X3_isThere lk_RX11_201 rfl (Nat.le_of_ble_eq_true rfl) (by decide) dX11_ruled_7 rfl rfl rfl (fun z hz => (c_X3_isThere v2 t z hz).1) (fun z hz => (c_X3_isThere v2 t z hz).2) (fun z3 _ => ?_)
  show mk_O _ _ _ _ (.int z3.1 :: []) _ _
  refine xo_if_eq (tgt := 22) dX11_ruled_10 rfl (fun _ => ?_) (fun _ => ?_)
  · refine xo_bipush kb_m3 dX11_ruled_22 ?_
    exact xo_iret dX11_ruled_24 rfl
  · refine xo_iload_n rfl rfl dX11_ruled_13 ?_
    refine xo_iconst kc_0 dX11_ruled_14 ?_
    refine xo_iconst kc_1 dX11_ruled_15 ?_
    refine mk_O.callS (N := M_X11_within) (As := [.int x1, .int (0 : Int32), .int (1 : Int32)]) (S := []) md_X11_within ms_X11_within lk_RX11_61 rfl (Nat.le_of_ble_eq_true rfl) (by decide) dX11_ruled_16 rfl (fun z hz => c_X11_within x1 (0 : Int32) (1 : Int32) z3.2 z hz) (fun z4 _ => ?_)
    show mk_O _ _ _ _ (.int z4.1 :: []) _ _
    refine xo_if_ne (tgt := 25) dX11_ruled_19 rfl (fun _ => ?_) (fun _ => ?_)
    · refine xo_bipush kb_m3 dX11_ruled_22 ?_
      exact xo_iret dX11_ruled_24 rfl
    · refine xo_aload_n rfl rfl dX11_ruled_25 ?_
      refine xo_geta dX11_ruled_26 cl_10 fl_RX11_33 rfl (fun v5 => ?_)
      refine mk_O.callV (N := M_X2_fitting) (ci := 2) (q := (RX2, TX2, 14)) (b := v5) (As1 := []) (S := []) md_X2_fitting mv_X2_fitting lk_RX11_281 rfl (Nat.le_of_ble_eq_true rfl) (by decide) dX11_ruled_29 rfl rfl rfl (fun z hz => (c_X2_fitting v5 z4.2 z hz).1) (fun z hz => (c_X2_fitting v5 z4.2 z hz).2) (fun z6 _ => ?_)
      show mk_O _ _ _ _ (.int z6.1 :: []) _ _
      refine xo_istore_n rfl (by decide) (mk_p1_v rfl rfl) dX11_ruled_32 ?_
      refine xo_iload_n rfl rfl dX11_ruled_33 ?_
      refine xo_if_ne (tgt := 42) dX11_ruled_34 rfl (fun _ => ?_) (fun _ => ?_)
      · refine xo_iload_n rfl rfl dX11_ruled_37 ?_
        refine mk_O.callS (N := M_J6_bitCount_0f7a4) (As := [.int z6.1]) (S := []) md_J6_bitCount_0f7a4 ms_J6_bitCount_0f7a4 lk_RX11_227 rfl (Nat.le_of_ble_eq_true rfl) (by decide) dX11_ruled_38 rfl (fun z hz => c_J6_bitCount_0f7a4 z6.1 z6.2 z hz) (fun z7 _ => ?_)
        show mk_O _ _ _ _ (.int z7.1 :: []) _ _
        exact xo_iret dX11_ruled_41 rfl
      · refine xo_iconst kc_m1 dX11_ruled_42 ?_
        refine xo_istore_n rfl (by decide) (mk_p1_v rfl rfl) dX11_ruled_43 ?_
        exact mk_O.wk (o_X11_ruled_44 mk_fu z6.1 (-1 : Int32) z6.2) ⟨rfl, ⟨rfl, trivial⟩⟩
theorem c_X11_ruled (x0 : Nat) (x1 : Int32) (t : mk_S) (z : Int32 × mk_S) (h : F_X11_ruled x0 x1 t = some z) : mk_is t x0 10 ∧ mk_Ct M_X11_ruled [.ref x0, .int x1] t (mk_wi z.1, z.2) :=
  ⟨(mk_gd_spec h).1, mk_ct (w := mk_wi) (by decide +kernel) (Nat.le_of_ble_eq_true rfl) (p_X11_ruled x0 x1 t) z (mk_gd_spec h).2⟩
def F_X11_look (x0 : Nat) (x1 : Int32) (x2 : Int32) (t : mk_S) : Option (Int32 × mk_S) := mk_gd t x0 10 ((mk_ga t x0 10 4).bind fun v1 => (mk_ga t v1 9 0).bind fun v2 => (F_X3_isThere v2 t).bind fun z3 => if z3.1 = 0 then (some ((-1 : Int32), z3.2)) else ((F_X11_within x1 (0 : Int32) (60 : Int32) z3.2).bind fun z4 => if z4.1 = 0 then (some ((-1 : Int32), z4.2)) else ((F_X11_within x2 (0 : Int32) (1 : Int32) z4.2).bind fun z5 => if z5.1 = 0 then (some ((-1 : Int32), z5.2)) else ((mk_ga z5.2 x0 10 3).bind fun v6 => (F_X2_fitting v6 z5.2).bind fun z7 => if z7.1 = 0 then (some ((-2 : Int32), z7.2)) else ((mk_ga z7.2 x0 10 3).bind fun v8 => (F_X2_bestLook v8 z7.1 x1 x2 z7.2).bind fun z9 => some (z9.1, z9.2))))))
theorem p_X11_look (x0 : Nat) (x1 : Int32) (x2 : Int32) (t : mk_S) : mk_O mk_wi M_X11_look 0 [some (.ref x0), some (.int x1), some (.int x2), none] [] t ((mk_ga t x0 10 4).bind fun v1 => (mk_ga t v1 9 0).bind fun v2 => (F_X3_isThere v2 t).bind fun z3 => if z3.1 = 0 then (some ((-1 : Int32), z3.2)) else ((F_X11_within x1 (0 : Int32) (60 : Int32) z3.2).bind fun z4 => if z4.1 = 0 then (some ((-1 : Int32), z4.2)) else ((F_X11_within x2 (0 : Int32) (1 : Int32) z4.2).bind fun z5 => if z5.1 = 0 then (some ((-1 : Int32), z5.2)) else ((mk_ga z5.2 x0 10 3).bind fun v6 => (F_X2_fitting v6 z5.2).bind fun z7 => if z7.1 = 0 then (some ((-2 : Int32), z7.2)) else ((mk_ga z7.2 x0 10 3).bind fun v8 => (F_X2_bestLook v8 z7.1 x1 x2 z7.2).bind fun z9 => some (z9.1, z9.2)))))) := by
  refine xo_aload_n rfl rfl dX11_look_0 ?_
  refine xo_geta dX11_look_1 cl_10 fl_RX11_41 rfl (fun v1 => ?_)
  refine xo_geta dX11_look_4 cl_9 fl_RX11_78 rfl (fun v2 => ?_)
  refine mk_O.callV (N := M_X3_isThere) (ci := 3) (q := (RX3, TX3, 12)) (b := v2) (As1 := []) (S := []) md_X3_isThere mv_X3_isThere lk_RX11_201 rfl (Nat.le_of_ble_eq_true rfl) (by decide) dX11_look_7 rfl rfl rfl (fun z hz => (c_X3_isThere v2 t z hz).1) (fun z hz => (c_X3_isThere v2 t z hz).2) (fun z3 _ => ?_)
  show mk_O _ _ _ _ (.int z3.1 :: []) _ _
  refine xo_if_eq (tgt := 32) dX11_look_10 rfl (fun _ => ?_) (fun _ => ?_)
  · refine xo_iconst kc_m1 dX11_look_32 ?_
    exact xo_iret dX11_look_33 rfl
  · refine xo_iload_n rfl rfl dX11_look_13 ?_
    refine xo_iconst kc_0 dX11_look_14 ?_
    refine xo_bipush kb_60 dX11_look_15 ?_
    refine mk_O.callS (N := M_X11_within) (As := [.int x1, .int (0 : Int32), .int (60 : Int32)]) (S := []) md_X11_within ms_X11_within lk_RX11_61 rfl (Nat.le_of_ble_eq_true rfl) (by decide) dX11_look_17 rfl (fun z hz => c_X11_within x1 (0 : Int32) (60 : Int32) z3.2 z hz) (fun z4 _ => ?_)
    show mk_O _ _ _ _ (.int z4.1 :: []) _ _
    refine xo_if_eq (tgt := 32) dX11_look_20 rfl (fun _ => ?_) (fun _ => ?_)
    · refine xo_iconst kc_m1 dX11_look_32 ?_
      exact xo_iret dX11_look_33 rfl
    · refine xo_iload_n rfl rfl dX11_look_23 ?_
      refine xo_iconst kc_0 dX11_look_24 ?_
      refine xo_iconst kc_1 dX11_look_25 ?_
      refine mk_O.callS (N := M_X11_within) (As := [.int x2, .int (0 : Int32), .int (1 : Int32)]) (S := []) md_X11_within ms_X11_within lk_RX11_61 rfl (Nat.le_of_ble_eq_true rfl) (by decide) dX11_look_26 rfl (fun z hz => c_X11_within x2 (0 : Int32) (1 : Int32) z4.2 z hz) (fun z5 _ => ?_)
      show mk_O _ _ _ _ (.int z5.1 :: []) _ _
      refine xo_if_ne (tgt := 34) dX11_look_29 rfl (fun _ => ?_) (fun _ => ?_)
      · refine xo_iconst kc_m1 dX11_look_32 ?_
        exact xo_iret dX11_look_33 rfl
      · refine xo_aload_n rfl rfl dX11_look_34 ?_
        refine xo_geta dX11_look_35 cl_10 fl_RX11_33 rfl (fun v6 => ?_)
        refine mk_O.callV (N := M_X2_fitting) (ci := 2) (q := (RX2, TX2, 14)) (b := v6) (As1 := []) (S := []) md_X2_fitting mv_X2_fitting lk_RX11_281 rfl (Nat.le_of_ble_eq_true rfl) (by decide) dX11_look_38 rfl rfl rfl (fun z hz => (c_X2_fitting v6 z5.2 z hz).1) (fun z hz => (c_X2_fitting v6 z5.2 z hz).2) (fun z7 _ => ?_)
        show mk_O _ _ _ _ (.int z7.1 :: []) _ _
        refine xo_istore_n rfl (by decide) (mk_p1_v rfl rfl) dX11_look_41 ?_
        refine xo_iload_n rfl rfl dX11_look_42 ?_
        refine xo_if_ne (tgt := 51) dX11_look_43 rfl (fun _ => ?_) (fun _ => ?_)
        · refine xo_bipush kb_m2 dX11_look_46 ?_
          refine xo_goto (tgt := 61) dX11_look_48 rfl ?_
          exact xo_iret dX11_look_61 rfl
        · refine xo_aload_n rfl rfl dX11_look_51 ?_
          refine xo_geta dX11_look_52 cl_10 fl_RX11_33 rfl (fun v8 => ?_)
          refine xo_iload_n rfl rfl dX11_look_55 ?_
          refine xo_iload_n rfl rfl dX11_look_56 ?_
          refine xo_iload_n rfl rfl dX11_look_57 ?_
          refine mk_O.callV (N := M_X2_bestLook) (ci := 2) (q := (RX2, TX2, 14)) (b := v8) (As1 := [.int z7.1, .int x1, .int x2]) (S := []) md_X2_bestLook mv_X2_bestLook lk_RX11_284 rfl (Nat.le_of_ble_eq_true rfl) (by decide) dX11_look_58 rfl rfl rfl (fun z hz => (c_X2_bestLook v8 z7.1 x1 x2 z7.2 z hz).1) (fun z hz => (c_X2_bestLook v8 z7.1 x1 x2 z7.2 z hz).2) (fun z9 _ => ?_)
          show mk_O _ _ _ _ (.int z9.1 :: []) _ _
          exact xo_iret dX11_look_61 rfl
theorem c_X11_look (x0 : Nat) (x1 : Int32) (x2 : Int32) (t : mk_S) (z : Int32 × mk_S) (h : F_X11_look x0 x1 x2 t = some z) : mk_is t x0 10 ∧ mk_Ct M_X11_look [.ref x0, .int x1, .int x2] t (mk_wi z.1, z.2) :=
  ⟨(mk_gd_spec h).1, mk_ct (w := mk_wi) (by decide +kernel) (Nat.le_of_ble_eq_true rfl) (p_X11_look x0 x1 x2 t) z (mk_gd_spec h).2⟩
