def F_X7_init (x0 : Nat) (t : mk_S) : Option (Unit × mk_S) := mk_gd t x0 6 ((mk_na 100 t (6 : Int32)).bind fun z1 => (mk_pa z1.2 x0 6 0 z1.1).bind fun t2 => if z1.1 < z1.2.1.length then (mk_na 100 t2 (6 : Int32)).bind fun z3 => (mk_pa z3.2 x0 6 1 z3.1).bind fun t4 => if z3.1 < z3.2.1.length then (mk_na 100 t4 (6 : Int32)).bind fun z5 => (mk_pa z5.2 x0 6 2 z5.1).bind fun t6 => if z5.1 < z5.2.1.length then (mk_na 100 t6 (6 : Int32)).bind fun z7 => (mk_pa z7.2 x0 6 3 z7.1).bind fun t8 => if z7.1 < z7.2.1.length then (mk_na 100 t8 (6 : Int32)).bind fun z9 => (mk_pa z9.2 x0 6 4 z9.1).bind fun t10 => if z9.1 < z9.2.1.length then (mk_na 100 t10 (4 : Int32)).bind fun z11 => (mk_pa z11.2 x0 6 5 z11.1).bind fun t12 => if z11.1 < z11.2.1.length then (mk_na 100 t12 (36 : Int32)).bind fun z13 => (mk_pa z13.2 x0 6 6 z13.1).bind fun t14 => if z13.1 < z13.2.1.length then (mk_pi t14 x0 6 7 (0 : Int32)).bind fun t15 => (mk_pi t15 x0 6 8 (0 : Int32)).bind fun t16 => some ((), t16) else none else none else none else none else none else none else none)
theorem p_X7_init (x0 : Nat) (t : mk_S) : mk_O mk_wu M_X7_init 0 [some (.ref x0)] [] t ((mk_na 100 t (6 : Int32)).bind fun z1 => (mk_pa z1.2 x0 6 0 z1.1).bind fun t2 => if z1.1 < z1.2.1.length then (mk_na 100 t2 (6 : Int32)).bind fun z3 => (mk_pa z3.2 x0 6 1 z3.1).bind fun t4 => if z3.1 < z3.2.1.length then (mk_na 100 t4 (6 : Int32)).bind fun z5 => (mk_pa z5.2 x0 6 2 z5.1).bind fun t6 => if z5.1 < z5.2.1.length then (mk_na 100 t6 (6 : Int32)).bind fun z7 => (mk_pa z7.2 x0 6 3 z7.1).bind fun t8 => if z7.1 < z7.2.1.length then (mk_na 100 t8 (6 : Int32)).bind fun z9 => (mk_pa z9.2 x0 6 4 z9.1).bind fun t10 => if z9.1 < z9.2.1.length then (mk_na 100 t10 (4 : Int32)).bind fun z11 => (mk_pa z11.2 x0 6 5 z11.1).bind fun t12 => if z11.1 < z11.2.1.length then (mk_na 100 t12 (36 : Int32)).bind fun z13 => (mk_pa z13.2 x0 6 6 z13.1).bind fun t14 => if z13.1 < z13.2.1.length then (mk_pi t14 x0 6 7 (0 : Int32)).bind fun t15 => (mk_pi t15 x0 6 8 (0 : Int32)).bind fun t16 => some ((), t16) else none else none else none else none else none else none else none) := by
  refine xo_aload_n rfl rfl dX7_init_0 ?_
  refine xo_obj lo_RX7_3 (by decide) (Nat.le_of_ble_eq_true rfl) dX7_init_1 ?_
  refine xo_aload_n rfl rfl dX7_init_4 ?_
  refine xo_bipush kb_6 dX7_init_5 ?_
  refine xo_newai (mk_w1 (i := 65) rfl rfl) dX7_init_7 (fun z1 _ => ?_)
  refine xo_puta dX7_init_9 cl_6 ⟨RX7, TX7, 9, rfl, by decide, (mk_w1 (i := 195) rfl rfl)⟩ rfl ft_6_0 (fun _ => rfl) (fun _ => rfl) rfl rfl (fun t2 => ?_)
  refine xo_aload_n rfl rfl dX7_init_12 ?_
  refine xo_bipush kb_6 dX7_init_13 ?_
  refine xo_newai (mk_w1 (i := 65) rfl rfl) dX7_init_15 (fun z3 _ => ?_)
  refine xo_puta dX7_init_17 cl_6 ⟨RX7, TX7, 9, rfl, by decide, (mk_w1 (i := 199) rfl rfl)⟩ rfl ft_6_1 (fun _ => rfl) (fun _ => rfl) rfl rfl (fun t4 => ?_)
  refine xo_aload_n rfl rfl dX7_init_20 ?_
  refine xo_bipush kb_6 dX7_init_21 ?_
  refine xo_newai (mk_w1 (i := 65) rfl rfl) dX7_init_23 (fun z5 _ => ?_)
  refine xo_puta dX7_init_25 cl_6 ⟨RX7, TX7, 9, rfl, by decide, (mk_w1 (i := 203) rfl rfl)⟩ rfl ft_6_2 (fun _ => rfl) (fun _ => rfl) rfl rfl (fun t6 => ?_)
  refine xo_aload_n rfl rfl dX7_init_28 ?_
  refine xo_bipush kb_6 dX7_init_29 ?_
  refine xo_newai (mk_w1 (i := 65) rfl rfl) dX7_init_31 (fun z7 _ => ?_)
  refine xo_puta dX7_init_33 cl_6 ⟨RX7, TX7, 9, rfl, by decide, (mk_w1 (i := 207) rfl rfl)⟩ rfl ft_6_3 (fun _ => rfl) (fun _ => rfl) rfl rfl (fun t8 => ?_)
  refine xo_aload_n rfl rfl dX7_init_36 ?_
  refine xo_bipush kb_6 dX7_init_37 ?_
  refine xo_newai (mk_w1 (i := 65) rfl rfl) dX7_init_39 (fun z9 _ => ?_)
  refine xo_puta dX7_init_41 cl_6 ⟨RX7, TX7, 9, rfl, by decide, (mk_w1 (i := 211) rfl rfl)⟩ rfl ft_6_4 (fun _ => rfl) (fun _ => rfl) rfl rfl (fun t10 => ?_)
  refine xo_aload_n rfl rfl dX7_init_44 ?_
  refine xo_iconst kc_4 dX7_init_45 ?_
  refine xo_newai (mk_w1 (i := 65) rfl rfl) dX7_init_46 (fun z11 _ => ?_)
  refine xo_puta dX7_init_48 cl_6 ⟨RX7, TX7, 9, rfl, by decide, (mk_w1 (i := 214) rfl rfl)⟩ rfl ft_6_5 (fun _ => rfl) (fun _ => rfl) rfl rfl (fun t12 => ?_)
  refine xo_aload_n rfl rfl dX7_init_51 ?_
  refine xo_bipush kb_36 dX7_init_52 ?_
  refine xo_newai (mk_w1 (i := 65) rfl rfl) dX7_init_54 (fun z13 _ => ?_)
  refine xo_puta dX7_init_56 cl_6 ⟨RX7, TX7, 9, rfl, by decide, (mk_w1 (i := 218) rfl rfl)⟩ rfl ft_6_6 (fun _ => rfl) (fun _ => rfl) rfl rfl (fun t14 => ?_)
  refine xo_aload_n rfl rfl dX7_init_59 ?_
  refine xo_iconst kc_0 dX7_init_60 ?_
  refine xo_puti dX7_init_61 cl_6 fl_RX7_33 rfl ft_6_7 (fun t15 => ?_)
  refine xo_aload_n rfl rfl dX7_init_64 ?_
  refine xo_iconst kc_0 dX7_init_65 ?_
  refine xo_puti dX7_init_66 cl_6 fl_RX7_37 rfl ft_6_8 (fun t16 => ?_)
  exact xo_vret dX7_init_69 rfl
theorem c_X7_init (x0 : Nat) (t : mk_S) (z : Unit × mk_S) (h : F_X7_init x0 t = some z) : mk_is t x0 6 ∧ mk_Ct M_X7_init [.ref x0] t (mk_wu z.1, z.2) :=
  ⟨(mk_gd_spec h).1, mk_ct (w := mk_wu) (by decide +kernel) (Nat.le_of_ble_eq_true rfl) (p_X7_init x0 t) z (mk_gd_spec h).2⟩
def B_X0_init_25 : Nat → Nat → Int32 → mk_S → Option (Unit × mk_S)
  | 0, _, _, _ => none
  | n + 1, x0, x1, t => if (20 : Int32) ≤ x1 then (some ((), t)) else ((mk_ga t x0 0 0).bind fun v1 => (mk_new t 6 9).bind fun z2 => (F_X7_init z2.1 z2.2).bind fun z3 => (mk_sta (100 + 4) 6 z3.2 v1 x1 z2.1).bind fun t4 => B_X0_init_25 n x0 (x1 + (1 : Int32)) t4)
def F_X0_init (x0 : Nat) (t : mk_S) : Option (Unit × mk_S) := mk_gd t x0 0 ((mk_na (100 + 4) t (20 : Int32)).bind fun z1 => (mk_pa z1.2 x0 0 0 z1.1).bind fun t2 => if z1.1 < z1.2.1.length then (mk_pi t2 x0 0 1 (0 : Int32)).bind fun t3 => (mk_pi t3 x0 0 2 (0 : Int32)).bind fun t4 => B_X0_init_25 mk_fu x0 (0 : Int32) t4 else none)
theorem o_X0_init_25 : ∀ (n : Nat) (x0 : Nat) (x1 : Int32) (t : mk_S), mk_O mk_wu M_X0_init 25 [some (.ref x0), some (.int x1)] [] t (B_X0_init_25 n x0 x1 t) := by
  intro n
  induction n with
  | zero =>
    intro x0 x1 t
    exact mk_O.none
  | succ n ih =>
    intro x0 x1 t
    rw [B_X0_init_25]
    refine xo_iload_n rfl rfl dX0_init_25 ?_
    refine xo_bipush kb_20 dX0_init_26 ?_
    refine xo_icmp_ge (tgt := 50) dX0_init_28 rfl (fun _ => ?_) (fun _ => ?_)
    · exact xo_vret dX0_init_50 rfl
    · refine xo_aload_n rfl rfl dX0_init_31 ?_
      refine xo_geta dX0_init_32 cl_0 fl_RX0_11 rfl (fun v1 => ?_)
      refine xo_iload_n rfl rfl dX0_init_35 ?_
      refine xo_new dX0_init_36 cl_6 ln_RX0_9 (fun z2 _ => ?_)
      refine xo_dup rfl dX0_init_39 ?_
      refine mk_O.callI (N := M_X7_init) (b := z2.1) (As1 := []) (S := [.ref z2.1, .int x1, .ref v1]) md_X7_init rfl rfl mi_X7_init lk_RX0_24 rfl (Nat.le_of_ble_eq_true rfl) (by decide) dX0_init_40 rfl (fun z hz => (c_X7_init z2.1 z2.2 z hz).2) (fun z3 _ => ?_)
      show mk_O _ _ _ _ [.ref z2.1, .int x1, .ref v1] _ _
      refine xo_aast (j := 4) (ci := 6) (by decide) (by decide) (rfl : vwCl[6]? = some (RX7, TX7, 9)) rfl dX0_init_43 (fun t4 => ?_)
      refine xo_iinc rfl (congrArg _ kc_1) (by decide) (mk_p1_v rfl rfl) dX0_init_44 ?_
      refine xo_goto (tgt := 25) dX0_init_47 rfl ?_
      exact mk_O.wk (ih x0 (x1 + (1 : Int32)) t4) ⟨rfl, ⟨rfl, trivial⟩⟩
theorem p_X0_init (x0 : Nat) (t : mk_S) : mk_O mk_wu M_X0_init 0 [some (.ref x0), none] [] t ((mk_na (100 + 4) t (20 : Int32)).bind fun z1 => (mk_pa z1.2 x0 0 0 z1.1).bind fun t2 => if z1.1 < z1.2.1.length then (mk_pi t2 x0 0 1 (0 : Int32)).bind fun t3 => (mk_pi t3 x0 0 2 (0 : Int32)).bind fun t4 => B_X0_init_25 mk_fu x0 (0 : Int32) t4 else none) := by
  refine xo_aload_n rfl rfl dX0_init_0 ?_
  refine xo_obj lo_RX0_3 (by decide) (Nat.le_of_ble_eq_true rfl) dX0_init_1 ?_
  refine xo_aload_n rfl rfl dX0_init_4 ?_
  refine xo_bipush kb_20 dX0_init_5 ?_
  refine xo_anew (j := 4) (by decide) (by decide) rfl (mk_w2 (i := 14) rfl rfl) (fun _ h => h.1) dX0_init_7 (fun z1 _ => ?_)
  refine xo_puta dX0_init_10 cl_0 ⟨RX0, TX0, 3, rfl, by decide, (mk_w2 (i := 17) rfl rfl)⟩ rfl ft_0_0 (fun _ => rfl) (fun _ => rfl) rfl rfl (fun t2 => ?_)
  refine xo_aload_n rfl rfl dX0_init_13 ?_
  refine xo_iconst kc_0 dX0_init_14 ?_
  refine xo_puti dX0_init_15 cl_0 fl_RX0_17 rfl ft_0_1 (fun t3 => ?_)
  refine xo_aload_n rfl rfl dX0_init_18 ?_
  refine xo_iconst kc_0 dX0_init_19 ?_
  refine xo_puti dX0_init_20 cl_0 fl_RX0_21 rfl ft_0_2 (fun t4 => ?_)
  refine xo_iconst kc_0 dX0_init_23 ?_
  refine xo_istore_n rfl (by decide) (mk_p1_v rfl rfl) dX0_init_24 ?_
  exact mk_O.wk (o_X0_init_25 mk_fu x0 (0 : Int32) t4) ⟨rfl, ⟨rfl, trivial⟩⟩
theorem c_X0_init (x0 : Nat) (t : mk_S) (z : Unit × mk_S) (h : F_X0_init x0 t = some z) : mk_is t x0 0 ∧ mk_Ct M_X0_init [.ref x0] t (mk_wu z.1, z.2) :=
  ⟨(mk_gd_spec h).1, mk_ct (w := mk_wu) (by decide +kernel) (Nat.le_of_ble_eq_true rfl) (p_X0_init x0 t) z (mk_gd_spec h).2⟩
def F_X0_clear (x0 : Nat) (t : mk_S) : Option (Unit × mk_S) := mk_gd t x0 0 ((mk_pi t x0 0 1 (0 : Int32)).bind fun t1 => (mk_pi t1 x0 0 2 (0 : Int32)).bind fun t2 => some ((), t2))
theorem p_X0_clear (x0 : Nat) (t : mk_S) : mk_O mk_wu M_X0_clear 0 [some (.ref x0)] [] t ((mk_pi t x0 0 1 (0 : Int32)).bind fun t1 => (mk_pi t1 x0 0 2 (0 : Int32)).bind fun t2 => some ((), t2)) := by
  refine xo_aload_n rfl rfl dX0_clear_0 ?_
  refine xo_iconst kc_0 dX0_clear_1 ?_
  refine xo_puti dX0_clear_2 cl_0 fl_RX0_17 rfl ft_0_1 (fun t1 => ?_)
  refine xo_aload_n rfl rfl dX0_clear_5 ?_
  refine xo_iconst kc_0 dX0_clear_6 ?_
  refine xo_puti dX0_clear_7 cl_0 fl_RX0_21 rfl ft_0_2 (fun t2 => ?_)
  exact xo_vret dX0_clear_10 rfl
theorem c_X0_clear (x0 : Nat) (t : mk_S) (z : Unit × mk_S) (h : F_X0_clear x0 t = some z) : mk_is t x0 0 ∧ mk_Ct M_X0_clear [.ref x0] t (mk_wu z.1, z.2) :=
  ⟨(mk_gd_spec h).1, mk_ct (w := mk_wu) (by decide +kernel) (Nat.le_of_ble_eq_true rfl) (p_X0_clear x0 t) z (mk_gd_spec h).2⟩
def F_X7_copyFrom (x0 : Nat) (x1 : Nat) (t : mk_S) : Option (Unit × mk_S) := mk_gd t x0 6 ((mk_ga t x1 6 0).bind fun v1 => (mk_ga t x0 6 0).bind fun v2 => (mk_cp t v1 (0 : Int32) v2 (0 : Int32) (6 : Int32)).bind fun t3 => (mk_ga t3 x1 6 1).bind fun v4 => (mk_ga t3 x0 6 1).bind fun v5 => (mk_cp t3 v4 (0 : Int32) v5 (0 : Int32) (6 : Int32)).bind fun t6 => (mk_ga t6 x1 6 2).bind fun v7 => (mk_ga t6 x0 6 2).bind fun v8 => (mk_cp t6 v7 (0 : Int32) v8 (0 : Int32) (6 : Int32)).bind fun t9 => (mk_ga t9 x1 6 3).bind fun v10 => (mk_ga t9 x0 6 3).bind fun v11 => (mk_cp t9 v10 (0 : Int32) v11 (0 : Int32) (6 : Int32)).bind fun t12 => (mk_ga t12 x1 6 4).bind fun v13 => (mk_ga t12 x0 6 4).bind fun v14 => (mk_cp t12 v13 (0 : Int32) v14 (0 : Int32) (6 : Int32)).bind fun t15 => (mk_ga t15 x1 6 5).bind fun v16 => (mk_ga t15 x0 6 5).bind fun v17 => (mk_cp t15 v16 (0 : Int32) v17 (0 : Int32) (4 : Int32)).bind fun t18 => (mk_ga t18 x1 6 6).bind fun v19 => (mk_ga t18 x0 6 6).bind fun v20 => (mk_cp t18 v19 (0 : Int32) v20 (0 : Int32) (36 : Int32)).bind fun t21 => (mk_gi t21 x1 6 7).bind fun v22 => (mk_pi t21 x0 6 7 v22).bind fun t23 => (mk_gi t23 x1 6 8).bind fun v24 => (mk_pi t23 x0 6 8 v24).bind fun t25 => some ((), t25))
theorem p_X7_copyFrom (x0 : Nat) (x1 : Nat) (t : mk_S) : mk_O mk_wu M_X7_copyFrom 0 [some (.ref x0), some (.ref x1)] [] t ((mk_ga t x1 6 0).bind fun v1 => (mk_ga t x0 6 0).bind fun v2 => (mk_cp t v1 (0 : Int32) v2 (0 : Int32) (6 : Int32)).bind fun t3 => (mk_ga t3 x1 6 1).bind fun v4 => (mk_ga t3 x0 6 1).bind fun v5 => (mk_cp t3 v4 (0 : Int32) v5 (0 : Int32) (6 : Int32)).bind fun t6 => (mk_ga t6 x1 6 2).bind fun v7 => (mk_ga t6 x0 6 2).bind fun v8 => (mk_cp t6 v7 (0 : Int32) v8 (0 : Int32) (6 : Int32)).bind fun t9 => (mk_ga t9 x1 6 3).bind fun v10 => (mk_ga t9 x0 6 3).bind fun v11 => (mk_cp t9 v10 (0 : Int32) v11 (0 : Int32) (6 : Int32)).bind fun t12 => (mk_ga t12 x1 6 4).bind fun v13 => (mk_ga t12 x0 6 4).bind fun v14 => (mk_cp t12 v13 (0 : Int32) v14 (0 : Int32) (6 : Int32)).bind fun t15 => (mk_ga t15 x1 6 5).bind fun v16 => (mk_ga t15 x0 6 5).bind fun v17 => (mk_cp t15 v16 (0 : Int32) v17 (0 : Int32) (4 : Int32)).bind fun t18 => (mk_ga t18 x1 6 6).bind fun v19 => (mk_ga t18 x0 6 6).bind fun v20 => (mk_cp t18 v19 (0 : Int32) v20 (0 : Int32) (36 : Int32)).bind fun t21 => (mk_gi t21 x1 6 7).bind fun v22 => (mk_pi t21 x0 6 7 v22).bind fun t23 => (mk_gi t23 x1 6 8).bind fun v24 => (mk_pi t23 x0 6 8 v24).bind fun t25 => some ((), t25)) := by
  refine xo_aload_n rfl rfl dX7_copyFrom_0 ?_
  refine xo_geta dX7_copyFrom_1 cl_6 fl_RX7_9 rfl (fun v1 => ?_)
  refine xo_iconst kc_0 dX7_copyFrom_4 ?_
  refine xo_aload_n rfl rfl dX7_copyFrom_5 ?_
  refine xo_geta dX7_copyFrom_6 cl_6 fl_RX7_9 rfl (fun v2 => ?_)
  refine xo_iconst kc_0 dX7_copyFrom_9 ?_
  refine xo_bipush kb_6 dX7_copyFrom_10 ?_
  refine xo_cpy lcpy_RX7_43 (by decide) (Nat.le_of_ble_eq_true rfl) dX7_copyFrom_12 (fun t3 => ?_)
  refine xo_aload_n rfl rfl dX7_copyFrom_15 ?_
  refine xo_geta dX7_copyFrom_16 cl_6 fl_RX7_15 rfl (fun v4 => ?_)
  refine xo_iconst kc_0 dX7_copyFrom_19 ?_
  refine xo_aload_n rfl rfl dX7_copyFrom_20 ?_
  refine xo_geta dX7_copyFrom_21 cl_6 fl_RX7_15 rfl (fun v5 => ?_)
  refine xo_iconst kc_0 dX7_copyFrom_24 ?_
  refine xo_bipush kb_6 dX7_copyFrom_25 ?_
  refine xo_cpy lcpy_RX7_43 (by decide) (Nat.le_of_ble_eq_true rfl) dX7_copyFrom_27 (fun t6 => ?_)
  refine xo_aload_n rfl rfl dX7_copyFrom_30 ?_
  refine xo_geta dX7_copyFrom_31 cl_6 fl_RX7_18 rfl (fun v7 => ?_)
  refine xo_iconst kc_0 dX7_copyFrom_34 ?_
  refine xo_aload_n rfl rfl dX7_copyFrom_35 ?_
  refine xo_geta dX7_copyFrom_36 cl_6 fl_RX7_18 rfl (fun v8 => ?_)
  refine xo_iconst kc_0 dX7_copyFrom_39 ?_
  refine xo_bipush kb_6 dX7_copyFrom_40 ?_
  refine xo_cpy lcpy_RX7_43 (by decide) (Nat.le_of_ble_eq_true rfl) dX7_copyFrom_42 (fun t9 => ?_)
  refine xo_aload_n rfl rfl dX7_copyFrom_45 ?_
  refine xo_geta dX7_copyFrom_46 cl_6 fl_RX7_21 rfl (fun v10 => ?_)
  refine xo_iconst kc_0 dX7_copyFrom_49 ?_
  refine xo_aload_n rfl rfl dX7_copyFrom_50 ?_
  refine xo_geta dX7_copyFrom_51 cl_6 fl_RX7_21 rfl (fun v11 => ?_)
  refine xo_iconst kc_0 dX7_copyFrom_54 ?_
  refine xo_bipush kb_6 dX7_copyFrom_55 ?_
  refine xo_cpy lcpy_RX7_43 (by decide) (Nat.le_of_ble_eq_true rfl) dX7_copyFrom_57 (fun t12 => ?_)
  refine xo_aload_n rfl rfl dX7_copyFrom_60 ?_
  refine xo_geta dX7_copyFrom_61 cl_6 fl_RX7_24 rfl (fun v13 => ?_)
  refine xo_iconst kc_0 dX7_copyFrom_64 ?_
  refine xo_aload_n rfl rfl dX7_copyFrom_65 ?_
  refine xo_geta dX7_copyFrom_66 cl_6 fl_RX7_24 rfl (fun v14 => ?_)
  refine xo_iconst kc_0 dX7_copyFrom_69 ?_
  refine xo_bipush kb_6 dX7_copyFrom_70 ?_
  refine xo_cpy lcpy_RX7_43 (by decide) (Nat.le_of_ble_eq_true rfl) dX7_copyFrom_72 (fun t15 => ?_)
  refine xo_aload_n rfl rfl dX7_copyFrom_75 ?_
  refine xo_geta dX7_copyFrom_76 cl_6 fl_RX7_27 rfl (fun v16 => ?_)
  refine xo_iconst kc_0 dX7_copyFrom_79 ?_
  refine xo_aload_n rfl rfl dX7_copyFrom_80 ?_
  refine xo_geta dX7_copyFrom_81 cl_6 fl_RX7_27 rfl (fun v17 => ?_)
  refine xo_iconst kc_0 dX7_copyFrom_84 ?_
  refine xo_iconst kc_4 dX7_copyFrom_85 ?_
  refine xo_cpy lcpy_RX7_43 (by decide) (Nat.le_of_ble_eq_true rfl) dX7_copyFrom_86 (fun t18 => ?_)
  refine xo_aload_n rfl rfl dX7_copyFrom_89 ?_
  refine xo_geta dX7_copyFrom_90 cl_6 fl_RX7_30 rfl (fun v19 => ?_)
  refine xo_iconst kc_0 dX7_copyFrom_93 ?_
  refine xo_aload_n rfl rfl dX7_copyFrom_94 ?_
  refine xo_geta dX7_copyFrom_95 cl_6 fl_RX7_30 rfl (fun v20 => ?_)
  refine xo_iconst kc_0 dX7_copyFrom_98 ?_
  refine xo_bipush kb_36 dX7_copyFrom_99 ?_
  refine xo_cpy lcpy_RX7_43 (by decide) (Nat.le_of_ble_eq_true rfl) dX7_copyFrom_101 (fun t21 => ?_)
  refine xo_aload_n rfl rfl dX7_copyFrom_104 ?_
  refine xo_aload_n rfl rfl dX7_copyFrom_105 ?_
  refine xo_geti dX7_copyFrom_106 cl_6 fl_RX7_33 rfl (fun v22 => ?_)
  refine xo_puti dX7_copyFrom_109 cl_6 fl_RX7_33 rfl ft_6_7 (fun t23 => ?_)
  refine xo_aload_n rfl rfl dX7_copyFrom_112 ?_
  refine xo_aload_n rfl rfl dX7_copyFrom_113 ?_
  refine xo_geti dX7_copyFrom_114 cl_6 fl_RX7_37 rfl (fun v24 => ?_)
  refine xo_puti dX7_copyFrom_117 cl_6 fl_RX7_37 rfl ft_6_8 (fun t25 => ?_)
  exact xo_vret dX7_copyFrom_120 rfl
theorem c_X7_copyFrom (x0 : Nat) (x1 : Nat) (t : mk_S) (z : Unit × mk_S) (h : F_X7_copyFrom x0 x1 t = some z) : mk_is t x0 6 ∧ mk_Ct M_X7_copyFrom [.ref x0, .ref x1] t (mk_wu z.1, z.2) :=
  ⟨(mk_gd_spec h).1, mk_ct (w := mk_wu) (by decide +kernel) (Nat.le_of_ble_eq_true rfl) (p_X7_copyFrom x0 x1 t) z (mk_gd_spec h).2⟩
def F_X0_keep (x0 : Nat) (x1 : Nat) (t : mk_S) : Option (Unit × mk_S) := mk_gd t x0 0 ((mk_ga t x0 0 0).bind fun v1 => (mk_gi t x0 0 1).bind fun v2 => (mk_lda (100 + 4) t v1 v2).bind fun v3 => (F_X7_copyFrom v3 x1 t).bind fun z4 => (mk_gi z4.2 x0 0 1).bind fun v5 => if (20 : Int32) = 0 then none else (mk_pi z4.2 x0 0 1 ((v5 + (1 : Int32)) - (v5 + (1 : Int32)) / (20 : Int32) * (20 : Int32))).bind fun t6 => (mk_gi t6 x0 0 2).bind fun v7 => (mk_pi t6 x0 0 2 (if (v7 + (1 : Int32)) < (20 : Int32) then (v7 + (1 : Int32)) else (20 : Int32))).bind fun t8 => some ((), t8))
theorem p_X0_keep (x0 : Nat) (x1 : Nat) (t : mk_S) : mk_O mk_wu M_X0_keep 0 [some (.ref x0), some (.ref x1)] [] t ((mk_ga t x0 0 0).bind fun v1 => (mk_gi t x0 0 1).bind fun v2 => (mk_lda (100 + 4) t v1 v2).bind fun v3 => (F_X7_copyFrom v3 x1 t).bind fun z4 => (mk_gi z4.2 x0 0 1).bind fun v5 => if (20 : Int32) = 0 then none else (mk_pi z4.2 x0 0 1 ((v5 + (1 : Int32)) - (v5 + (1 : Int32)) / (20 : Int32) * (20 : Int32))).bind fun t6 => (mk_gi t6 x0 0 2).bind fun v7 => (mk_pi t6 x0 0 2 (if (v7 + (1 : Int32)) < (20 : Int32) then (v7 + (1 : Int32)) else (20 : Int32))).bind fun t8 => some ((), t8)) := by
  refine xo_aload_n rfl rfl dX0_keep_0 ?_
  refine xo_geta dX0_keep_1 cl_0 fl_RX0_11 rfl (fun v1 => ?_)
  refine xo_aload_n rfl rfl dX0_keep_4 ?_
  refine xo_geti dX0_keep_5 cl_0 fl_RX0_17 rfl (fun v2 => ?_)
  refine xo_aald (j := 4) (by decide) (by decide) dX0_keep_8 (fun v3 => ?_)
  refine xo_aload_n rfl rfl dX0_keep_9 ?_
  refine mk_O.callV (N := M_X7_copyFrom) (ci := 6) (q := (RX7, TX7, 9)) (b := v3) (As1 := [.ref x1]) (S := []) md_X7_copyFrom mv_X7_copyFrom lk_RX0_25 rfl (Nat.le_of_ble_eq_true rfl) (by decide) dX0_keep_10 rfl rfl rfl (fun z hz => (c_X7_copyFrom v3 x1 t z hz).1) (fun z hz => (c_X7_copyFrom v3 x1 t z hz).2) (fun z4 _ => ?_)
  show mk_O _ _ _ _ [] _ _
  refine xo_aload_n rfl rfl dX0_keep_13 ?_
  refine xo_aload_n rfl rfl dX0_keep_14 ?_
  refine xo_geti dX0_keep_15 cl_0 fl_RX0_17 rfl (fun v5 => ?_)
  refine xo_iconst kc_1 dX0_keep_18 ?_
  refine xo_iadd dX0_keep_19 ?_
  refine xo_bipush kb_20 dX0_keep_20 ?_
  refine xo_irem dX0_keep_22 (fun _ => ?_)
  refine xo_puti dX0_keep_23 cl_0 fl_RX0_17 rfl ft_0_1 (fun t6 => ?_)
  refine xo_aload_n rfl rfl dX0_keep_26 ?_
  refine xo_bipush kb_20 dX0_keep_27 ?_
  refine xo_aload_n rfl rfl dX0_keep_29 ?_
  refine xo_geti dX0_keep_30 cl_0 fl_RX0_21 rfl (fun v7 => ?_)
  refine xo_iconst kc_1 dX0_keep_33 ?_
  refine xo_iadd dX0_keep_34 ?_
  refine xo_min lmin_RX0_29 (by decide) (Nat.le_of_ble_eq_true rfl) dX0_keep_35 ?_
  refine xo_puti dX0_keep_38 cl_0 fl_RX0_21 rfl ft_0_2 (fun t8 => ?_)
  exact xo_vret dX0_keep_41 rfl
theorem c_X0_keep (x0 : Nat) (x1 : Nat) (t : mk_S) (z : Unit × mk_S) (h : F_X0_keep x0 x1 t = some z) : mk_is t x0 0 ∧ mk_Ct M_X0_keep [.ref x0, .ref x1] t (mk_wu z.1, z.2) :=
  ⟨(mk_gd_spec h).1, mk_ct (w := mk_wu) (by decide +kernel) (Nat.le_of_ble_eq_true rfl) (p_X0_keep x0 x1 t) z (mk_gd_spec h).2⟩
def F_X0_goBack (x0 : Nat) (x1 : Nat) (t : mk_S) : Option (Int32 × mk_S) := mk_gd t x0 0 ((mk_gi t x0 0 2).bind fun v1 => if 0 < v1 then ((mk_gi t x0 0 1).bind fun v2 => if (20 : Int32) = 0 then none else (mk_pi t x0 0 1 (((v2 + (20 : Int32)) - (1 : Int32)) - ((v2 + (20 : Int32)) - (1 : Int32)) / (20 : Int32) * (20 : Int32))).bind fun t3 => (mk_gi t3 x0 0 2).bind fun v4 => (mk_pi t3 x0 0 2 (v4 - (1 : Int32))).bind fun t5 => (mk_ga t5 x0 0 0).bind fun v6 => (mk_gi t5 x0 0 1).bind fun v7 => (mk_lda (100 + 4) t5 v6 v7).bind fun v8 => (F_X7_copyFrom x1 v8 t5).bind fun z9 => mk_rz (1 : Int32) z9.2) else (mk_rz (0 : Int32) t))
theorem p_X0_goBack (x0 : Nat) (x1 : Nat) (t : mk_S) : mk_O mk_wi M_X0_goBack 0 [some (.ref x0), some (.ref x1)] [] t ((mk_gi t x0 0 2).bind fun v1 => if 0 < v1 then ((mk_gi t x0 0 1).bind fun v2 => if (20 : Int32) = 0 then none else (mk_pi t x0 0 1 (((v2 + (20 : Int32)) - (1 : Int32)) - ((v2 + (20 : Int32)) - (1 : Int32)) / (20 : Int32) * (20 : Int32))).bind fun t3 => (mk_gi t3 x0 0 2).bind fun v4 => (mk_pi t3 x0 0 2 (v4 - (1 : Int32))).bind fun t5 => (mk_ga t5 x0 0 0).bind fun v6 => (mk_gi t5 x0 0 1).bind fun v7 => (mk_lda (100 + 4) t5 v6 v7).bind fun v8 => (F_X7_copyFrom x1 v8 t5).bind fun z9 => mk_rz (1 : Int32) z9.2) else (mk_rz (0 : Int32) t)) := by
  refine xo_aload_n rfl rfl dX0_goBack_0 ?_
  refine xo_geti dX0_goBack_1 cl_0 fl_RX0_21 rfl (fun v1 => ?_)
  refine xo_if_gt (tgt := 9) dX0_goBack_4 rfl (fun _ => ?_) (fun _ => ?_)
  · refine xo_aload_n rfl rfl dX0_goBack_9 ?_
    refine xo_aload_n rfl rfl dX0_goBack_10 ?_
    refine xo_geti dX0_goBack_11 cl_0 fl_RX0_17 rfl (fun v2 => ?_)
    refine xo_bipush kb_20 dX0_goBack_14 ?_
    refine xo_iadd dX0_goBack_16 ?_
    refine xo_iconst kc_1 dX0_goBack_17 ?_
    refine xo_isub dX0_goBack_18 ?_
    refine xo_bipush kb_20 dX0_goBack_19 ?_
    refine xo_irem dX0_goBack_21 (fun _ => ?_)
    refine xo_puti dX0_goBack_22 cl_0 fl_RX0_17 rfl ft_0_1 (fun t3 => ?_)
    refine xo_aload_n rfl rfl dX0_goBack_25 ?_
    refine xo_dup rfl dX0_goBack_26 ?_
    refine xo_geti dX0_goBack_27 cl_0 fl_RX0_21 rfl (fun v4 => ?_)
    refine xo_iconst kc_1 dX0_goBack_30 ?_
    refine xo_isub dX0_goBack_31 ?_
    refine xo_puti dX0_goBack_32 cl_0 fl_RX0_21 rfl ft_0_2 (fun t5 => ?_)
    refine xo_aload_n rfl rfl dX0_goBack_35 ?_
    refine xo_aload_n rfl rfl dX0_goBack_36 ?_
    refine xo_geta dX0_goBack_37 cl_0 fl_RX0_11 rfl (fun v6 => ?_)
    refine xo_aload_n rfl rfl dX0_goBack_40 ?_
    refine xo_geti dX0_goBack_41 cl_0 fl_RX0_17 rfl (fun v7 => ?_)
    refine xo_aald (j := 4) (by decide) (by decide) dX0_goBack_44 (fun v8 => ?_)
    refine mk_O.callV (N := M_X7_copyFrom) (ci := 6) (q := (RX7, TX7, 9)) (b := x1) (As1 := [.ref v8]) (S := []) md_X7_copyFrom mv_X7_copyFrom lk_RX0_25 rfl (Nat.le_of_ble_eq_true rfl) (by decide) dX0_goBack_45 rfl rfl rfl (fun z hz => (c_X7_copyFrom x1 v8 t5 z hz).1) (fun z hz => (c_X7_copyFrom x1 v8 t5 z hz).2) (fun z9 _ => ?_)
    show mk_O _ _ _ _ [] _ _
    refine xo_iconst kc_1 dX0_goBack_48 ?_
    exact xo_zret dX0_goBack_49 rfl
  · refine xo_iconst kc_0 dX0_goBack_7 ?_
    exact xo_zret dX0_goBack_8 rfl
theorem c_X0_goBack (x0 : Nat) (x1 : Nat) (t : mk_S) (z : Int32 × mk_S) (h : F_X0_goBack x0 x1 t = some z) : mk_is t x0 0 ∧ mk_Ct M_X0_goBack [.ref x0, .ref x1] t (mk_wi z.1, z.2) :=
  ⟨(mk_gd_spec h).1, mk_ct (w := mk_wi) (by decide +kernel) (Nat.le_of_ble_eq_true rfl) (p_X0_goBack x0 x1 t) z (mk_gd_spec h).2⟩
def B_X0_copyFrom_18 : Nat → Nat → Nat → Int32 → mk_S → Option (Unit × mk_S)
  | 0, _, _, _, _ => none
  | n + 1, x0, x1, x2, t => if (20 : Int32) ≤ x2 then (some ((), t)) else ((mk_ga t x0 0 0).bind fun v1 => (mk_lda (100 + 4) t v1 x2).bind fun v2 => (mk_ga t x1 0 0).bind fun v3 => (mk_lda (100 + 4) t v3 x2).bind fun v4 => (F_X7_copyFrom v2 v4 t).bind fun z5 => B_X0_copyFrom_18 n x0 x1 (x2 + (1 : Int32)) z5.2)
def F_X0_copyFrom (x0 : Nat) (x1 : Nat) (t : mk_S) : Option (Unit × mk_S) := mk_gd t x0 0 ((mk_gi t x1 0 1).bind fun v1 => (mk_pi t x0 0 1 v1).bind fun t2 => (mk_gi t2 x1 0 2).bind fun v3 => (mk_pi t2 x0 0 2 v3).bind fun t4 => B_X0_copyFrom_18 mk_fu x0 x1 (0 : Int32) t4)
theorem o_X0_copyFrom_18 : ∀ (n : Nat) (x0 : Nat) (x1 : Nat) (x2 : Int32) (t : mk_S), mk_O mk_wu M_X0_copyFrom 18 [some (.ref x0), some (.ref x1), some (.int x2)] [] t (B_X0_copyFrom_18 n x0 x1 x2 t) := by
  intro n
  induction n with
  | zero =>
    intro x0 x1 x2 t
    exact mk_O.none
  | succ n ih =>
    intro x0 x1 x2 t
    rw [B_X0_copyFrom_18]
    refine xo_iload_n rfl rfl dX0_copyFrom_18 ?_
    refine xo_bipush kb_20 dX0_copyFrom_19 ?_
    refine xo_icmp_ge (tgt := 45) dX0_copyFrom_21 rfl (fun _ => ?_) (fun _ => ?_)
    · exact xo_vret dX0_copyFrom_45 rfl
    · refine xo_aload_n rfl rfl dX0_copyFrom_24 ?_
      refine xo_geta dX0_copyFrom_25 cl_0 fl_RX0_11 rfl (fun v1 => ?_)
      refine xo_iload_n rfl rfl dX0_copyFrom_28 ?_
      refine xo_aald (j := 4) (by decide) (by decide) dX0_copyFrom_29 (fun v2 => ?_)
      refine xo_aload_n rfl rfl dX0_copyFrom_30 ?_
      refine xo_geta dX0_copyFrom_31 cl_0 fl_RX0_11 rfl (fun v3 => ?_)
      refine xo_iload_n rfl rfl dX0_copyFrom_34 ?_
      refine xo_aald (j := 4) (by decide) (by decide) dX0_copyFrom_35 (fun v4 => ?_)
      refine mk_O.callV (N := M_X7_copyFrom) (ci := 6) (q := (RX7, TX7, 9)) (b := v2) (As1 := [.ref v4]) (S := []) md_X7_copyFrom mv_X7_copyFrom lk_RX0_25 rfl (Nat.le_of_ble_eq_true rfl) (by decide) dX0_copyFrom_36 rfl rfl rfl (fun z hz => (c_X7_copyFrom v2 v4 t z hz).1) (fun z hz => (c_X7_copyFrom v2 v4 t z hz).2) (fun z5 _ => ?_)
      show mk_O _ _ _ _ [] _ _
      refine xo_iinc rfl (congrArg _ kc_1) (by decide) (mk_p1_v rfl rfl) dX0_copyFrom_39 ?_
      refine xo_goto (tgt := 18) dX0_copyFrom_42 rfl ?_
      exact mk_O.wk (ih x0 x1 (x2 + (1 : Int32)) z5.2) ⟨rfl, ⟨rfl, ⟨rfl, trivial⟩⟩⟩
theorem p_X0_copyFrom (x0 : Nat) (x1 : Nat) (t : mk_S) : mk_O mk_wu M_X0_copyFrom 0 [some (.ref x0), some (.ref x1), none] [] t ((mk_gi t x1 0 1).bind fun v1 => (mk_pi t x0 0 1 v1).bind fun t2 => (mk_gi t2 x1 0 2).bind fun v3 => (mk_pi t2 x0 0 2 v3).bind fun t4 => B_X0_copyFrom_18 mk_fu x0 x1 (0 : Int32) t4) := by
  refine xo_aload_n rfl rfl dX0_copyFrom_0 ?_
  refine xo_aload_n rfl rfl dX0_copyFrom_1 ?_
  refine xo_geti dX0_copyFrom_2 cl_0 fl_RX0_17 rfl (fun v1 => ?_)
  refine xo_puti dX0_copyFrom_5 cl_0 fl_RX0_17 rfl ft_0_1 (fun t2 => ?_)
  refine xo_aload_n rfl rfl dX0_copyFrom_8 ?_
  refine xo_aload_n rfl rfl dX0_copyFrom_9 ?_
  refine xo_geti dX0_copyFrom_10 cl_0 fl_RX0_21 rfl (fun v3 => ?_)
  refine xo_puti dX0_copyFrom_13 cl_0 fl_RX0_21 rfl ft_0_2 (fun t4 => ?_)
  refine xo_iconst kc_0 dX0_copyFrom_16 ?_
  refine xo_istore_n rfl (by decide) (mk_p1_v rfl rfl) dX0_copyFrom_17 ?_
  exact mk_O.wk (o_X0_copyFrom_18 mk_fu x0 x1 (0 : Int32) t4) ⟨rfl, ⟨rfl, ⟨rfl, trivial⟩⟩⟩
theorem c_X0_copyFrom (x0 : Nat) (x1 : Nat) (t : mk_S) (z : Unit × mk_S) (h : F_X0_copyFrom x0 x1 t = some z) : mk_is t x0 0 ∧ mk_Ct M_X0_copyFrom [.ref x0, .ref x1] t (mk_wu z.1, z.2) :=
  ⟨(mk_gd_spec h).1, mk_ct (w := mk_wu) (by decide +kernel) (Nat.le_of_ble_eq_true rfl) (p_X0_copyFrom x0 x1 t) z (mk_gd_spec h).2⟩
def F_X1_init (x0 : Nat) (t : mk_S) : Option (Unit × mk_S) := mk_gd t x0 1 ((mk_na 100 t (10 : Int32)).bind fun z1 => (mk_pa z1.2 x0 1 0 z1.1).bind fun t2 => if z1.1 < z1.2.1.length then (mk_na 100 t2 (10 : Int32)).bind fun z3 => (mk_pa z3.2 x0 1 1 z3.1).bind fun t4 => if z3.1 < z3.2.1.length then (mk_na 100 t4 (10 : Int32)).bind fun z5 => (mk_pa z5.2 x0 1 2 z5.1).bind fun t6 => if z5.1 < z5.2.1.length then (mk_pi t6 x0 1 3 (0 : Int32)).bind fun t7 => some ((), t7) else none else none else none)
theorem p_X1_init (x0 : Nat) (t : mk_S) : mk_O mk_wu M_X1_init 0 [some (.ref x0)] [] t ((mk_na 100 t (10 : Int32)).bind fun z1 => (mk_pa z1.2 x0 1 0 z1.1).bind fun t2 => if z1.1 < z1.2.1.length then (mk_na 100 t2 (10 : Int32)).bind fun z3 => (mk_pa z3.2 x0 1 1 z3.1).bind fun t4 => if z3.1 < z3.2.1.length then (mk_na 100 t4 (10 : Int32)).bind fun z5 => (mk_pa z5.2 x0 1 2 z5.1).bind fun t6 => if z5.1 < z5.2.1.length then (mk_pi t6 x0 1 3 (0 : Int32)).bind fun t7 => some ((), t7) else none else none else none) := by
  refine xo_aload_n rfl rfl dX1_init_0 ?_
  refine xo_obj lo_RX1_3 (by decide) (Nat.le_of_ble_eq_true rfl) dX1_init_1 ?_
  refine xo_aload_n rfl rfl dX1_init_4 ?_
  refine xo_bipush kb_10 dX1_init_5 ?_
  refine xo_newai (mk_w1 (i := 65) rfl rfl) dX1_init_7 (fun z1 _ => ?_)
  refine xo_puta dX1_init_9 cl_1 ⟨RX1, TX1, 4, rfl, by decide, (mk_w2 (i := 34) rfl rfl)⟩ rfl ft_1_0 (fun _ => rfl) (fun _ => rfl) rfl rfl (fun t2 => ?_)
  refine xo_aload_n rfl rfl dX1_init_12 ?_
  refine xo_bipush kb_10 dX1_init_13 ?_
  refine xo_newai (mk_w1 (i := 65) rfl rfl) dX1_init_15 (fun z3 _ => ?_)
  refine xo_puta dX1_init_17 cl_1 ⟨RX1, TX1, 4, rfl, by decide, (mk_w2 (i := 35) rfl rfl)⟩ rfl ft_1_1 (fun _ => rfl) (fun _ => rfl) rfl rfl (fun t4 => ?_)
  refine xo_aload_n rfl rfl dX1_init_20 ?_
  refine xo_bipush kb_10 dX1_init_21 ?_
  refine xo_newai (mk_w1 (i := 65) rfl rfl) dX1_init_23 (fun z5 _ => ?_)
  refine xo_puta dX1_init_25 cl_1 ⟨RX1, TX1, 4, rfl, by decide, (mk_w2 (i := 36) rfl rfl)⟩ rfl ft_1_2 (fun _ => rfl) (fun _ => rfl) rfl rfl (fun t6 => ?_)
  refine xo_aload_n rfl rfl dX1_init_28 ?_
  refine xo_iconst kc_0 dX1_init_29 ?_
  refine xo_puti dX1_init_30 cl_1 fl_RX1_21 rfl ft_1_3 (fun t7 => ?_)
  exact xo_vret dX1_init_33 rfl
theorem c_X1_init (x0 : Nat) (t : mk_S) (z : Unit × mk_S) (h : F_X1_init x0 t = some z) : mk_is t x0 1 ∧ mk_Ct M_X1_init [.ref x0] t (mk_wu z.1, z.2) :=
  ⟨(mk_gd_spec h).1, mk_ct (w := mk_wu) (by decide +kernel) (Nat.le_of_ble_eq_true rfl) (p_X1_init x0 t) z (mk_gd_spec h).2⟩
def F_X1_add (x0 : Nat) (x1 : Int32) (x2 : Int32) (x3 : Int32) (t : mk_S) : Option (Int32 × mk_S) := mk_gd t x0 1 ((mk_gi t x0 1 3).bind fun v1 => if v1 < (10 : Int32) then ((mk_ga t x0 1 0).bind fun v2 => (mk_gi t x0 1 3).bind fun v3 => (mk_st 100 t v2 v3 x1).bind fun t4 => (mk_ga t4 x0 1 1).bind fun v5 => (mk_gi t4 x0 1 3).bind fun v6 => (mk_st 100 t4 v5 v6 x2).bind fun t7 => (mk_ga t7 x0 1 2).bind fun v8 => (mk_gi t7 x0 1 3).bind fun v9 => (mk_st 100 t7 v8 v9 x3).bind fun t10 => (mk_gi t10 x0 1 3).bind fun v11 => (mk_pi t10 x0 1 3 (v11 + (1 : Int32))).bind fun t12 => mk_rz (1 : Int32) t12) else (mk_rz (0 : Int32) t))
theorem p_X1_add (x0 : Nat) (x1 : Int32) (x2 : Int32) (x3 : Int32) (t : mk_S) : mk_O mk_wi M_X1_add 0 [some (.ref x0), some (.int x1), some (.int x2), some (.int x3)] [] t ((mk_gi t x0 1 3).bind fun v1 => if v1 < (10 : Int32) then ((mk_ga t x0 1 0).bind fun v2 => (mk_gi t x0 1 3).bind fun v3 => (mk_st 100 t v2 v3 x1).bind fun t4 => (mk_ga t4 x0 1 1).bind fun v5 => (mk_gi t4 x0 1 3).bind fun v6 => (mk_st 100 t4 v5 v6 x2).bind fun t7 => (mk_ga t7 x0 1 2).bind fun v8 => (mk_gi t7 x0 1 3).bind fun v9 => (mk_st 100 t7 v8 v9 x3).bind fun t10 => (mk_gi t10 x0 1 3).bind fun v11 => (mk_pi t10 x0 1 3 (v11 + (1 : Int32))).bind fun t12 => mk_rz (1 : Int32) t12) else (mk_rz (0 : Int32) t)) := by
  refine xo_aload_n rfl rfl dX1_add_0 ?_
  refine xo_geti dX1_add_1 cl_1 fl_RX1_21 rfl (fun v1 => ?_)
  refine xo_bipush kb_10 dX1_add_4 ?_
  refine xo_icmp_lt (tgt := 11) dX1_add_6 rfl (fun _ => ?_) (fun _ => ?_)
  · refine xo_aload_n rfl rfl dX1_add_11 ?_
    refine xo_geta dX1_add_12 cl_1 fl_RX1_9 rfl (fun v2 => ?_)
    refine xo_aload_n rfl rfl dX1_add_15 ?_
    refine xo_geti dX1_add_16 cl_1 fl_RX1_21 rfl (fun v3 => ?_)
    refine xo_iload_n rfl rfl dX1_add_19 ?_
    refine xo_iast dX1_add_20 (fun t4 => ?_)
    refine xo_aload_n rfl rfl dX1_add_21 ?_
    refine xo_geta dX1_add_22 cl_1 fl_RX1_15 rfl (fun v5 => ?_)
    refine xo_aload_n rfl rfl dX1_add_25 ?_
    refine xo_geti dX1_add_26 cl_1 fl_RX1_21 rfl (fun v6 => ?_)
    refine xo_iload_n rfl rfl dX1_add_29 ?_
    refine xo_iast dX1_add_30 (fun t7 => ?_)
    refine xo_aload_n rfl rfl dX1_add_31 ?_
    refine xo_geta dX1_add_32 cl_1 fl_RX1_18 rfl (fun v8 => ?_)
    refine xo_aload_n rfl rfl dX1_add_35 ?_
    refine xo_geti dX1_add_36 cl_1 fl_RX1_21 rfl (fun v9 => ?_)
    refine xo_iload_n rfl rfl dX1_add_39 ?_
    refine xo_iast dX1_add_40 (fun t10 => ?_)
    refine xo_aload_n rfl rfl dX1_add_41 ?_
    refine xo_dup rfl dX1_add_42 ?_
    refine xo_geti dX1_add_43 cl_1 fl_RX1_21 rfl (fun v11 => ?_)
    refine xo_iconst kc_1 dX1_add_46 ?_
    refine xo_iadd dX1_add_47 ?_
    refine xo_puti dX1_add_48 cl_1 fl_RX1_21 rfl ft_1_3 (fun t12 => ?_)
    refine xo_iconst kc_1 dX1_add_51 ?_
    exact xo_zret dX1_add_52 rfl
  · refine xo_iconst kc_0 dX1_add_9 ?_
    exact xo_zret dX1_add_10 rfl
theorem c_X1_add (x0 : Nat) (x1 : Int32) (x2 : Int32) (x3 : Int32) (t : mk_S) (z : Int32 × mk_S) (h : F_X1_add x0 x1 x2 x3 t = some z) : mk_is t x0 1 ∧ mk_Ct M_X1_add [.ref x0, .int x1, .int x2, .int x3] t (mk_wi z.1, z.2) :=
  ⟨(mk_gd_spec h).1, mk_ct (w := mk_wi) (by decide +kernel) (Nat.le_of_ble_eq_true rfl) (p_X1_add x0 x1 x2 x3 t) z (mk_gd_spec h).2⟩
def B_X1_lastHour_4 : Nat → Nat → Int32 → Int32 → mk_S → Option (Int32 × mk_S)
  | 0, _, _, _, _ => none
  | n + 1, x0, x1, x2, t => (mk_gi t x0 1 3).bind fun v1 => if v1 ≤ x2 then (some (x1, t)) else ((mk_ga t x0 1 0).bind fun v2 => (mk_ld 100 t v2 x2).bind fun v3 => B_X1_lastHour_4 n x0 (if x1 < v3 then v3 else x1) (x2 + (1 : Int32)) t)
def F_X1_lastHour (x0 : Nat) (t : mk_S) : Option (Int32 × mk_S) := mk_gd t x0 1 (B_X1_lastHour_4 mk_fu x0 (-1 : Int32) (0 : Int32) t)
theorem o_X1_lastHour_4 : ∀ (n : Nat) (x0 : Nat) (x1 : Int32) (x2 : Int32) (t : mk_S), mk_O mk_wi M_X1_lastHour 4 [some (.ref x0), some (.int x1), some (.int x2)] [] t (B_X1_lastHour_4 n x0 x1 x2 t) := by
  intro n
  induction n with
  | zero =>
    intro x0 x1 x2 t
    exact mk_O.none
  | succ n ih =>
    intro x0 x1 x2 t
    rw [B_X1_lastHour_4]
    refine xo_iload_n rfl rfl dX1_lastHour_4 ?_
    refine xo_aload_n rfl rfl dX1_lastHour_5 ?_
    refine xo_geti dX1_lastHour_6 cl_1 fl_RX1_21 rfl (fun v1 => ?_)
    refine xo_icmp_ge (tgt := 29) dX1_lastHour_9 rfl (fun _ => ?_) (fun _ => ?_)
    · refine xo_iload_n rfl rfl dX1_lastHour_29 ?_
      exact xo_iret dX1_lastHour_30 rfl
    · refine xo_iload_n rfl rfl dX1_lastHour_12 ?_
      refine xo_aload_n rfl rfl dX1_lastHour_13 ?_
      refine xo_geta dX1_lastHour_14 cl_1 fl_RX1_9 rfl (fun v2 => ?_)
      refine xo_iload_n rfl rfl dX1_lastHour_17 ?_
      refine xo_iald dX1_lastHour_18 (fun v3 => ?_)
      refine xo_max lmax_RX1_25 (by decide) (Nat.le_of_ble_eq_true rfl) dX1_lastHour_19 ?_
      refine xo_istore_n rfl (by decide) (mk_p1_v rfl rfl) dX1_lastHour_22 ?_
      refine xo_iinc rfl (congrArg _ kc_1) (by decide) (mk_p1_v rfl rfl) dX1_lastHour_23 ?_
      refine xo_goto (tgt := 4) dX1_lastHour_26 rfl ?_
      exact mk_O.wk (ih x0 (if x1 < v3 then v3 else x1) (x2 + (1 : Int32)) t) ⟨rfl, ⟨rfl, ⟨rfl, trivial⟩⟩⟩
theorem p_X1_lastHour (x0 : Nat) (t : mk_S) : mk_O mk_wi M_X1_lastHour 0 [some (.ref x0), none, none] [] t (B_X1_lastHour_4 mk_fu x0 (-1 : Int32) (0 : Int32) t) := by
  refine xo_iconst kc_m1 dX1_lastHour_0 ?_
  refine xo_istore_n rfl (by decide) (mk_p1_v rfl rfl) dX1_lastHour_1 ?_
  refine xo_iconst kc_0 dX1_lastHour_2 ?_
  refine xo_istore_n rfl (by decide) (mk_p1_v rfl rfl) dX1_lastHour_3 ?_
  exact mk_O.wk (o_X1_lastHour_4 mk_fu x0 (-1 : Int32) (0 : Int32) t) ⟨rfl, ⟨rfl, ⟨rfl, trivial⟩⟩⟩
theorem c_X1_lastHour (x0 : Nat) (t : mk_S) (z : Int32 × mk_S) (h : F_X1_lastHour x0 t = some z) : mk_is t x0 1 ∧ mk_Ct M_X1_lastHour [.ref x0] t (mk_wi z.1, z.2) :=
  ⟨(mk_gd_spec h).1, mk_ct (w := mk_wi) (by decide +kernel) (Nat.le_of_ble_eq_true rfl) (p_X1_lastHour x0 t) z (mk_gd_spec h).2⟩
def B_X7_windAt_19 (t : mk_S) : Option (Int32 × mk_S) := some ((0 : Int32), t)
def F_X7_windAt (x0 : Nat) (x1 : Int32) (t : mk_S) : Option (Int32 × mk_S) := mk_gd t x0 6 (if x1 < 0 then (B_X7_windAt_19 t) else (if (36 : Int32) ≤ x1 then (B_X7_windAt_19 t) else ((mk_ga t x0 6 6).bind fun v1 => (mk_ld 100 t v1 x1).bind fun v2 => some (v2, t))))
theorem o_X7_windAt_19 (t : mk_S) : mk_O mk_wi M_X7_windAt 19 [none, none] [] t (B_X7_windAt_19  t) := by
  unfold B_X7_windAt_19
  refine xo_iconst kc_0 dX7_windAt_19 ?_
  exact xo_iret dX7_windAt_20 rfl
theorem p_X7_windAt (x0 : Nat) (x1 : Int32) (t : mk_S) : mk_O mk_wi M_X7_windAt 0 [some (.ref x0), some (.int x1)] [] t (if x1 < 0 then (B_X7_windAt_19 t) else (if (36 : Int32) ≤ x1 then (B_X7_windAt_19 t) else ((mk_ga t x0 6 6).bind fun v1 => (mk_ld 100 t v1 x1).bind fun v2 => some (v2, t)))) := by
  refine xo_iload_n rfl rfl dX7_windAt_0 ?_
  refine xo_if_lt (tgt := 19) dX7_windAt_1 rfl (fun _ => ?_) (fun _ => ?_)
  · exact mk_O.wk (o_X7_windAt_19 t) trivial
  · refine xo_iload_n rfl rfl dX7_windAt_4 ?_
    refine xo_bipush kb_36 dX7_windAt_5 ?_
    refine xo_icmp_ge (tgt := 19) dX7_windAt_7 rfl (fun _ => ?_) (fun _ => ?_)
    · exact mk_O.wk (o_X7_windAt_19 t) trivial
    · refine xo_aload_n rfl rfl dX7_windAt_10 ?_
      refine xo_geta dX7_windAt_11 cl_6 fl_RX7_30 rfl (fun v1 => ?_)
      refine xo_iload_n rfl rfl dX7_windAt_14 ?_
      refine xo_iald dX7_windAt_15 (fun v2 => ?_)
      refine xo_goto (tgt := 20) dX7_windAt_16 rfl ?_
      exact xo_iret dX7_windAt_20 rfl
theorem c_X7_windAt (x0 : Nat) (x1 : Int32) (t : mk_S) (z : Int32 × mk_S) (h : F_X7_windAt x0 x1 t = some z) : mk_is t x0 6 ∧ mk_Ct M_X7_windAt [.ref x0, .int x1] t (mk_wi z.1, z.2) :=
  ⟨(mk_gd_spec h).1, mk_ct (w := mk_wi) (by decide +kernel) (Nat.le_of_ble_eq_true rfl) (p_X7_windAt x0 x1 t) z (mk_gd_spec h).2⟩
def B_X1_areSo_41 (k2 : Nat → Int32 → Nat → Int32 → mk_S → Option (Int32 × mk_S)) (x0 : Nat) (x1 : Int32) (x2 : Nat) (x3 : Int32) (t : mk_S) : Option (Int32 × mk_S) := k2 x0 x1 x2 (x3 + (1 : Int32)) t
def B_X1_areSo_2 : Nat → Nat → Int32 → Nat → Int32 → mk_S → Option (Int32 × mk_S)
  | 0, _, _, _, _, _ => none
  | n + 1, x0, x1, x2, x3, t => (mk_gi t x0 1 3).bind fun v1 => if v1 ≤ x3 then (mk_rz (1 : Int32) t) else ((mk_ga t x0 1 0).bind fun v2 => (mk_ld 100 t v2 x3).bind fun v3 => if v3 = x1 then ((mk_ga t x0 1 1).bind fun v4 => (mk_ld 100 t v4 x3).bind fun v5 => (F_X7_windAt x2 v5 t).bind fun z6 => (mk_ga z6.2 x0 1 2).bind fun v7 => (mk_ld 100 z6.2 v7 x3).bind fun v8 => if z6.1 = v8 then (B_X1_areSo_41 (B_X1_areSo_2 n) x0 x1 x2 x3 z6.2) else (mk_rz (0 : Int32) z6.2)) else (B_X1_areSo_41 (B_X1_areSo_2 n) x0 x1 x2 x3 t))
def F_X1_areSo (x0 : Nat) (x1 : Int32) (x2 : Nat) (t : mk_S) : Option (Int32 × mk_S) := mk_gd t x0 1 (B_X1_areSo_2 mk_fu x0 x1 x2 (0 : Int32) t)
theorem o_X1_areSo_41 (k2 : Nat → Int32 → Nat → Int32 → mk_S → Option (Int32 × mk_S)) (h2 : ∀ (x0 : Nat) (x1 : Int32) (x2 : Nat) (x3 : Int32) (t : mk_S), mk_O mk_wi M_X1_areSo 2 [some (.ref x0), some (.int x1), some (.ref x2), some (.int x3)] [] t (k2 x0 x1 x2 x3 t)) (x0 : Nat) (x1 : Int32) (x2 : Nat) (x3 : Int32) (t : mk_S) : mk_O mk_wi M_X1_areSo 41 [some (.ref x0), some (.int x1), some (.ref x2), some (.int x3)] [] t (B_X1_areSo_41 k2 x0 x1 x2 x3 t) := by
  unfold B_X1_areSo_41
  refine xo_iinc rfl (congrArg _ kc_1) (by decide) (mk_p1_v rfl rfl) dX1_areSo_41 ?_
  refine xo_goto (tgt := 2) dX1_areSo_44 rfl ?_
  exact mk_O.wk (h2 x0 x1 x2 (x3 + (1 : Int32)) t) ⟨rfl, ⟨rfl, ⟨rfl, ⟨rfl, trivial⟩⟩⟩⟩
theorem o_X1_areSo_2 : ∀ (n : Nat) (x0 : Nat) (x1 : Int32) (x2 : Nat) (x3 : Int32) (t : mk_S), mk_O mk_wi M_X1_areSo 2 [some (.ref x0), some (.int x1), some (.ref x2), some (.int x3)] [] t (B_X1_areSo_2 n x0 x1 x2 x3 t) := by
  intro n
  induction n with
  | zero =>
    intro x0 x1 x2 x3 t
    exact mk_O.none
  | succ n ih =>
    intro x0 x1 x2 x3 t
    rw [B_X1_areSo_2]
    refine xo_iload_n rfl rfl dX1_areSo_2 ?_
    refine xo_aload_n rfl rfl dX1_areSo_3 ?_
    refine xo_geti dX1_areSo_4 cl_1 fl_RX1_21 rfl (fun v1 => ?_)
    refine xo_icmp_ge (tgt := 47) dX1_areSo_7 rfl (fun _ => ?_) (fun _ => ?_)
    · refine xo_iconst kc_1 dX1_areSo_47 ?_
      exact xo_zret dX1_areSo_48 rfl
    · refine xo_aload_n rfl rfl dX1_areSo_10 ?_
      refine xo_geta dX1_areSo_11 cl_1 fl_RX1_9 rfl (fun v2 => ?_)
      refine xo_iload_n rfl rfl dX1_areSo_14 ?_
      refine xo_iald dX1_areSo_15 (fun v3 => ?_)
      refine xo_iload_n rfl rfl dX1_areSo_16 ?_
      refine xo_icmp_ne (tgt := 41) dX1_areSo_17 rfl (fun _ => ?_) (fun _ => ?_)
      · refine xo_aload_n rfl rfl dX1_areSo_20 ?_
        refine xo_aload_n rfl rfl dX1_areSo_21 ?_
        refine xo_geta dX1_areSo_22 cl_1 fl_RX1_15 rfl (fun v4 => ?_)
        refine xo_iload_n rfl rfl dX1_areSo_25 ?_
        refine xo_iald dX1_areSo_26 (fun v5 => ?_)
        refine mk_O.callV (N := M_X7_windAt) (ci := 6) (q := (RX7, TX7, 9)) (b := x2) (As1 := [.int v5]) (S := []) md_X7_windAt mv_X7_windAt lk_RX1_31 rfl (Nat.le_of_ble_eq_true rfl) (by decide) dX1_areSo_27 rfl rfl rfl (fun z hz => (c_X7_windAt x2 v5 t z hz).1) (fun z hz => (c_X7_windAt x2 v5 t z hz).2) (fun z6 _ => ?_)
        show mk_O _ _ _ _ (.int z6.1 :: []) _ _
        refine xo_aload_n rfl rfl dX1_areSo_30 ?_
        refine xo_geta dX1_areSo_31 cl_1 fl_RX1_18 rfl (fun v7 => ?_)
        refine xo_iload_n rfl rfl dX1_areSo_34 ?_
        refine xo_iald dX1_areSo_35 (fun v8 => ?_)
        refine xo_icmp_eq (tgt := 41) dX1_areSo_36 rfl (fun _ => ?_) (fun _ => ?_)
        · exact mk_O.wk (o_X1_areSo_41 _ ih x0 x1 x2 x3 z6.2) ⟨rfl, ⟨rfl, ⟨rfl, ⟨rfl, trivial⟩⟩⟩⟩
        · refine xo_iconst kc_0 dX1_areSo_39 ?_
          exact xo_zret dX1_areSo_40 rfl
      · exact mk_O.wk (o_X1_areSo_41 _ ih x0 x1 x2 x3 t) ⟨rfl, ⟨rfl, ⟨rfl, ⟨rfl, trivial⟩⟩⟩⟩
theorem p_X1_areSo (x0 : Nat) (x1 : Int32) (x2 : Nat) (t : mk_S) : mk_O mk_wi M_X1_areSo 0 [some (.ref x0), some (.int x1), some (.ref x2), none] [] t (B_X1_areSo_2 mk_fu x0 x1 x2 (0 : Int32) t) := by
  refine xo_iconst kc_0 dX1_areSo_0 ?_
  refine xo_istore_n rfl (by decide) (mk_p1_v rfl rfl) dX1_areSo_1 ?_
  exact mk_O.wk (o_X1_areSo_2 mk_fu x0 x1 x2 (0 : Int32) t) ⟨rfl, ⟨rfl, ⟨rfl, ⟨rfl, trivial⟩⟩⟩⟩
theorem c_X1_areSo (x0 : Nat) (x1 : Int32) (x2 : Nat) (t : mk_S) (z : Int32 × mk_S) (h : F_X1_areSo x0 x1 x2 t = some z) : mk_is t x0 1 ∧ mk_Ct M_X1_areSo [.ref x0, .int x1, .ref x2] t (mk_wi z.1, z.2) :=
  ⟨(mk_gd_spec h).1, mk_ct (w := mk_wi) (by decide +kernel) (Nat.le_of_ble_eq_true rfl) (p_X1_areSo x0 x1 x2 t) z (mk_gd_spec h).2⟩
def F_X1_copyFrom (x0 : Nat) (x1 : Nat) (t : mk_S) : Option (Unit × mk_S) := mk_gd t x0 1 ((mk_ga t x1 1 0).bind fun v1 => (mk_ga t x0 1 0).bind fun v2 => (mk_cp t v1 (0 : Int32) v2 (0 : Int32) (10 : Int32)).bind fun t3 => (mk_ga t3 x1 1 1).bind fun v4 => (mk_ga t3 x0 1 1).bind fun v5 => (mk_cp t3 v4 (0 : Int32) v5 (0 : Int32) (10 : Int32)).bind fun t6 => (mk_ga t6 x1 1 2).bind fun v7 => (mk_ga t6 x0 1 2).bind fun v8 => (mk_cp t6 v7 (0 : Int32) v8 (0 : Int32) (10 : Int32)).bind fun t9 => (mk_gi t9 x1 1 3).bind fun v10 => (mk_pi t9 x0 1 3 v10).bind fun t11 => some ((), t11))
theorem p_X1_copyFrom (x0 : Nat) (x1 : Nat) (t : mk_S) : mk_O mk_wu M_X1_copyFrom 0 [some (.ref x0), some (.ref x1)] [] t ((mk_ga t x1 1 0).bind fun v1 => (mk_ga t x0 1 0).bind fun v2 => (mk_cp t v1 (0 : Int32) v2 (0 : Int32) (10 : Int32)).bind fun t3 => (mk_ga t3 x1 1 1).bind fun v4 => (mk_ga t3 x0 1 1).bind fun v5 => (mk_cp t3 v4 (0 : Int32) v5 (0 : Int32) (10 : Int32)).bind fun t6 => (mk_ga t6 x1 1 2).bind fun v7 => (mk_ga t6 x0 1 2).bind fun v8 => (mk_cp t6 v7 (0 : Int32) v8 (0 : Int32) (10 : Int32)).bind fun t9 => (mk_gi t9 x1 1 3).bind fun v10 => (mk_pi t9 x0 1 3 v10).bind fun t11 => some ((), t11)) := by
  refine xo_aload_n rfl rfl dX1_copyFrom_0 ?_
  refine xo_geta dX1_copyFrom_1 cl_1 fl_RX1_9 rfl (fun v1 => ?_)
  refine xo_iconst kc_0 dX1_copyFrom_4 ?_
  refine xo_aload_n rfl rfl dX1_copyFrom_5 ?_
  refine xo_geta dX1_copyFrom_6 cl_1 fl_RX1_9 rfl (fun v2 => ?_)
  refine xo_iconst kc_0 dX1_copyFrom_9 ?_
  refine xo_bipush kb_10 dX1_copyFrom_10 ?_
  refine xo_cpy lcpy_RX1_37 (by decide) (Nat.le_of_ble_eq_true rfl) dX1_copyFrom_12 (fun t3 => ?_)
  refine xo_aload_n rfl rfl dX1_copyFrom_15 ?_
  refine xo_geta dX1_copyFrom_16 cl_1 fl_RX1_15 rfl (fun v4 => ?_)
  refine xo_iconst kc_0 dX1_copyFrom_19 ?_
  refine xo_aload_n rfl rfl dX1_copyFrom_20 ?_
  refine xo_geta dX1_copyFrom_21 cl_1 fl_RX1_15 rfl (fun v5 => ?_)
  refine xo_iconst kc_0 dX1_copyFrom_24 ?_
  refine xo_bipush kb_10 dX1_copyFrom_25 ?_
  refine xo_cpy lcpy_RX1_37 (by decide) (Nat.le_of_ble_eq_true rfl) dX1_copyFrom_27 (fun t6 => ?_)
  refine xo_aload_n rfl rfl dX1_copyFrom_30 ?_
  refine xo_geta dX1_copyFrom_31 cl_1 fl_RX1_18 rfl (fun v7 => ?_)
  refine xo_iconst kc_0 dX1_copyFrom_34 ?_
  refine xo_aload_n rfl rfl dX1_copyFrom_35 ?_
  refine xo_geta dX1_copyFrom_36 cl_1 fl_RX1_18 rfl (fun v8 => ?_)
  refine xo_iconst kc_0 dX1_copyFrom_39 ?_
  refine xo_bipush kb_10 dX1_copyFrom_40 ?_
  refine xo_cpy lcpy_RX1_37 (by decide) (Nat.le_of_ble_eq_true rfl) dX1_copyFrom_42 (fun t9 => ?_)
  refine xo_aload_n rfl rfl dX1_copyFrom_45 ?_
  refine xo_aload_n rfl rfl dX1_copyFrom_46 ?_
  refine xo_geti dX1_copyFrom_47 cl_1 fl_RX1_21 rfl (fun v10 => ?_)
  refine xo_puti dX1_copyFrom_50 cl_1 fl_RX1_21 rfl ft_1_3 (fun t11 => ?_)
  exact xo_vret dX1_copyFrom_53 rfl
theorem c_X1_copyFrom (x0 : Nat) (x1 : Nat) (t : mk_S) (z : Unit × mk_S) (h : F_X1_copyFrom x0 x1 t = some z) : mk_is t x0 1 ∧ mk_Ct M_X1_copyFrom [.ref x0, .ref x1] t (mk_wu z.1, z.2) :=
  ⟨(mk_gd_spec h).1, mk_ct (w := mk_wu) (by decide +kernel) (Nat.le_of_ble_eq_true rfl) (p_X1_copyFrom x0 x1 t) z (mk_gd_spec h).2⟩
def F_X3_init (x0 : Nat) (t : mk_S) : Option (Unit × mk_S) := mk_gd t x0 3 ((mk_pi t x0 3 0 (0 : Int32)).bind fun t1 => (mk_pi t1 x0 3 1 (0 : Int32)).bind fun t2 => (mk_pi t2 x0 3 2 (0 : Int32)).bind fun t3 => (mk_pi t3 x0 3 3 (0 : Int32)).bind fun t4 => (mk_pi t4 x0 3 4 (0 : Int32)).bind fun t5 => (mk_na 100 t5 (6 : Int32)).bind fun z6 => (mk_pa z6.2 x0 3 5 z6.1).bind fun t7 => if z6.1 < z6.2.1.length then (mk_na 100 t7 (6 : Int32)).bind fun z8 => (mk_pa z8.2 x0 3 6 z8.1).bind fun t9 => if z8.1 < z8.2.1.length then (mk_na 100 t9 (6 : Int32)).bind fun z10 => (mk_pa z10.2 x0 3 7 z10.1).bind fun t11 => if z10.1 < z10.2.1.length then (mk_na 100 t11 (4 : Int32)).bind fun z12 => (mk_pa z12.2 x0 3 8 z12.1).bind fun t13 => if z12.1 < z12.2.1.length then (mk_na 100 t13 (4 : Int32)).bind fun z14 => (mk_pa z14.2 x0 3 9 z14.1).bind fun t15 => if z14.1 < z14.2.1.length then (mk_na 100 t15 (4 : Int32)).bind fun z16 => (mk_pa z16.2 x0 3 10 z16.1).bind fun t17 => if z16.1 < z16.2.1.length then (mk_na 100 t17 (4 : Int32)).bind fun z18 => (mk_pa z18.2 x0 3 11 z18.1).bind fun t19 => if z18.1 < z18.2.1.length then some ((), t19) else none else none else none else none else none else none else none)
theorem p_X3_init (x0 : Nat) (t : mk_S) : mk_O mk_wu M_X3_init 0 [some (.ref x0)] [] t ((mk_pi t x0 3 0 (0 : Int32)).bind fun t1 => (mk_pi t1 x0 3 1 (0 : Int32)).bind fun t2 => (mk_pi t2 x0 3 2 (0 : Int32)).bind fun t3 => (mk_pi t3 x0 3 3 (0 : Int32)).bind fun t4 => (mk_pi t4 x0 3 4 (0 : Int32)).bind fun t5 => (mk_na 100 t5 (6 : Int32)).bind fun z6 => (mk_pa z6.2 x0 3 5 z6.1).bind fun t7 => if z6.1 < z6.2.1.length then (mk_na 100 t7 (6 : Int32)).bind fun z8 => (mk_pa z8.2 x0 3 6 z8.1).bind fun t9 => if z8.1 < z8.2.1.length then (mk_na 100 t9 (6 : Int32)).bind fun z10 => (mk_pa z10.2 x0 3 7 z10.1).bind fun t11 => if z10.1 < z10.2.1.length then (mk_na 100 t11 (4 : Int32)).bind fun z12 => (mk_pa z12.2 x0 3 8 z12.1).bind fun t13 => if z12.1 < z12.2.1.length then (mk_na 100 t13 (4 : Int32)).bind fun z14 => (mk_pa z14.2 x0 3 9 z14.1).bind fun t15 => if z14.1 < z14.2.1.length then (mk_na 100 t15 (4 : Int32)).bind fun z16 => (mk_pa z16.2 x0 3 10 z16.1).bind fun t17 => if z16.1 < z16.2.1.length then (mk_na 100 t17 (4 : Int32)).bind fun z18 => (mk_pa z18.2 x0 3 11 z18.1).bind fun t19 => if z18.1 < z18.2.1.length then some ((), t19) else none else none else none else none else none else none else none) := by
  refine xo_aload_n rfl rfl dX3_init_0 ?_
  refine xo_obj lo_RX3_3 (by decide) (Nat.le_of_ble_eq_true rfl) dX3_init_1 ?_
  refine xo_aload_n rfl rfl dX3_init_4 ?_
  refine xo_iconst kc_0 dX3_init_5 ?_
  refine xo_puti dX3_init_6 cl_3 fl_RX3_9 rfl ft_3_0 (fun t1 => ?_)
  refine xo_aload_n rfl rfl dX3_init_9 ?_
  refine xo_iconst kc_0 dX3_init_10 ?_
  refine xo_puti dX3_init_11 cl_3 fl_RX3_15 rfl ft_3_1 (fun t2 => ?_)
  refine xo_aload_n rfl rfl dX3_init_14 ?_
  refine xo_iconst kc_0 dX3_init_15 ?_
  refine xo_puti dX3_init_16 cl_3 fl_RX3_18 rfl ft_3_2 (fun t3 => ?_)
  refine xo_aload_n rfl rfl dX3_init_19 ?_
  refine xo_iconst kc_0 dX3_init_20 ?_
  refine xo_puti dX3_init_21 cl_3 fl_RX3_21 rfl ft_3_3 (fun t4 => ?_)
  refine xo_aload_n rfl rfl dX3_init_24 ?_
  refine xo_iconst kc_0 dX3_init_25 ?_
  refine xo_puti dX3_init_26 cl_3 fl_RX3_24 rfl ft_3_4 (fun t5 => ?_)
  refine xo_aload_n rfl rfl dX3_init_29 ?_
  refine xo_bipush kb_6 dX3_init_30 ?_
  refine xo_newai (mk_w1 (i := 65) rfl rfl) dX3_init_32 (fun z6 _ => ?_)
  refine xo_puta dX3_init_34 cl_3 ⟨RX3, TX3, 12, rfl, by decide, (mk_w1 (i := 124) rfl rfl)⟩ rfl ft_3_5 (fun _ => rfl) (fun _ => rfl) rfl rfl (fun t7 => ?_)
  refine xo_aload_n rfl rfl dX3_init_37 ?_
  refine xo_bipush kb_6 dX3_init_38 ?_
  refine xo_newai (mk_w1 (i := 65) rfl rfl) dX3_init_40 (fun z8 _ => ?_)
  refine xo_puta dX3_init_42 cl_3 ⟨RX3, TX3, 12, rfl, by decide, (mk_w1 (i := 127) rfl rfl)⟩ rfl ft_3_6 (fun _ => rfl) (fun _ => rfl) rfl rfl (fun t9 => ?_)
  refine xo_aload_n rfl rfl dX3_init_45 ?_
  refine xo_bipush kb_6 dX3_init_46 ?_
  refine xo_newai (mk_w1 (i := 65) rfl rfl) dX3_init_48 (fun z10 _ => ?_)
  refine xo_puta dX3_init_50 cl_3 ⟨RX3, TX3, 12, rfl, by decide, (mk_w1 (i := 131) rfl rfl)⟩ rfl ft_3_7 (fun _ => rfl) (fun _ => rfl) rfl rfl (fun t11 => ?_)
  refine xo_aload_n rfl rfl dX3_init_53 ?_
  refine xo_iconst kc_4 dX3_init_54 ?_
  refine xo_newai (mk_w1 (i := 65) rfl rfl) dX3_init_55 (fun z12 _ => ?_)
  refine xo_puta dX3_init_57 cl_3 ⟨RX3, TX3, 12, rfl, by decide, (mk_w1 (i := 134) rfl rfl)⟩ rfl ft_3_8 (fun _ => rfl) (fun _ => rfl) rfl rfl (fun t13 => ?_)
  refine xo_aload_n rfl rfl dX3_init_60 ?_
  refine xo_iconst kc_4 dX3_init_61 ?_
  refine xo_newai (mk_w1 (i := 65) rfl rfl) dX3_init_62 (fun z14 _ => ?_)
  refine xo_puta dX3_init_64 cl_3 ⟨RX3, TX3, 12, rfl, by decide, (mk_w1 (i := 138) rfl rfl)⟩ rfl ft_3_9 (fun _ => rfl) (fun _ => rfl) rfl rfl (fun t15 => ?_)
  refine xo_aload_n rfl rfl dX3_init_67 ?_
  refine xo_iconst kc_4 dX3_init_68 ?_
  refine xo_newai (mk_w1 (i := 65) rfl rfl) dX3_init_69 (fun z16 _ => ?_)
  refine xo_puta dX3_init_71 cl_3 ⟨RX3, TX3, 12, rfl, by decide, (mk_w1 (i := 142) rfl rfl)⟩ rfl ft_3_10 (fun _ => rfl) (fun _ => rfl) rfl rfl (fun t17 => ?_)
  refine xo_aload_n rfl rfl dX3_init_74 ?_
  refine xo_iconst kc_4 dX3_init_75 ?_
  refine xo_newai (mk_w1 (i := 65) rfl rfl) dX3_init_76 (fun z18 _ => ?_)
  refine xo_puta dX3_init_78 cl_3 ⟨RX3, TX3, 12, rfl, by decide, (mk_w1 (i := 146) rfl rfl)⟩ rfl ft_3_11 (fun _ => rfl) (fun _ => rfl) rfl rfl (fun t19 => ?_)
  exact xo_vret dX3_init_81 rfl
theorem c_X3_init (x0 : Nat) (t : mk_S) (z : Unit × mk_S) (h : F_X3_init x0 t = some z) : mk_is t x0 3 ∧ mk_Ct M_X3_init [.ref x0] t (mk_wu z.1, z.2) :=
  ⟨(mk_gd_spec h).1, mk_ct (w := mk_wu) (by decide +kernel) (Nat.le_of_ble_eq_true rfl) (p_X3_init x0 t) z (mk_gd_spec h).2⟩
def F_X10_init (x0 : Nat) (t : mk_S) : Option (Unit × mk_S) := mk_gd t x0 9 ((mk_new t 3 12).bind fun z1 => (F_X3_init z1.1 z1.2).bind fun z2 => (mk_pa z2.2 x0 9 0 z1.1).bind fun t3 => if z1.1 < z2.2.1.length then (mk_new t3 6 9).bind fun z4 => (F_X7_init z4.1 z4.2).bind fun z5 => (mk_pa z5.2 x0 9 1 z4.1).bind fun t6 => if z4.1 < z5.2.1.length then (mk_new t6 0 3).bind fun z7 => (F_X0_init z7.1 z7.2).bind fun z8 => (mk_pa z8.2 x0 9 2 z7.1).bind fun t9 => if z7.1 < z8.2.1.length then (mk_new t9 1 4).bind fun z10 => (F_X1_init z10.1 z10.2).bind fun z11 => (mk_pa z11.2 x0 9 3 z10.1).bind fun t12 => if z10.1 < z11.2.1.length then (mk_pi t12 x0 9 4 (-1 : Int32)).bind fun t13 => (mk_pi t13 x0 9 5 (0 : Int32)).bind fun t14 => some ((), t14) else none else none else none else none)
theorem p_X10_init (x0 : Nat) (t : mk_S) : mk_O mk_wu M_X10_init 0 [some (.ref x0)] [] t ((mk_new t 3 12).bind fun z1 => (F_X3_init z1.1 z1.2).bind fun z2 => (mk_pa z2.2 x0 9 0 z1.1).bind fun t3 => if z1.1 < z2.2.1.length then (mk_new t3 6 9).bind fun z4 => (F_X7_init z4.1 z4.2).bind fun z5 => (mk_pa z5.2 x0 9 1 z4.1).bind fun t6 => if z4.1 < z5.2.1.length then (mk_new t6 0 3).bind fun z7 => (F_X0_init z7.1 z7.2).bind fun z8 => (mk_pa z8.2 x0 9 2 z7.1).bind fun t9 => if z7.1 < z8.2.1.length then (mk_new t9 1 4).bind fun z10 => (F_X1_init z10.1 z10.2).bind fun z11 => (mk_pa z11.2 x0 9 3 z10.1).bind fun t12 => if z10.1 < z11.2.1.length then (mk_pi t12 x0 9 4 (-1 : Int32)).bind fun t13 => (mk_pi t13 x0 9 5 (0 : Int32)).bind fun t14 => some ((), t14) else none else none else none else none) := by
  refine xo_aload_n rfl rfl dX10_init_0 ?_
  refine xo_obj lo_RX10_3 (by decide) (Nat.le_of_ble_eq_true rfl) dX10_init_1 ?_
  refine xo_aload_n rfl rfl dX10_init_4 ?_
  refine xo_new dX10_init_5 cl_3 ln_RX10_9 (fun z1 _ => ?_)
  refine xo_dup rfl dX10_init_8 ?_
  refine mk_O.callI (N := M_X3_init) (b := z1.1) (As1 := []) (S := [.ref z1.1, .ref x0]) md_X3_init rfl rfl mi_X3_init lk_RX10_11 rfl (Nat.le_of_ble_eq_true rfl) (by decide) dX10_init_9 rfl (fun z hz => (c_X3_init z1.1 z1.2 z hz).2) (fun z2 _ => ?_)
  show mk_O _ _ _ _ [.ref z1.1, .ref x0] _ _
  refine xo_puta dX10_init_12 cl_9 ⟨RX10, TX10, 6, rfl, by decide, (mk_w2 (i := 49) rfl rfl)⟩ rfl ft_9_0 (fun _ => rfl) (fun _ => rfl) rfl rfl (fun t3 => ?_)
  refine xo_aload_n rfl rfl dX10_init_15 ?_
  refine xo_new dX10_init_16 cl_6 ln_RX10_18 (fun z4 _ => ?_)
  refine xo_dup rfl dX10_init_19 ?_
  refine mk_O.callI (N := M_X7_init) (b := z4.1) (As1 := []) (S := [.ref z4.1, .ref x0]) md_X7_init rfl rfl mi_X7_init lk_RX10_20 rfl (Nat.le_of_ble_eq_true rfl) (by decide) dX10_init_20 rfl (fun z hz => (c_X7_init z4.1 z4.2 z hz).2) (fun z5 _ => ?_)
  show mk_O _ _ _ _ [.ref z4.1, .ref x0] _ _
  refine xo_puta dX10_init_23 cl_9 ⟨RX10, TX10, 6, rfl, by decide, (mk_w2 (i := 52) rfl rfl)⟩ rfl ft_9_1 (fun _ => rfl) (fun _ => rfl) rfl rfl (fun t6 => ?_)
  refine xo_aload_n rfl rfl dX10_init_26 ?_
  refine xo_new dX10_init_27 cl_0 ln_RX10_25 (fun z7 _ => ?_)
  refine xo_dup rfl dX10_init_30 ?_
  refine mk_O.callI (N := M_X0_init) (b := z7.1) (As1 := []) (S := [.ref z7.1, .ref x0]) md_X0_init rfl rfl mi_X0_init lk_RX10_27 rfl (Nat.le_of_ble_eq_true rfl) (by decide) dX10_init_31 rfl (fun z hz => (c_X0_init z7.1 z7.2 z hz).2) (fun z8 _ => ?_)
  show mk_O _ _ _ _ [.ref z7.1, .ref x0] _ _
  refine xo_puta dX10_init_34 cl_9 ⟨RX10, TX10, 6, rfl, by decide, (mk_w2 (i := 55) rfl rfl)⟩ rfl ft_9_2 (fun _ => rfl) (fun _ => rfl) rfl rfl (fun t9 => ?_)
  refine xo_aload_n rfl rfl dX10_init_37 ?_
  refine xo_new dX10_init_38 cl_1 ln_RX10_32 (fun z10 _ => ?_)
  refine xo_dup rfl dX10_init_41 ?_
  refine mk_O.callI (N := M_X1_init) (b := z10.1) (As1 := []) (S := [.ref z10.1, .ref x0]) md_X1_init rfl rfl mi_X1_init lk_RX10_34 rfl (Nat.le_of_ble_eq_true rfl) (by decide) dX10_init_42 rfl (fun z hz => (c_X1_init z10.1 z10.2 z hz).2) (fun z11 _ => ?_)
  show mk_O _ _ _ _ [.ref z10.1, .ref x0] _ _
  refine xo_puta dX10_init_45 cl_9 ⟨RX10, TX10, 6, rfl, by decide, (mk_w2 (i := 57) rfl rfl)⟩ rfl ft_9_3 (fun _ => rfl) (fun _ => rfl) rfl rfl (fun t12 => ?_)
  refine xo_aload_n rfl rfl dX10_init_48 ?_
  refine xo_iconst kc_m1 dX10_init_49 ?_
  refine xo_puti dX10_init_50 cl_9 fl_RX10_39 rfl ft_9_4 (fun t13 => ?_)
  refine xo_aload_n rfl rfl dX10_init_53 ?_
  refine xo_iconst kc_0 dX10_init_54 ?_
  refine xo_puti dX10_init_55 cl_9 fl_RX10_43 rfl ft_9_5 (fun t14 => ?_)
  exact xo_vret dX10_init_58 rfl
theorem c_X10_init (x0 : Nat) (t : mk_S) (z : Unit × mk_S) (h : F_X10_init x0 t = some z) : mk_is t x0 9 ∧ mk_Ct M_X10_init [.ref x0] t (mk_wu z.1, z.2) :=
  ⟨(mk_gd_spec h).1, mk_ct (w := mk_wu) (by decide +kernel) (Nat.le_of_ble_eq_true rfl) (p_X10_init x0 t) z (mk_gd_spec h).2⟩
def F_X9_init (x0 : Nat) (t : mk_S) : Option (Unit × mk_S) := mk_gd t x0 8 ((mk_na 101 t (12 : Int32)).bind fun z1 => (mk_pa z1.2 x0 8 0 z1.1).bind fun t2 => if z1.1 < z1.2.1.length then some ((), t2) else none)
theorem p_X9_init (x0 : Nat) (t : mk_S) : mk_O mk_wu M_X9_init 0 [some (.ref x0)] [] t ((mk_na 101 t (12 : Int32)).bind fun z1 => (mk_pa z1.2 x0 8 0 z1.1).bind fun t2 => if z1.1 < z1.2.1.length then some ((), t2) else none) := by
  refine xo_aload_n rfl rfl dX9_init_0 ?_
  refine xo_obj lo_RX9_3 (by decide) (Nat.le_of_ble_eq_true rfl) dX9_init_1 ?_
  refine xo_aload_n rfl rfl dX9_init_4 ?_
  refine xo_bipush kb_12 dX9_init_5 ?_
  refine xo_newal (mk_w2 (i := 91) rfl rfl) dX9_init_7 (fun z1 _ => ?_)
  refine xo_puta dX9_init_9 cl_8 ⟨RX9, TX9, 1, rfl, by decide, (mk_w2 (i := 87) rfl rfl)⟩ rfl ft_8_0 (fun _ => rfl) (fun _ => rfl) rfl rfl (fun t2 => ?_)
  exact xo_vret dX9_init_12 rfl
theorem c_X9_init (x0 : Nat) (t : mk_S) (z : Unit × mk_S) (h : F_X9_init x0 t = some z) : mk_is t x0 8 ∧ mk_Ct M_X9_init [.ref x0] t (mk_wu z.1, z.2) :=
  ⟨(mk_gd_spec h).1, mk_ct (w := mk_wu) (by decide +kernel) (Nat.le_of_ble_eq_true rfl) (p_X9_init x0 t) z (mk_gd_spec h).2⟩
def F_X5_init (x0 : Nat) (t : mk_S) : Option (Unit × mk_S) := mk_gd t x0 4 ((mk_na 100 t (400 : Int32)).bind fun z1 => (mk_pa z1.2 x0 4 0 z1.1).bind fun t2 => if z1.1 < z1.2.1.length then (mk_na 100 t2 (400 : Int32)).bind fun z3 => (mk_pa z3.2 x0 4 1 z3.1).bind fun t4 => if z3.1 < z3.2.1.length then (mk_pi t4 x0 4 2 (0 : Int32)).bind fun t5 => (mk_pi t5 x0 4 3 (0 : Int32)).bind fun t6 => (mk_na 100 t6 (12 : Int32)).bind fun z7 => (mk_pa z7.2 x0 4 4 z7.1).bind fun t8 => if z7.1 < z7.2.1.length then (mk_na 100 t8 (12 : Int32)).bind fun z9 => (mk_pa z9.2 x0 4 5 z9.1).bind fun t10 => if z9.1 < z9.2.1.length then (mk_na 100 t10 (12 : Int32)).bind fun z11 => (mk_pa z11.2 x0 4 6 z11.1).bind fun t12 => if z11.1 < z11.2.1.length then (mk_na 101 t12 (60 : Int32)).bind fun z13 => (mk_pa z13.2 x0 4 7 z13.1).bind fun t14 => if z13.1 < z13.2.1.length then some ((), t14) else none else none else none else none else none else none)
theorem p_X5_init (x0 : Nat) (t : mk_S) : mk_O mk_wu M_X5_init 0 [some (.ref x0)] [] t ((mk_na 100 t (400 : Int32)).bind fun z1 => (mk_pa z1.2 x0 4 0 z1.1).bind fun t2 => if z1.1 < z1.2.1.length then (mk_na 100 t2 (400 : Int32)).bind fun z3 => (mk_pa z3.2 x0 4 1 z3.1).bind fun t4 => if z3.1 < z3.2.1.length then (mk_pi t4 x0 4 2 (0 : Int32)).bind fun t5 => (mk_pi t5 x0 4 3 (0 : Int32)).bind fun t6 => (mk_na 100 t6 (12 : Int32)).bind fun z7 => (mk_pa z7.2 x0 4 4 z7.1).bind fun t8 => if z7.1 < z7.2.1.length then (mk_na 100 t8 (12 : Int32)).bind fun z9 => (mk_pa z9.2 x0 4 5 z9.1).bind fun t10 => if z9.1 < z9.2.1.length then (mk_na 100 t10 (12 : Int32)).bind fun z11 => (mk_pa z11.2 x0 4 6 z11.1).bind fun t12 => if z11.1 < z11.2.1.length then (mk_na 101 t12 (60 : Int32)).bind fun z13 => (mk_pa z13.2 x0 4 7 z13.1).bind fun t14 => if z13.1 < z13.2.1.length then some ((), t14) else none else none else none else none else none else none) := by
  refine xo_aload_n rfl rfl dX5_init_0 ?_
  refine xo_obj lo_RX5_3 (by decide) (Nat.le_of_ble_eq_true rfl) dX5_init_1 ?_
  refine xo_aload_n rfl rfl dX5_init_4 ?_
  refine xo_sipush ks_400 dX5_init_5 ?_
  refine xo_newai (mk_w1 (i := 65) rfl rfl) dX5_init_8 (fun z1 _ => ?_)
  refine xo_puta dX5_init_10 cl_4 ⟨RX5, TX5, 8, rfl, by decide, (mk_w2 (i := 101) rfl rfl)⟩ rfl ft_4_0 (fun _ => rfl) (fun _ => rfl) rfl rfl (fun t2 => ?_)
  refine xo_aload_n rfl rfl dX5_init_13 ?_
  refine xo_sipush ks_400 dX5_init_14 ?_
  refine xo_newai (mk_w1 (i := 65) rfl rfl) dX5_init_17 (fun z3 _ => ?_)
  refine xo_puta dX5_init_19 cl_4 ⟨RX5, TX5, 8, rfl, by decide, (mk_w2 (i := 102) rfl rfl)⟩ rfl ft_4_1 (fun _ => rfl) (fun _ => rfl) rfl rfl (fun t4 => ?_)
  refine xo_aload_n rfl rfl dX5_init_22 ?_
  refine xo_iconst kc_0 dX5_init_23 ?_
  refine xo_puti dX5_init_24 cl_4 fl_RX5_18 rfl ft_4_2 (fun t5 => ?_)
  refine xo_aload_n rfl rfl dX5_init_27 ?_
  refine xo_iconst kc_0 dX5_init_28 ?_
  refine xo_puti dX5_init_29 cl_4 fl_RX5_22 rfl ft_4_3 (fun t6 => ?_)
  refine xo_aload_n rfl rfl dX5_init_32 ?_
  refine xo_bipush kb_12 dX5_init_33 ?_
  refine xo_newai (mk_w1 (i := 65) rfl rfl) dX5_init_35 (fun z7 _ => ?_)
  refine xo_puta dX5_init_37 cl_4 ⟨RX5, TX5, 8, rfl, by decide, (mk_w2 (i := 107) rfl rfl)⟩ rfl ft_4_4 (fun _ => rfl) (fun _ => rfl) rfl rfl (fun t8 => ?_)
  refine xo_aload_n rfl rfl dX5_init_40 ?_
  refine xo_bipush kb_12 dX5_init_41 ?_
  refine xo_newai (mk_w1 (i := 65) rfl rfl) dX5_init_43 (fun z9 _ => ?_)
  refine xo_puta dX5_init_45 cl_4 ⟨RX5, TX5, 8, rfl, by decide, (mk_w2 (i := 108) rfl rfl)⟩ rfl ft_4_5 (fun _ => rfl) (fun _ => rfl) rfl rfl (fun t10 => ?_)
  refine xo_aload_n rfl rfl dX5_init_48 ?_
  refine xo_bipush kb_12 dX5_init_49 ?_
  refine xo_newai (mk_w1 (i := 65) rfl rfl) dX5_init_51 (fun z11 _ => ?_)
  refine xo_puta dX5_init_53 cl_4 ⟨RX5, TX5, 8, rfl, by decide, (mk_w2 (i := 109) rfl rfl)⟩ rfl ft_4_6 (fun _ => rfl) (fun _ => rfl) rfl rfl (fun t12 => ?_)
  refine xo_aload_n rfl rfl dX5_init_56 ?_
  refine xo_bipush kb_60 dX5_init_57 ?_
  refine xo_newal (mk_w2 (i := 91) rfl rfl) dX5_init_59 (fun z13 _ => ?_)
  refine xo_puta dX5_init_61 cl_4 ⟨RX5, TX5, 8, rfl, by decide, (mk_w2 (i := 110) rfl rfl)⟩ rfl ft_4_7 (fun _ => rfl) (fun _ => rfl) rfl rfl (fun t14 => ?_)
  exact xo_vret dX5_init_64 rfl
theorem c_X5_init (x0 : Nat) (t : mk_S) (z : Unit × mk_S) (h : F_X5_init x0 t = some z) : mk_is t x0 4 ∧ mk_Ct M_X5_init [.ref x0] t (mk_wu z.1, z.2) :=
  ⟨(mk_gd_spec h).1, mk_ct (w := mk_wu) (by decide +kernel) (Nat.le_of_ble_eq_true rfl) (p_X5_init x0 t) z (mk_gd_spec h).2⟩
def B_X2_init_117 : Nat → Nat → Int32 → mk_S → Option (Unit × mk_S)
  | 0, _, _, _ => none
  | n + 1, x0, x1, t => if (6 : Int32) ≤ x1 then (some ((), t)) else ((mk_ga t x0 2 1).bind fun v1 => (mk_new t 4 8).bind fun z2 => (F_X5_init z2.1 z2.2).bind fun z3 => (mk_sta (100 + 5) 4 z3.2 v1 x1 z2.1).bind fun t4 => B_X2_init_117 n x0 (x1 + (1 : Int32)) t4)
def F_X2_init (x0 : Nat) (t : mk_S) : Option (Unit × mk_S) := mk_gd t x0 2 ((mk_new t 9 6).bind fun z1 => (F_X10_init z1.1 z1.2).bind fun z2 => (mk_pa z2.2 x0 2 0 z1.1).bind fun t3 => if z1.1 < z2.2.1.length then (mk_na (100 + 5) t3 (6 : Int32)).bind fun z4 => (mk_pa z4.2 x0 2 1 z4.1).bind fun t5 => if z4.1 < z4.2.1.length then (mk_pi t5 x0 2 2 (0 : Int32)).bind fun t6 => (mk_new t6 8 1).bind fun z7 => (F_X9_init z7.1 z7.2).bind fun z8 => (mk_pa z8.2 x0 2 3 z7.1).bind fun t9 => if z7.1 < z8.2.1.length then (mk_new t9 6 9).bind fun z10 => (F_X7_init z10.1 z10.2).bind fun z11 => (mk_pa z11.2 x0 2 4 z10.1).bind fun t12 => if z10.1 < z11.2.1.length then (mk_na 100 t12 (36 : Int32)).bind fun z13 => (mk_pa z13.2 x0 2 5 z13.1).bind fun t14 => if z13.1 < z13.2.1.length then (mk_na 100 t14 (6 : Int32)).bind fun z15 => (mk_pa z15.2 x0 2 6 z15.1).bind fun t16 => if z15.1 < z15.2.1.length then (mk_na 100 t16 (16 : Int32)).bind fun z17 => (mk_pa z17.2 x0 2 7 z17.1).bind fun t18 => if z17.1 < z17.2.1.length then (mk_na 100 t18 (16 : Int32)).bind fun z19 => (mk_pa z19.2 x0 2 8 z19.1).bind fun t20 => if z19.1 < z19.2.1.length then (mk_mna t20 (7 : Int32) (36 : Int32)).bind fun z21 => (mk_pa z21.2 x0 2 9 z21.1).bind fun t22 => if z21.1 < z21.2.1.length then (mk_pi t22 x0 2 10 (-1 : Int32)).bind fun t23 => (mk_pi t23 x0 2 11 (0 : Int32)).bind fun t24 => (mk_pi t24 x0 2 12 (0 : Int32)).bind fun t25 => (mk_pi t25 x0 2 13 (0 : Int32)).bind fun t26 => B_X2_init_117 mk_fu x0 (0 : Int32) t26 else none else none else none else none else none else none else none else none else none)
theorem o_X2_init_117 : ∀ (n : Nat) (x0 : Nat) (x1 : Int32) (t : mk_S), mk_O mk_wu M_X2_init 117 [some (.ref x0), some (.int x1)] [] t (B_X2_init_117 n x0 x1 t) := by
  intro n
  induction n with
  | zero =>
    intro x0 x1 t
    exact mk_O.none
  | succ n ih =>
    intro x0 x1 t
    rw [B_X2_init_117]
    refine xo_iload_n rfl rfl dX2_init_117 ?_
    refine xo_bipush kb_6 dX2_init_118 ?_
    refine xo_icmp_ge (tgt := 142) dX2_init_120 rfl (fun _ => ?_) (fun _ => ?_)
    · exact xo_vret dX2_init_142 rfl
    · refine xo_aload_n rfl rfl dX2_init_123 ?_
      refine xo_geta dX2_init_124 cl_2 fl_RX2_20 rfl (fun v1 => ?_)
      refine xo_iload_n rfl rfl dX2_init_127 ?_
      refine xo_new dX2_init_128 cl_4 ln_RX2_18 (fun z2 _ => ?_)
      refine xo_dup rfl dX2_init_131 ?_
      refine mk_O.callI (N := M_X5_init) (b := z2.1) (As1 := []) (S := [.ref z2.1, .int x1, .ref v1]) md_X5_init rfl rfl mi_X5_init lk_RX2_72 rfl (Nat.le_of_ble_eq_true rfl) (by decide) dX2_init_132 rfl (fun z hz => (c_X5_init z2.1 z2.2 z hz).2) (fun z3 _ => ?_)
      show mk_O _ _ _ _ [.ref z2.1, .int x1, .ref v1] _ _
      refine xo_aast (j := 5) (ci := 4) (by decide) (by decide) (rfl : vwCl[4]? = some (RX5, TX5, 8)) rfl dX2_init_135 (fun t4 => ?_)
      refine xo_iinc rfl (congrArg _ kc_1) (by decide) (mk_p1_v rfl rfl) dX2_init_136 ?_
      refine xo_goto (tgt := 117) dX2_init_139 rfl ?_
      exact mk_O.wk (ih x0 (x1 + (1 : Int32)) t4) ⟨rfl, ⟨rfl, trivial⟩⟩
theorem p_X2_init (x0 : Nat) (t : mk_S) : mk_O mk_wu M_X2_init 0 [some (.ref x0), none] [] t ((mk_new t 9 6).bind fun z1 => (F_X10_init z1.1 z1.2).bind fun z2 => (mk_pa z2.2 x0 2 0 z1.1).bind fun t3 => if z1.1 < z2.2.1.length then (mk_na (100 + 5) t3 (6 : Int32)).bind fun z4 => (mk_pa z4.2 x0 2 1 z4.1).bind fun t5 => if z4.1 < z4.2.1.length then (mk_pi t5 x0 2 2 (0 : Int32)).bind fun t6 => (mk_new t6 8 1).bind fun z7 => (F_X9_init z7.1 z7.2).bind fun z8 => (mk_pa z8.2 x0 2 3 z7.1).bind fun t9 => if z7.1 < z8.2.1.length then (mk_new t9 6 9).bind fun z10 => (F_X7_init z10.1 z10.2).bind fun z11 => (mk_pa z11.2 x0 2 4 z10.1).bind fun t12 => if z10.1 < z11.2.1.length then (mk_na 100 t12 (36 : Int32)).bind fun z13 => (mk_pa z13.2 x0 2 5 z13.1).bind fun t14 => if z13.1 < z13.2.1.length then (mk_na 100 t14 (6 : Int32)).bind fun z15 => (mk_pa z15.2 x0 2 6 z15.1).bind fun t16 => if z15.1 < z15.2.1.length then (mk_na 100 t16 (16 : Int32)).bind fun z17 => (mk_pa z17.2 x0 2 7 z17.1).bind fun t18 => if z17.1 < z17.2.1.length then (mk_na 100 t18 (16 : Int32)).bind fun z19 => (mk_pa z19.2 x0 2 8 z19.1).bind fun t20 => if z19.1 < z19.2.1.length then (mk_mna t20 (7 : Int32) (36 : Int32)).bind fun z21 => (mk_pa z21.2 x0 2 9 z21.1).bind fun t22 => if z21.1 < z21.2.1.length then (mk_pi t22 x0 2 10 (-1 : Int32)).bind fun t23 => (mk_pi t23 x0 2 11 (0 : Int32)).bind fun t24 => (mk_pi t24 x0 2 12 (0 : Int32)).bind fun t25 => (mk_pi t25 x0 2 13 (0 : Int32)).bind fun t26 => B_X2_init_117 mk_fu x0 (0 : Int32) t26 else none else none else none else none else none else none else none else none else none) := by
  refine xo_aload_n rfl rfl dX2_init_0 ?_
  refine xo_obj lo_RX2_3 (by decide) (Nat.le_of_ble_eq_true rfl) dX2_init_1 ?_
  refine xo_aload_n rfl rfl dX2_init_4 ?_
  refine xo_new dX2_init_5 cl_9 ln_RX2_9 (fun z1 _ => ?_)
  refine xo_dup rfl dX2_init_8 ?_
  refine mk_O.callI (N := M_X10_init) (b := z1.1) (As1 := []) (S := [.ref z1.1, .ref x0]) md_X10_init rfl rfl mi_X10_init lk_RX2_11 rfl (Nat.le_of_ble_eq_true rfl) (by decide) dX2_init_9 rfl (fun z hz => (c_X10_init z1.1 z1.2 z hz).2) (fun z2 _ => ?_)
  show mk_O _ _ _ _ [.ref z1.1, .ref x0] _ _
  refine xo_puta dX2_init_12 cl_2 ⟨RX2, TX2, 14, rfl, by decide, (mk_w2 (i := 128) rfl rfl)⟩ rfl ft_2_0 (fun _ => rfl) (fun _ => rfl) rfl rfl (fun t3 => ?_)
  refine xo_aload_n rfl rfl dX2_init_15 ?_
  refine xo_bipush kb_6 dX2_init_16 ?_
  refine xo_anew (j := 5) (by decide) (by decide) rfl (mk_w2 (i := 79) rfl rfl) (fun _ h => h.2.1) dX2_init_18 (fun z4 _ => ?_)
  refine xo_puta dX2_init_21 cl_2 ⟨RX2, TX2, 14, rfl, by decide, (mk_w2 (i := 130) rfl rfl)⟩ rfl ft_2_1 (fun _ => rfl) (fun _ => rfl) rfl rfl (fun t5 => ?_)
  refine xo_aload_n rfl rfl dX2_init_24 ?_
  refine xo_iconst kc_0 dX2_init_25 ?_
  refine xo_puti dX2_init_26 cl_2 fl_RX2_24 rfl ft_2_2 (fun t6 => ?_)
  refine xo_aload_n rfl rfl dX2_init_29 ?_
  refine xo_new dX2_init_30 cl_8 ln_RX2_28 (fun z7 _ => ?_)
  refine xo_dup rfl dX2_init_33 ?_
  refine mk_O.callI (N := M_X9_init) (b := z7.1) (As1 := []) (S := [.ref z7.1, .ref x0]) md_X9_init rfl rfl mi_X9_init lk_RX2_30 rfl (Nat.le_of_ble_eq_true rfl) (by decide) dX2_init_34 rfl (fun z hz => (c_X9_init z7.1 z7.2 z hz).2) (fun z8 _ => ?_)
  show mk_O _ _ _ _ [.ref z7.1, .ref x0] _ _
  refine xo_puta dX2_init_37 cl_2 ⟨RX2, TX2, 14, rfl, by decide, (mk_w2 (i := 134) rfl rfl)⟩ rfl ft_2_3 (fun _ => rfl) (fun _ => rfl) rfl rfl (fun t9 => ?_)
  refine xo_aload_n rfl rfl dX2_init_40 ?_
  refine xo_new dX2_init_41 cl_6 ln_RX2_35 (fun z10 _ => ?_)
  refine xo_dup rfl dX2_init_44 ?_
  refine mk_O.callI (N := M_X7_init) (b := z10.1) (As1 := []) (S := [.ref z10.1, .ref x0]) md_X7_init rfl rfl mi_X7_init lk_RX2_37 rfl (Nat.le_of_ble_eq_true rfl) (by decide) dX2_init_45 rfl (fun z hz => (c_X7_init z10.1 z10.2 z hz).2) (fun z11 _ => ?_)
  show mk_O _ _ _ _ [.ref z10.1, .ref x0] _ _
  refine xo_puta dX2_init_48 cl_2 ⟨RX2, TX2, 14, rfl, by decide, (mk_w2 (i := 136) rfl rfl)⟩ rfl ft_2_4 (fun _ => rfl) (fun _ => rfl) rfl rfl (fun t12 => ?_)
  refine xo_aload_n rfl rfl dX2_init_51 ?_
  refine xo_bipush kb_36 dX2_init_52 ?_
  refine xo_newai (mk_w1 (i := 65) rfl rfl) dX2_init_54 (fun z13 _ => ?_)
  refine xo_puta dX2_init_56 cl_2 ⟨RX2, TX2, 14, rfl, by decide, (mk_w2 (i := 137) rfl rfl)⟩ rfl ft_2_5 (fun _ => rfl) (fun _ => rfl) rfl rfl (fun t14 => ?_)
  refine xo_aload_n rfl rfl dX2_init_59 ?_
  refine xo_bipush kb_6 dX2_init_60 ?_
  refine xo_newai (mk_w1 (i := 65) rfl rfl) dX2_init_62 (fun z15 _ => ?_)
  refine xo_puta dX2_init_64 cl_2 ⟨RX2, TX2, 14, rfl, by decide, (mk_w2 (i := 138) rfl rfl)⟩ rfl ft_2_6 (fun _ => rfl) (fun _ => rfl) rfl rfl (fun t16 => ?_)
  refine xo_aload_n rfl rfl dX2_init_67 ?_
  refine xo_bipush kb_16 dX2_init_68 ?_
  refine xo_newai (mk_w1 (i := 65) rfl rfl) dX2_init_70 (fun z17 _ => ?_)
  refine xo_puta dX2_init_72 cl_2 ⟨RX2, TX2, 14, rfl, by decide, (mk_w2 (i := 139) rfl rfl)⟩ rfl ft_2_7 (fun _ => rfl) (fun _ => rfl) rfl rfl (fun t18 => ?_)
  refine xo_aload_n rfl rfl dX2_init_75 ?_
  refine xo_bipush kb_16 dX2_init_76 ?_
  refine xo_newai (mk_w1 (i := 65) rfl rfl) dX2_init_78 (fun z19 _ => ?_)
  refine xo_puta dX2_init_80 cl_2 ⟨RX2, TX2, 14, rfl, by decide, (mk_w2 (i := 140) rfl rfl)⟩ rfl ft_2_8 (fun _ => rfl) (fun _ => rfl) rfl rfl (fun t20 => ?_)
  refine xo_aload_n rfl rfl dX2_init_83 ?_
  refine xo_bipush kb_7 dX2_init_84 ?_
  refine xo_bipush kb_36 dX2_init_86 ?_
  refine xo_mna (mk_w2 (i := 94) rfl rfl) (mk_w1 (i := 65) rfl rfl) dX2_init_88 (fun z21 _ => ?_)
  refine xo_puta dX2_init_92 cl_2 ⟨RX2, TX2, 14, rfl, by decide, (mk_w2 (i := 141) rfl rfl)⟩ rfl ft_2_9 (fun _ => rfl) (fun _ => rfl) rfl rfl (fun t22 => ?_)
  refine xo_aload_n rfl rfl dX2_init_95 ?_
  refine xo_iconst kc_m1 dX2_init_96 ?_
  refine xo_puti dX2_init_97 cl_2 fl_RX2_60 rfl ft_2_10 (fun t23 => ?_)
  refine xo_aload_n rfl rfl dX2_init_100 ?_
  refine xo_iconst kc_0 dX2_init_101 ?_
  refine xo_puti dX2_init_102 cl_2 fl_RX2_63 rfl ft_2_11 (fun t24 => ?_)
  refine xo_aload_n rfl rfl dX2_init_105 ?_
  refine xo_iconst kc_0 dX2_init_106 ?_
  refine xo_puti dX2_init_107 cl_2 fl_RX2_66 rfl ft_2_12 (fun t25 => ?_)
  refine xo_aload_n rfl rfl dX2_init_110 ?_
  refine xo_iconst kc_0 dX2_init_111 ?_
  refine xo_puti dX2_init_112 cl_2 fl_RX2_69 rfl ft_2_13 (fun t26 => ?_)
  refine xo_iconst kc_0 dX2_init_115 ?_
  refine xo_istore_n rfl (by decide) (mk_p1_v rfl rfl) dX2_init_116 ?_
  exact mk_O.wk (o_X2_init_117 mk_fu x0 (0 : Int32) t26) ⟨rfl, ⟨rfl, trivial⟩⟩
theorem c_X2_init (x0 : Nat) (t : mk_S) (z : Unit × mk_S) (h : F_X2_init x0 t = some z) : mk_is t x0 2 ∧ mk_Ct M_X2_init [.ref x0] t (mk_wu z.1, z.2) :=
  ⟨(mk_gd_spec h).1, mk_ct (w := mk_wu) (by decide +kernel) (Nat.le_of_ble_eq_true rfl) (p_X2_init x0 t) z (mk_gd_spec h).2⟩
def B_X2_numbered_22 (t : mk_S) : Option (Option Nat × mk_S) := some (none, t)
def F_X2_numbered (x0 : Nat) (x1 : Int32) (t : mk_S) : Option (Option Nat × mk_S) := mk_gd t x0 2 (if x1 < 0 then (B_X2_numbered_22 t) else ((mk_ga t x0 2 1).bind fun v1 => (mk_len t v1).bind fun v2 => if v2 ≤ x1 then (B_X2_numbered_22 t) else ((mk_ga t x0 2 1).bind fun v3 => (mk_lda (100 + 5) t v3 x1).bind fun v4 => some ((some v4), t))))
theorem o_X2_numbered_22 (t : mk_S) : mk_O mk_wq M_X2_numbered 22 [none, none] [] t (B_X2_numbered_22  t) := by
  unfold B_X2_numbered_22
  refine xo_anull dX2_numbered_22 ?_
  exact xo_qret (r := none) dX2_numbered_23 rfl
theorem p_X2_numbered (x0 : Nat) (x1 : Int32) (t : mk_S) : mk_O mk_wq M_X2_numbered 0 [some (.ref x0), some (.int x1)] [] t (if x1 < 0 then (B_X2_numbered_22 t) else ((mk_ga t x0 2 1).bind fun v1 => (mk_len t v1).bind fun v2 => if v2 ≤ x1 then (B_X2_numbered_22 t) else ((mk_ga t x0 2 1).bind fun v3 => (mk_lda (100 + 5) t v3 x1).bind fun v4 => some ((some v4), t)))) := by
  refine xo_iload_n rfl rfl dX2_numbered_0 ?_
  refine xo_if_lt (tgt := 22) dX2_numbered_1 rfl (fun _ => ?_) (fun _ => ?_)
  · exact mk_O.wk (o_X2_numbered_22 t) trivial
  · refine xo_iload_n rfl rfl dX2_numbered_4 ?_
    refine xo_aload_n rfl rfl dX2_numbered_5 ?_
    refine xo_geta dX2_numbered_6 cl_2 fl_RX2_20 rfl (fun v1 => ?_)
    refine xo_alen dX2_numbered_9 (fun v2 => ?_)
    refine xo_icmp_ge (tgt := 22) dX2_numbered_10 rfl (fun _ => ?_) (fun _ => ?_)
    · exact mk_O.wk (o_X2_numbered_22 t) trivial
    · refine xo_aload_n rfl rfl dX2_numbered_13 ?_
      refine xo_geta dX2_numbered_14 cl_2 fl_RX2_20 rfl (fun v3 => ?_)
      refine xo_iload_n rfl rfl dX2_numbered_17 ?_
      refine xo_aald (j := 5) (by decide) (by decide) dX2_numbered_18 (fun v4 => ?_)
      refine xo_goto (tgt := 23) dX2_numbered_19 rfl ?_
      exact xo_qret (r := (some v4)) dX2_numbered_23 rfl
theorem c_X2_numbered (x0 : Nat) (x1 : Int32) (t : mk_S) (z : Option Nat × mk_S) (h : F_X2_numbered x0 x1 t = some z) : mk_is t x0 2 ∧ mk_Ct M_X2_numbered [.ref x0, .int x1] t (mk_wq z.1, z.2) :=
  ⟨(mk_gd_spec h).1, mk_ct (w := mk_wq) (by decide +kernel) (Nat.le_of_ble_eq_true rfl) (p_X2_numbered x0 x1 t) z (mk_gd_spec h).2⟩
def F_X2_inForce (x0 : Nat) (t : mk_S) : Option (Option Nat × mk_S) := mk_gd t x0 2 ((mk_ga t x0 2 0).bind fun v1 => (mk_gi t v1 9 4).bind fun v2 => (F_X2_numbered x0 v2 t).bind fun z3 => some (z3.1, z3.2))
theorem p_X2_inForce (x0 : Nat) (t : mk_S) : mk_O mk_wq M_X2_inForce 0 [some (.ref x0)] [] t ((mk_ga t x0 2 0).bind fun v1 => (mk_gi t v1 9 4).bind fun v2 => (F_X2_numbered x0 v2 t).bind fun z3 => some (z3.1, z3.2)) := by
  refine xo_aload_n rfl rfl dX2_inForce_0 ?_
  refine xo_aload_n rfl rfl dX2_inForce_1 ?_
  refine xo_geta dX2_inForce_2 cl_2 fl_RX2_12 rfl (fun v1 => ?_)
  refine xo_geti dX2_inForce_5 cl_9 fl_RX2_73 rfl (fun v2 => ?_)
  refine mk_O.callV (N := M_X2_numbered) (ci := 2) (q := (RX2, TX2, 14)) (b := x0) (As1 := [.int v2]) (S := []) md_X2_numbered mv_X2_numbered lk_RX2_76 rfl (Nat.le_of_ble_eq_true rfl) (by decide) dX2_inForce_8 rfl rfl rfl (fun z hz => (c_X2_numbered x0 v2 t z hz).1) (fun z hz => (c_X2_numbered x0 v2 t z hz).2) (fun z3 _ => ?_)
  show mk_O _ _ _ _ (va_rf z3.1 :: []) _ _
  exact xo_qret (r := z3.1) dX2_inForce_11 rfl
theorem c_X2_inForce (x0 : Nat) (t : mk_S) (z : Option Nat × mk_S) (h : F_X2_inForce x0 t = some z) : mk_is t x0 2 ∧ mk_Ct M_X2_inForce [.ref x0] t (mk_wq z.1, z.2) :=
  ⟨(mk_gd_spec h).1, mk_ct (w := mk_wq) (by decide +kernel) (Nat.le_of_ble_eq_true rfl) (p_X2_inForce x0 t) z (mk_gd_spec h).2⟩
def F_X7_urgeOn (x0 : Nat) (x1 : Int32) (x2 : Int32) (t : mk_S) : Option (Unit × mk_S) := mk_gd t x0 6 (if x1 < 0 then (some ((), t)) else (if (6 : Int32) ≤ x1 then (some ((), t)) else ((mk_ga t x0 6 2).bind fun v1 => (mk_ga t x0 6 2).bind fun v2 => (mk_ld 100 t v2 x1).bind fun v3 => (mk_st 100 t v1 x1 (if (v3 + x2) < (99 : Int32) then (v3 + x2) else (99 : Int32))).bind fun t4 => some ((), t4))))
theorem p_X7_urgeOn (x0 : Nat) (x1 : Int32) (x2 : Int32) (t : mk_S) : mk_O mk_wu M_X7_urgeOn 0 [some (.ref x0), some (.int x1), some (.int x2)] [] t (if x1 < 0 then (some ((), t)) else (if (6 : Int32) ≤ x1 then (some ((), t)) else ((mk_ga t x0 6 2).bind fun v1 => (mk_ga t x0 6 2).bind fun v2 => (mk_ld 100 t v2 x1).bind fun v3 => (mk_st 100 t v1 x1 (if (v3 + x2) < (99 : Int32) then (v3 + x2) else (99 : Int32))).bind fun t4 => some ((), t4)))) := by
  refine xo_iload_n rfl rfl dX7_urgeOn_0 ?_
  refine xo_if_lt (tgt := 29) dX7_urgeOn_1 rfl (fun _ => ?_) (fun _ => ?_)
  · exact xo_vret dX7_urgeOn_29 rfl
  · refine xo_iload_n rfl rfl dX7_urgeOn_4 ?_
    refine xo_bipush kb_6 dX7_urgeOn_5 ?_
    refine xo_icmp_ge (tgt := 29) dX7_urgeOn_7 rfl (fun _ => ?_) (fun _ => ?_)
    · exact xo_vret dX7_urgeOn_29 rfl
    · refine xo_aload_n rfl rfl dX7_urgeOn_10 ?_
      refine xo_geta dX7_urgeOn_11 cl_6 fl_RX7_18 rfl (fun v1 => ?_)
      refine xo_iload_n rfl rfl dX7_urgeOn_14 ?_
      refine xo_bipush kb_99 dX7_urgeOn_15 ?_
      refine xo_aload_n rfl rfl dX7_urgeOn_17 ?_
      refine xo_geta dX7_urgeOn_18 cl_6 fl_RX7_18 rfl (fun v2 => ?_)
      refine xo_iload_n rfl rfl dX7_urgeOn_21 ?_
      refine xo_iald dX7_urgeOn_22 (fun v3 => ?_)
      refine xo_iload_n rfl rfl dX7_urgeOn_23 ?_
      refine xo_iadd dX7_urgeOn_24 ?_
      refine xo_min lmin_RX7_56 (by decide) (Nat.le_of_ble_eq_true rfl) dX7_urgeOn_25 ?_
      refine xo_iast dX7_urgeOn_28 (fun t4 => ?_)
      exact xo_vret dX7_urgeOn_29 rfl
theorem c_X7_urgeOn (x0 : Nat) (x1 : Int32) (x2 : Int32) (t : mk_S) (z : Unit × mk_S) (h : F_X7_urgeOn x0 x1 x2 t = some z) : mk_is t x0 6 ∧ mk_Ct M_X7_urgeOn [.ref x0, .int x1, .int x2] t (mk_wu z.1, z.2) :=
  ⟨(mk_gd_spec h).1, mk_ct (w := mk_wu) (by decide +kernel) (Nat.le_of_ble_eq_true rfl) (p_X7_urgeOn x0 x1 x2 t) z (mk_gd_spec h).2⟩
def F_X3_rowOf (x0 : Nat) (x1 : Int32) (t : mk_S) : Option (Int32 × mk_S) := mk_gd t x0 3 ((mk_gi t x0 3 0).bind fun v1 => if v1 ≤ 0 then (some ((0 : Int32), t)) else ((mk_gi t x0 3 0).bind fun v2 => if v2 = 0 then none else some ((x1 / v2), t)))
theorem p_X3_rowOf (x0 : Nat) (x1 : Int32) (t : mk_S) : mk_O mk_wi M_X3_rowOf 0 [some (.ref x0), some (.int x1)] [] t ((mk_gi t x0 3 0).bind fun v1 => if v1 ≤ 0 then (some ((0 : Int32), t)) else ((mk_gi t x0 3 0).bind fun v2 => if v2 = 0 then none else some ((x1 / v2), t))) := by
  refine xo_aload_n rfl rfl dX3_rowOf_0 ?_
  refine xo_geti dX3_rowOf_1 cl_3 fl_RX3_9 rfl (fun v1 => ?_)
  refine xo_if_le (tgt := 16) dX3_rowOf_4 rfl (fun _ => ?_) (fun _ => ?_)
  · refine xo_iconst kc_0 dX3_rowOf_16 ?_
    exact xo_iret dX3_rowOf_17 rfl
  · refine xo_iload_n rfl rfl dX3_rowOf_7 ?_
    refine xo_aload_n rfl rfl dX3_rowOf_8 ?_
    refine xo_geti dX3_rowOf_9 cl_3 fl_RX3_9 rfl (fun v2 => ?_)
    refine xo_idiv dX3_rowOf_12 (fun _ => ?_)
    refine xo_goto (tgt := 17) dX3_rowOf_13 rfl ?_
    exact xo_iret dX3_rowOf_17 rfl
theorem c_X3_rowOf (x0 : Nat) (x1 : Int32) (t : mk_S) (z : Int32 × mk_S) (h : F_X3_rowOf x0 x1 t = some z) : mk_is t x0 3 ∧ mk_Ct M_X3_rowOf [.ref x0, .int x1] t (mk_wi z.1, z.2) :=
  ⟨(mk_gd_spec h).1, mk_ct (w := mk_wi) (by decide +kernel) (Nat.le_of_ble_eq_true rfl) (p_X3_rowOf x0 x1 t) z (mk_gd_spec h).2⟩
def F_X3_columnOf (x0 : Nat) (x1 : Int32) (t : mk_S) : Option (Int32 × mk_S) := mk_gd t x0 3 ((mk_gi t x0 3 0).bind fun v1 => if v1 ≤ 0 then (some ((0 : Int32), t)) else ((mk_gi t x0 3 0).bind fun v2 => if v2 = 0 then none else some ((x1 - x1 / v2 * v2), t)))
theorem p_X3_columnOf (x0 : Nat) (x1 : Int32) (t : mk_S) : mk_O mk_wi M_X3_columnOf 0 [some (.ref x0), some (.int x1)] [] t ((mk_gi t x0 3 0).bind fun v1 => if v1 ≤ 0 then (some ((0 : Int32), t)) else ((mk_gi t x0 3 0).bind fun v2 => if v2 = 0 then none else some ((x1 - x1 / v2 * v2), t))) := by
  refine xo_aload_n rfl rfl dX3_columnOf_0 ?_
  refine xo_geti dX3_columnOf_1 cl_3 fl_RX3_9 rfl (fun v1 => ?_)
  refine xo_if_le (tgt := 16) dX3_columnOf_4 rfl (fun _ => ?_) (fun _ => ?_)
  · refine xo_iconst kc_0 dX3_columnOf_16 ?_
    exact xo_iret dX3_columnOf_17 rfl
  · refine xo_iload_n rfl rfl dX3_columnOf_7 ?_
    refine xo_aload_n rfl rfl dX3_columnOf_8 ?_
    refine xo_geti dX3_columnOf_9 cl_3 fl_RX3_9 rfl (fun v2 => ?_)
    refine xo_irem dX3_columnOf_12 (fun _ => ?_)
    refine xo_goto (tgt := 17) dX3_columnOf_13 rfl ?_
    exact xo_iret dX3_columnOf_17 rfl
theorem c_X3_columnOf (x0 : Nat) (x1 : Int32) (t : mk_S) (z : Int32 × mk_S) (h : F_X3_columnOf x0 x1 t = some z) : mk_is t x0 3 ∧ mk_Ct M_X3_columnOf [.ref x0, .int x1] t (mk_wi z.1, z.2) :=
  ⟨(mk_gd_spec h).1, mk_ct (w := mk_wi) (by decide +kernel) (Nat.le_of_ble_eq_true rfl) (p_X3_columnOf x0 x1 t) z (mk_gd_spec h).2⟩
def B_X7_sum_10 : Nat → Int32 → Nat → Int32 → Int32 → mk_S → Option (Int32 × mk_S)
  | 0, _, _, _, _, _ => none
  | n + 1, x1, x2, x3, x4, t => if x3 ≤ x4 then (some (x1, t)) else ((mk_ld 100 t x2 x4).bind fun v1 => B_X7_sum_10 n (x1 + v1) x2 x3 (x4 + (1 : Int32)) t)
def F_X7_sum (x0 : Nat) (t : mk_S) : Option (Int32 × mk_S) := (mk_len t x0).bind fun v1 => B_X7_sum_10 mk_fu (0 : Int32) x0 v1 (0 : Int32) t
theorem o_X7_sum_10 : ∀ (n : Nat) (x1 : Int32) (x2 : Nat) (x3 : Int32) (x4 : Int32) (t : mk_S), mk_O mk_wi M_X7_sum 10 [none, some (.int x1), some (.ref x2), some (.int x3), some (.int x4), none] [] t (B_X7_sum_10 n x1 x2 x3 x4 t) := by
  intro n
  induction n with
  | zero =>
    intro x1 x2 x3 x4 t
    exact mk_O.none
  | succ n ih =>
    intro x1 x2 x3 x4 t
    rw [B_X7_sum_10]
    refine xo_iload rfl dX7_sum_10 ?_
    refine xo_iload_n rfl rfl dX7_sum_12 ?_
    refine xo_icmp_ge (tgt := 33) dX7_sum_13 rfl (fun _ => ?_) (fun _ => ?_)
    · refine xo_iload_n rfl rfl dX7_sum_33 ?_
      exact xo_iret dX7_sum_34 rfl
    · refine xo_aload_n rfl rfl dX7_sum_16 ?_
      refine xo_iload rfl dX7_sum_17 ?_
      refine xo_iald dX7_sum_19 (fun v1 => ?_)
      refine xo_istore (by decide) (mk_p1_v rfl rfl) dX7_sum_20 ?_
      refine xo_iload_n rfl rfl dX7_sum_22 ?_
      refine xo_iload rfl dX7_sum_23 ?_
      refine xo_iadd dX7_sum_25 ?_
      refine xo_istore_n rfl (by decide) (mk_p1_n rfl) dX7_sum_26 ?_
      refine xo_iinc rfl (congrArg _ kc_1) (by decide) (mk_p1_v rfl rfl) dX7_sum_27 ?_
      refine xo_goto (tgt := 10) dX7_sum_30 rfl ?_
      exact mk_O.wk (ih (x1 + v1) x2 x3 (x4 + (1 : Int32)) t) ⟨rfl, ⟨rfl, ⟨rfl, ⟨rfl, trivial⟩⟩⟩⟩
theorem p_X7_sum (x0 : Nat) (t : mk_S) : mk_O mk_wi M_X7_sum 0 [some (.ref x0), none, none, none, none, none] [] t ((mk_len t x0).bind fun v1 => B_X7_sum_10 mk_fu (0 : Int32) x0 v1 (0 : Int32) t) := by
  refine xo_iconst kc_0 dX7_sum_0 ?_
  refine xo_istore_n rfl (by decide) (mk_p1_v rfl rfl) dX7_sum_1 ?_
  refine xo_aload_n rfl rfl dX7_sum_2 ?_
  refine xo_astore_n rfl (by decide) (mk_p1_v rfl rfl) dX7_sum_3 ?_
  refine xo_aload_n rfl rfl dX7_sum_4 ?_
  refine xo_alen dX7_sum_5 (fun v1 => ?_)
  refine xo_istore_n rfl (by decide) (mk_p1_v rfl rfl) dX7_sum_6 ?_
  refine xo_iconst kc_0 dX7_sum_7 ?_
  refine xo_istore (by decide) (mk_p1_v rfl rfl) dX7_sum_8 ?_
  exact mk_O.wk (o_X7_sum_10 mk_fu (0 : Int32) x0 v1 (0 : Int32) t) ⟨rfl, ⟨rfl, ⟨rfl, ⟨rfl, trivial⟩⟩⟩⟩
theorem c_X7_sum (x0 : Nat) (t : mk_S) (z : Int32 × mk_S) (h : F_X7_sum x0 t = some z) : mk_Ct M_X7_sum [.ref x0] t (mk_wi z.1, z.2) :=
  mk_ct (w := mk_wi) (by decide +kernel) (Nat.le_of_ble_eq_true rfl) (p_X7_sum x0 t) z h
def F_X7_groundInAll (x0 : Nat) (t : mk_S) : Option (Int32 × mk_S) := mk_gd t x0 6 ((mk_ga t x0 6 5).bind fun v1 => (F_X7_sum v1 t).bind fun z2 => some (z2.1, z2.2))
theorem p_X7_groundInAll (x0 : Nat) (t : mk_S) : mk_O mk_wi M_X7_groundInAll 0 [some (.ref x0)] [] t ((mk_ga t x0 6 5).bind fun v1 => (F_X7_sum v1 t).bind fun z2 => some (z2.1, z2.2)) := by
  refine xo_aload_n rfl rfl dX7_groundInAll_0 ?_
  refine xo_geta dX7_groundInAll_1 cl_6 fl_RX7_27 rfl (fun v1 => ?_)
  refine mk_O.callS (N := M_X7_sum) (As := [.ref v1]) (S := []) md_X7_sum ms_X7_sum lk_RX7_62 rfl (Nat.le_of_ble_eq_true rfl) (by decide) dX7_groundInAll_4 rfl (fun z hz => c_X7_sum v1 t z hz) (fun z2 _ => ?_)
  show mk_O _ _ _ _ (.int z2.1 :: []) _ _
  exact xo_iret dX7_groundInAll_7 rfl
theorem c_X7_groundInAll (x0 : Nat) (t : mk_S) (z : Int32 × mk_S) (h : F_X7_groundInAll x0 t = some z) : mk_is t x0 6 ∧ mk_Ct M_X7_groundInAll [.ref x0] t (mk_wi z.1, z.2) :=
  ⟨(mk_gd_spec h).1, mk_ct (w := mk_wi) (by decide +kernel) (Nat.le_of_ble_eq_true rfl) (p_X7_groundInAll x0 t) z (mk_gd_spec h).2⟩
def F_J6_bitCount_0f7a4 (x0 : Int32) (t : mk_S) : Option (Int32 × mk_S) := some (((((((((x0 - (((x0.toUInt32 >>> ((1 : Int32).toUInt32 &&& Int32.toUInt32 31)).toInt32) &&& (1431655765 : Int32))) &&& (858993459 : Int32)) + ((((x0 - (((x0.toUInt32 >>> ((1 : Int32).toUInt32 &&& Int32.toUInt32 31)).toInt32) &&& (1431655765 : Int32))).toUInt32 >>> ((2 : Int32).toUInt32 &&& Int32.toUInt32 31)).toInt32) &&& (858993459 : Int32))) + (((((x0 - (((x0.toUInt32 >>> ((1 : Int32).toUInt32 &&& Int32.toUInt32 31)).toInt32) &&& (1431655765 : Int32))) &&& (858993459 : Int32)) + ((((x0 - (((x0.toUInt32 >>> ((1 : Int32).toUInt32 &&& Int32.toUInt32 31)).toInt32) &&& (1431655765 : Int32))).toUInt32 >>> ((2 : Int32).toUInt32 &&& Int32.toUInt32 31)).toInt32) &&& (858993459 : Int32))).toUInt32 >>> ((4 : Int32).toUInt32 &&& Int32.toUInt32 31)).toInt32)) &&& (252645135 : Int32)) + (((((((x0 - (((x0.toUInt32 >>> ((1 : Int32).toUInt32 &&& Int32.toUInt32 31)).toInt32) &&& (1431655765 : Int32))) &&& (858993459 : Int32)) + ((((x0 - (((x0.toUInt32 >>> ((1 : Int32).toUInt32 &&& Int32.toUInt32 31)).toInt32) &&& (1431655765 : Int32))).toUInt32 >>> ((2 : Int32).toUInt32 &&& Int32.toUInt32 31)).toInt32) &&& (858993459 : Int32))) + (((((x0 - (((x0.toUInt32 >>> ((1 : Int32).toUInt32 &&& Int32.toUInt32 31)).toInt32) &&& (1431655765 : Int32))) &&& (858993459 : Int32)) + ((((x0 - (((x0.toUInt32 >>> ((1 : Int32).toUInt32 &&& Int32.toUInt32 31)).toInt32) &&& (1431655765 : Int32))).toUInt32 >>> ((2 : Int32).toUInt32 &&& Int32.toUInt32 31)).toInt32) &&& (858993459 : Int32))).toUInt32 >>> ((4 : Int32).toUInt32 &&& Int32.toUInt32 31)).toInt32)) &&& (252645135 : Int32)).toUInt32 >>> ((8 : Int32).toUInt32 &&& Int32.toUInt32 31)).toInt32)) + ((((((((x0 - (((x0.toUInt32 >>> ((1 : Int32).toUInt32 &&& Int32.toUInt32 31)).toInt32) &&& (1431655765 : Int32))) &&& (858993459 : Int32)) + ((((x0 - (((x0.toUInt32 >>> ((1 : Int32).toUInt32 &&& Int32.toUInt32 31)).toInt32) &&& (1431655765 : Int32))).toUInt32 >>> ((2 : Int32).toUInt32 &&& Int32.toUInt32 31)).toInt32) &&& (858993459 : Int32))) + (((((x0 - (((x0.toUInt32 >>> ((1 : Int32).toUInt32 &&& Int32.toUInt32 31)).toInt32) &&& (1431655765 : Int32))) &&& (858993459 : Int32)) + ((((x0 - (((x0.toUInt32 >>> ((1 : Int32).toUInt32 &&& Int32.toUInt32 31)).toInt32) &&& (1431655765 : Int32))).toUInt32 >>> ((2 : Int32).toUInt32 &&& Int32.toUInt32 31)).toInt32) &&& (858993459 : Int32))).toUInt32 >>> ((4 : Int32).toUInt32 &&& Int32.toUInt32 31)).toInt32)) &&& (252645135 : Int32)) + (((((((x0 - (((x0.toUInt32 >>> ((1 : Int32).toUInt32 &&& Int32.toUInt32 31)).toInt32) &&& (1431655765 : Int32))) &&& (858993459 : Int32)) + ((((x0 - (((x0.toUInt32 >>> ((1 : Int32).toUInt32 &&& Int32.toUInt32 31)).toInt32) &&& (1431655765 : Int32))).toUInt32 >>> ((2 : Int32).toUInt32 &&& Int32.toUInt32 31)).toInt32) &&& (858993459 : Int32))) + (((((x0 - (((x0.toUInt32 >>> ((1 : Int32).toUInt32 &&& Int32.toUInt32 31)).toInt32) &&& (1431655765 : Int32))) &&& (858993459 : Int32)) + ((((x0 - (((x0.toUInt32 >>> ((1 : Int32).toUInt32 &&& Int32.toUInt32 31)).toInt32) &&& (1431655765 : Int32))).toUInt32 >>> ((2 : Int32).toUInt32 &&& Int32.toUInt32 31)).toInt32) &&& (858993459 : Int32))).toUInt32 >>> ((4 : Int32).toUInt32 &&& Int32.toUInt32 31)).toInt32)) &&& (252645135 : Int32)).toUInt32 >>> ((8 : Int32).toUInt32 &&& Int32.toUInt32 31)).toInt32)).toUInt32 >>> ((16 : Int32).toUInt32 &&& Int32.toUInt32 31)).toInt32)) &&& (63 : Int32)), t)
theorem p_J6_bitCount_0f7a4 (x0 : Int32) (t : mk_S) : mk_O mk_wi M_J6_bitCount_0f7a4 0 [some (.int x0)] [] t (some (((((((((x0 - (((x0.toUInt32 >>> ((1 : Int32).toUInt32 &&& Int32.toUInt32 31)).toInt32) &&& (1431655765 : Int32))) &&& (858993459 : Int32)) + ((((x0 - (((x0.toUInt32 >>> ((1 : Int32).toUInt32 &&& Int32.toUInt32 31)).toInt32) &&& (1431655765 : Int32))).toUInt32 >>> ((2 : Int32).toUInt32 &&& Int32.toUInt32 31)).toInt32) &&& (858993459 : Int32))) + (((((x0 - (((x0.toUInt32 >>> ((1 : Int32).toUInt32 &&& Int32.toUInt32 31)).toInt32) &&& (1431655765 : Int32))) &&& (858993459 : Int32)) + ((((x0 - (((x0.toUInt32 >>> ((1 : Int32).toUInt32 &&& Int32.toUInt32 31)).toInt32) &&& (1431655765 : Int32))).toUInt32 >>> ((2 : Int32).toUInt32 &&& Int32.toUInt32 31)).toInt32) &&& (858993459 : Int32))).toUInt32 >>> ((4 : Int32).toUInt32 &&& Int32.toUInt32 31)).toInt32)) &&& (252645135 : Int32)) + (((((((x0 - (((x0.toUInt32 >>> ((1 : Int32).toUInt32 &&& Int32.toUInt32 31)).toInt32) &&& (1431655765 : Int32))) &&& (858993459 : Int32)) + ((((x0 - (((x0.toUInt32 >>> ((1 : Int32).toUInt32 &&& Int32.toUInt32 31)).toInt32) &&& (1431655765 : Int32))).toUInt32 >>> ((2 : Int32).toUInt32 &&& Int32.toUInt32 31)).toInt32) &&& (858993459 : Int32))) + (((((x0 - (((x0.toUInt32 >>> ((1 : Int32).toUInt32 &&& Int32.toUInt32 31)).toInt32) &&& (1431655765 : Int32))) &&& (858993459 : Int32)) + ((((x0 - (((x0.toUInt32 >>> ((1 : Int32).toUInt32 &&& Int32.toUInt32 31)).toInt32) &&& (1431655765 : Int32))).toUInt32 >>> ((2 : Int32).toUInt32 &&& Int32.toUInt32 31)).toInt32) &&& (858993459 : Int32))).toUInt32 >>> ((4 : Int32).toUInt32 &&& Int32.toUInt32 31)).toInt32)) &&& (252645135 : Int32)).toUInt32 >>> ((8 : Int32).toUInt32 &&& Int32.toUInt32 31)).toInt32)) + ((((((((x0 - (((x0.toUInt32 >>> ((1 : Int32).toUInt32 &&& Int32.toUInt32 31)).toInt32) &&& (1431655765 : Int32))) &&& (858993459 : Int32)) + ((((x0 - (((x0.toUInt32 >>> ((1 : Int32).toUInt32 &&& Int32.toUInt32 31)).toInt32) &&& (1431655765 : Int32))).toUInt32 >>> ((2 : Int32).toUInt32 &&& Int32.toUInt32 31)).toInt32) &&& (858993459 : Int32))) + (((((x0 - (((x0.toUInt32 >>> ((1 : Int32).toUInt32 &&& Int32.toUInt32 31)).toInt32) &&& (1431655765 : Int32))) &&& (858993459 : Int32)) + ((((x0 - (((x0.toUInt32 >>> ((1 : Int32).toUInt32 &&& Int32.toUInt32 31)).toInt32) &&& (1431655765 : Int32))).toUInt32 >>> ((2 : Int32).toUInt32 &&& Int32.toUInt32 31)).toInt32) &&& (858993459 : Int32))).toUInt32 >>> ((4 : Int32).toUInt32 &&& Int32.toUInt32 31)).toInt32)) &&& (252645135 : Int32)) + (((((((x0 - (((x0.toUInt32 >>> ((1 : Int32).toUInt32 &&& Int32.toUInt32 31)).toInt32) &&& (1431655765 : Int32))) &&& (858993459 : Int32)) + ((((x0 - (((x0.toUInt32 >>> ((1 : Int32).toUInt32 &&& Int32.toUInt32 31)).toInt32) &&& (1431655765 : Int32))).toUInt32 >>> ((2 : Int32).toUInt32 &&& Int32.toUInt32 31)).toInt32) &&& (858993459 : Int32))) + (((((x0 - (((x0.toUInt32 >>> ((1 : Int32).toUInt32 &&& Int32.toUInt32 31)).toInt32) &&& (1431655765 : Int32))) &&& (858993459 : Int32)) + ((((x0 - (((x0.toUInt32 >>> ((1 : Int32).toUInt32 &&& Int32.toUInt32 31)).toInt32) &&& (1431655765 : Int32))).toUInt32 >>> ((2 : Int32).toUInt32 &&& Int32.toUInt32 31)).toInt32) &&& (858993459 : Int32))).toUInt32 >>> ((4 : Int32).toUInt32 &&& Int32.toUInt32 31)).toInt32)) &&& (252645135 : Int32)).toUInt32 >>> ((8 : Int32).toUInt32 &&& Int32.toUInt32 31)).toInt32)).toUInt32 >>> ((16 : Int32).toUInt32 &&& Int32.toUInt32 31)).toInt32)) &&& (63 : Int32)), t)) := by
  refine xo_iload_n rfl rfl dJ6_bitCount_0f7a4_0 ?_
  refine xo_iload_n rfl rfl dJ6_bitCount_0f7a4_1 ?_
  refine xo_iconst kc_1 dJ6_bitCount_0f7a4_2 ?_
  refine xo_iushr dJ6_bitCount_0f7a4_3 ?_
  refine xo_ldcw (v := 1431655765) (mk_w4 (i := 100) rfl rfl) dJ6_bitCount_0f7a4_4 ?_
  refine xo_iand dJ6_bitCount_0f7a4_7 ?_
  refine xo_isub dJ6_bitCount_0f7a4_8 ?_
  refine xo_istore_n rfl (by decide) mk_p1_0 dJ6_bitCount_0f7a4_9 ?_
  refine xo_iload_n rfl rfl dJ6_bitCount_0f7a4_10 ?_
  refine xo_ldcw (v := 858993459) (mk_w4 (i := 101) rfl rfl) dJ6_bitCount_0f7a4_11 ?_
  refine xo_iand dJ6_bitCount_0f7a4_14 ?_
  refine xo_iload_n rfl rfl dJ6_bitCount_0f7a4_15 ?_
  refine xo_iconst kc_2 dJ6_bitCount_0f7a4_16 ?_
  refine xo_iushr dJ6_bitCount_0f7a4_17 ?_
  refine xo_ldcw (v := 858993459) (mk_w4 (i := 101) rfl rfl) dJ6_bitCount_0f7a4_18 ?_
  refine xo_iand dJ6_bitCount_0f7a4_21 ?_
  refine xo_iadd dJ6_bitCount_0f7a4_22 ?_
  refine xo_istore_n rfl (by decide) mk_p1_0 dJ6_bitCount_0f7a4_23 ?_
  refine xo_iload_n rfl rfl dJ6_bitCount_0f7a4_24 ?_
  refine xo_iload_n rfl rfl dJ6_bitCount_0f7a4_25 ?_
  refine xo_iconst kc_4 dJ6_bitCount_0f7a4_26 ?_
  refine xo_iushr dJ6_bitCount_0f7a4_27 ?_
  refine xo_iadd dJ6_bitCount_0f7a4_28 ?_
  refine xo_ldcw (v := 252645135) (mk_w4 (i := 102) rfl rfl) dJ6_bitCount_0f7a4_29 ?_
  refine xo_iand dJ6_bitCount_0f7a4_32 ?_
  refine xo_istore_n rfl (by decide) mk_p1_0 dJ6_bitCount_0f7a4_33 ?_
  refine xo_iload_n rfl rfl dJ6_bitCount_0f7a4_34 ?_
  refine xo_iload_n rfl rfl dJ6_bitCount_0f7a4_35 ?_
  refine xo_bipush kb_8 dJ6_bitCount_0f7a4_36 ?_
  refine xo_iushr dJ6_bitCount_0f7a4_38 ?_
  refine xo_iadd dJ6_bitCount_0f7a4_39 ?_
  refine xo_istore_n rfl (by decide) mk_p1_0 dJ6_bitCount_0f7a4_40 ?_
  refine xo_iload_n rfl rfl dJ6_bitCount_0f7a4_41 ?_
  refine xo_iload_n rfl rfl dJ6_bitCount_0f7a4_42 ?_
  refine xo_bipush kb_16 dJ6_bitCount_0f7a4_43 ?_
  refine xo_iushr dJ6_bitCount_0f7a4_45 ?_
  refine xo_iadd dJ6_bitCount_0f7a4_46 ?_
  refine xo_istore_n rfl (by decide) mk_p1_0 dJ6_bitCount_0f7a4_47 ?_
  refine xo_iload_n rfl rfl dJ6_bitCount_0f7a4_48 ?_
  refine xo_bipush kb_63 dJ6_bitCount_0f7a4_49 ?_
  refine xo_iand dJ6_bitCount_0f7a4_51 ?_
  exact xo_iret dJ6_bitCount_0f7a4_52 rfl
theorem c_J6_bitCount_0f7a4 (x0 : Int32) (t : mk_S) (z : Int32 × mk_S) (h : F_J6_bitCount_0f7a4 x0 t = some z) : mk_Ct M_J6_bitCount_0f7a4 [.int x0] t (mk_wi z.1, z.2) :=
  mk_ct (w := mk_wi) (by decide +kernel) (Nat.le_of_ble_eq_true rfl) (p_J6_bitCount_0f7a4 x0 t) z h
def F_X9_tell (x0 : Nat) (x1 : Nat) (x2 : Nat) (x3 : Int32) (t : mk_S) : Option (Unit × mk_S) := mk_gd t x0 8 ((mk_ga t x0 8 0).bind fun v1 => (mk_stl t v1 (0 : Int32) ((x3).toInt64)).bind fun t2 => (mk_ga t2 x0 8 0).bind fun v3 => (mk_ga t2 x2 6 2).bind fun v4 => (mk_ld 100 t2 v4 x3).bind fun v5 => (mk_stl t2 v3 (1 : Int32) ((v5).toInt64)).bind fun t6 => (mk_ga t6 x0 8 0).bind fun v7 => (mk_ga t6 x1 3 6).bind fun v8 => (mk_ld 100 t6 v8 x3).bind fun v9 => (mk_stl t6 v7 (2 : Int32) ((v9).toInt64)).bind fun t10 => (mk_ga t10 x0 8 0).bind fun v11 => (mk_ga t10 x2 6 1).bind fun v12 => (mk_ld 100 t10 v12 x3).bind fun v13 => (mk_stl t10 v11 (3 : Int32) ((v13).toInt64)).bind fun t14 => (mk_ga t14 x0 8 0).bind fun v15 => (mk_ga t14 x2 6 0).bind fun v16 => (mk_ld 100 t14 v16 x3).bind fun v17 => (F_X3_rowOf x1 v17 t14).bind fun z18 => (mk_stl z18.2 v15 (4 : Int32) ((z18.1).toInt64)).bind fun t19 => (mk_ga t19 x0 8 0).bind fun v20 => (mk_ga t19 x2 6 0).bind fun v21 => (mk_ld 100 t19 v21 x3).bind fun v22 => (F_X3_columnOf x1 v22 t19).bind fun z23 => (mk_stl z23.2 v20 (5 : Int32) ((z23.1).toInt64)).bind fun t24 => (mk_ga t24 x0 8 0).bind fun v25 => (mk_ga t24 x2 6 0).bind fun v26 => (mk_ld 100 t24 v26 x3).bind fun v27 => (F_X7_windAt x2 v27 t24).bind fun z28 => (mk_stl z28.2 v25 (6 : Int32) ((z28.1).toInt64)).bind fun t29 => (mk_ga t29 x0 8 0).bind fun v30 => (mk_ga t29 x2 6 3).bind fun v31 => (mk_ld 100 t29 v31 x3).bind fun v32 => (mk_stl t29 v30 (7 : Int32) ((v32).toInt64)).bind fun t33 => (mk_ga t33 x0 8 0).bind fun v34 => (mk_ga t33 x2 6 4).bind fun v35 => (mk_ld 100 t33 v35 x3).bind fun v36 => (mk_stl t33 v34 (8 : Int32) ((v36).toInt64)).bind fun t37 => (mk_ga t37 x0 8 0).bind fun v38 => (F_X7_groundInAll x2 t37).bind fun z39 => (mk_stl z39.2 v38 (9 : Int32) ((z39.1).toInt64)).bind fun t40 => (mk_ga t40 x0 8 0).bind fun v41 => (mk_gi t40 x2 6 7).bind fun v42 => (F_J6_bitCount_0f7a4 v42 t40).bind fun z43 => (mk_stl z43.2 v41 (10 : Int32) ((z43.1).toInt64)).bind fun t44 => (mk_ga t44 x0 8 0).bind fun v45 => (mk_gi t44 x2 6 8).bind fun v46 => (mk_stl t44 v45 (11 : Int32) ((v46).toInt64)).bind fun t47 => some ((), t47))
theorem p_X9_tell (x0 : Nat) (x1 : Nat) (x2 : Nat) (x3 : Int32) (t : mk_S) : mk_O mk_wu M_X9_tell 0 [some (.ref x0), some (.ref x1), some (.ref x2), some (.int x3)] [] t ((mk_ga t x0 8 0).bind fun v1 => (mk_stl t v1 (0 : Int32) ((x3).toInt64)).bind fun t2 => (mk_ga t2 x0 8 0).bind fun v3 => (mk_ga t2 x2 6 2).bind fun v4 => (mk_ld 100 t2 v4 x3).bind fun v5 => (mk_stl t2 v3 (1 : Int32) ((v5).toInt64)).bind fun t6 => (mk_ga t6 x0 8 0).bind fun v7 => (mk_ga t6 x1 3 6).bind fun v8 => (mk_ld 100 t6 v8 x3).bind fun v9 => (mk_stl t6 v7 (2 : Int32) ((v9).toInt64)).bind fun t10 => (mk_ga t10 x0 8 0).bind fun v11 => (mk_ga t10 x2 6 1).bind fun v12 => (mk_ld 100 t10 v12 x3).bind fun v13 => (mk_stl t10 v11 (3 : Int32) ((v13).toInt64)).bind fun t14 => (mk_ga t14 x0 8 0).bind fun v15 => (mk_ga t14 x2 6 0).bind fun v16 => (mk_ld 100 t14 v16 x3).bind fun v17 => (F_X3_rowOf x1 v17 t14).bind fun z18 => (mk_stl z18.2 v15 (4 : Int32) ((z18.1).toInt64)).bind fun t19 => (mk_ga t19 x0 8 0).bind fun v20 => (mk_ga t19 x2 6 0).bind fun v21 => (mk_ld 100 t19 v21 x3).bind fun v22 => (F_X3_columnOf x1 v22 t19).bind fun z23 => (mk_stl z23.2 v20 (5 : Int32) ((z23.1).toInt64)).bind fun t24 => (mk_ga t24 x0 8 0).bind fun v25 => (mk_ga t24 x2 6 0).bind fun v26 => (mk_ld 100 t24 v26 x3).bind fun v27 => (F_X7_windAt x2 v27 t24).bind fun z28 => (mk_stl z28.2 v25 (6 : Int32) ((z28.1).toInt64)).bind fun t29 => (mk_ga t29 x0 8 0).bind fun v30 => (mk_ga t29 x2 6 3).bind fun v31 => (mk_ld 100 t29 v31 x3).bind fun v32 => (mk_stl t29 v30 (7 : Int32) ((v32).toInt64)).bind fun t33 => (mk_ga t33 x0 8 0).bind fun v34 => (mk_ga t33 x2 6 4).bind fun v35 => (mk_ld 100 t33 v35 x3).bind fun v36 => (mk_stl t33 v34 (8 : Int32) ((v36).toInt64)).bind fun t37 => (mk_ga t37 x0 8 0).bind fun v38 => (F_X7_groundInAll x2 t37).bind fun z39 => (mk_stl z39.2 v38 (9 : Int32) ((z39.1).toInt64)).bind fun t40 => (mk_ga t40 x0 8 0).bind fun v41 => (mk_gi t40 x2 6 7).bind fun v42 => (F_J6_bitCount_0f7a4 v42 t40).bind fun z43 => (mk_stl z43.2 v41 (10 : Int32) ((z43.1).toInt64)).bind fun t44 => (mk_ga t44 x0 8 0).bind fun v45 => (mk_gi t44 x2 6 8).bind fun v46 => (mk_stl t44 v45 (11 : Int32) ((v46).toInt64)).bind fun t47 => some ((), t47)) := by
  refine xo_aload_n rfl rfl dX9_tell_0 ?_
  refine xo_geta dX9_tell_1 cl_8 fl_RX9_9 rfl (fun v1 => ?_)
  refine xo_iconst kc_0 dX9_tell_4 ?_
  refine xo_iload_n rfl rfl dX9_tell_5 ?_
  refine xo_i2l dX9_tell_6 ?_
  refine xo_last dX9_tell_7 (fun t2 => ?_)
  refine xo_aload_n rfl rfl dX9_tell_8 ?_
  refine xo_geta dX9_tell_9 cl_8 fl_RX9_9 rfl (fun v3 => ?_)
  refine xo_iconst kc_1 dX9_tell_12 ?_
  refine xo_aload_n rfl rfl dX9_tell_13 ?_
  refine xo_geta dX9_tell_14 cl_6 fl_RX9_48 rfl (fun v4 => ?_)
  refine xo_iload_n rfl rfl dX9_tell_17 ?_
  refine xo_iald dX9_tell_18 (fun v5 => ?_)
  refine xo_i2l dX9_tell_19 ?_
  refine xo_last dX9_tell_20 (fun t6 => ?_)
  refine xo_aload_n rfl rfl dX9_tell_21 ?_
  refine xo_geta dX9_tell_22 cl_8 fl_RX9_9 rfl (fun v7 => ?_)
  refine xo_iconst kc_2 dX9_tell_25 ?_
  refine xo_aload_n rfl rfl dX9_tell_26 ?_
  refine xo_geta dX9_tell_27 cl_3 fl_RX9_52 rfl (fun v8 => ?_)
  refine xo_iload_n rfl rfl dX9_tell_30 ?_
  refine xo_iald dX9_tell_31 (fun v9 => ?_)
  refine xo_i2l dX9_tell_32 ?_
  refine xo_last dX9_tell_33 (fun t10 => ?_)
  refine xo_aload_n rfl rfl dX9_tell_34 ?_
  refine xo_geta dX9_tell_35 cl_8 fl_RX9_9 rfl (fun v11 => ?_)
  refine xo_iconst kc_3 dX9_tell_38 ?_
  refine xo_aload_n rfl rfl dX9_tell_39 ?_
  refine xo_geta dX9_tell_40 cl_6 fl_RX9_64 rfl (fun v12 => ?_)
  refine xo_iload_n rfl rfl dX9_tell_43 ?_
  refine xo_iald dX9_tell_44 (fun v13 => ?_)
  refine xo_i2l dX9_tell_45 ?_
  refine xo_last dX9_tell_46 (fun t14 => ?_)
  refine xo_aload_n rfl rfl dX9_tell_47 ?_
  refine xo_geta dX9_tell_48 cl_8 fl_RX9_9 rfl (fun v15 => ?_)
  refine xo_iconst kc_4 dX9_tell_51 ?_
  refine xo_aload_n rfl rfl dX9_tell_52 ?_
  refine xo_aload_n rfl rfl dX9_tell_53 ?_
  refine xo_geta dX9_tell_54 cl_6 fl_RX9_67 rfl (fun v16 => ?_)
  refine xo_iload_n rfl rfl dX9_tell_57 ?_
  refine xo_iald dX9_tell_58 (fun v17 => ?_)
  refine mk_O.callV (N := M_X3_rowOf) (ci := 3) (q := (RX3, TX3, 12)) (b := x1) (As1 := [.int v17]) (S := [.int (4 : Int32), .ref v15]) md_X3_rowOf mv_X3_rowOf lk_RX9_70 rfl (Nat.le_of_ble_eq_true rfl) (by decide) dX9_tell_59 rfl rfl rfl (fun z hz => (c_X3_rowOf x1 v17 t14 z hz).1) (fun z hz => (c_X3_rowOf x1 v17 t14 z hz).2) (fun z18 _ => ?_)
  show mk_O _ _ _ _ (.int z18.1 :: [.int (4 : Int32), .ref v15]) _ _
  refine xo_i2l dX9_tell_62 ?_
  refine xo_last dX9_tell_63 (fun t19 => ?_)
  refine xo_aload_n rfl rfl dX9_tell_64 ?_
  refine xo_geta dX9_tell_65 cl_8 fl_RX9_9 rfl (fun v20 => ?_)
  refine xo_iconst kc_5 dX9_tell_68 ?_
  refine xo_aload_n rfl rfl dX9_tell_69 ?_
  refine xo_aload_n rfl rfl dX9_tell_70 ?_
  refine xo_geta dX9_tell_71 cl_6 fl_RX9_67 rfl (fun v21 => ?_)
  refine xo_iload_n rfl rfl dX9_tell_74 ?_
  refine xo_iald dX9_tell_75 (fun v22 => ?_)
  refine mk_O.callV (N := M_X3_columnOf) (ci := 3) (q := (RX3, TX3, 12)) (b := x1) (As1 := [.int v22]) (S := [.int (5 : Int32), .ref v20]) md_X3_columnOf mv_X3_columnOf lk_RX9_74 rfl (Nat.le_of_ble_eq_true rfl) (by decide) dX9_tell_76 rfl rfl rfl (fun z hz => (c_X3_columnOf x1 v22 t19 z hz).1) (fun z hz => (c_X3_columnOf x1 v22 t19 z hz).2) (fun z23 _ => ?_)
  show mk_O _ _ _ _ (.int z23.1 :: [.int (5 : Int32), .ref v20]) _ _
  refine xo_i2l dX9_tell_79 ?_
  refine xo_last dX9_tell_80 (fun t24 => ?_)
  refine xo_aload_n rfl rfl dX9_tell_81 ?_
  refine xo_geta dX9_tell_82 cl_8 fl_RX9_9 rfl (fun v25 => ?_)
  refine xo_bipush kb_6 dX9_tell_85 ?_
  refine xo_aload_n rfl rfl dX9_tell_87 ?_
  refine xo_aload_n rfl rfl dX9_tell_88 ?_
  refine xo_geta dX9_tell_89 cl_6 fl_RX9_67 rfl (fun v26 => ?_)
  refine xo_iload_n rfl rfl dX9_tell_92 ?_
  refine xo_iald dX9_tell_93 (fun v27 => ?_)
  refine mk_O.callV (N := M_X7_windAt) (ci := 6) (q := (RX7, TX7, 9)) (b := x2) (As1 := [.int v27]) (S := [.int (6 : Int32), .ref v25]) md_X7_windAt mv_X7_windAt lk_RX9_77 rfl (Nat.le_of_ble_eq_true rfl) (by decide) dX9_tell_94 rfl rfl rfl (fun z hz => (c_X7_windAt x2 v27 t24 z hz).1) (fun z hz => (c_X7_windAt x2 v27 t24 z hz).2) (fun z28 _ => ?_)
  show mk_O _ _ _ _ (.int z28.1 :: [.int (6 : Int32), .ref v25]) _ _
  refine xo_i2l dX9_tell_97 ?_
  refine xo_last dX9_tell_98 (fun t29 => ?_)
  refine xo_aload_n rfl rfl dX9_tell_99 ?_
  refine xo_geta dX9_tell_100 cl_8 fl_RX9_9 rfl (fun v30 => ?_)
  refine xo_bipush kb_7 dX9_tell_103 ?_
  refine xo_aload_n rfl rfl dX9_tell_105 ?_
  refine xo_geta dX9_tell_106 cl_6 fl_RX9_80 rfl (fun v31 => ?_)
  refine xo_iload_n rfl rfl dX9_tell_109 ?_
  refine xo_iald dX9_tell_110 (fun v32 => ?_)
  refine xo_i2l dX9_tell_111 ?_
  refine xo_last dX9_tell_112 (fun t33 => ?_)
  refine xo_aload_n rfl rfl dX9_tell_113 ?_
  refine xo_geta dX9_tell_114 cl_8 fl_RX9_9 rfl (fun v34 => ?_)
  refine xo_bipush kb_8 dX9_tell_117 ?_
  refine xo_aload_n rfl rfl dX9_tell_119 ?_
  refine xo_geta dX9_tell_120 cl_6 fl_RX9_83 rfl (fun v35 => ?_)
  refine xo_iload_n rfl rfl dX9_tell_123 ?_
  refine xo_iald dX9_tell_124 (fun v36 => ?_)
  refine xo_i2l dX9_tell_125 ?_
  refine xo_last dX9_tell_126 (fun t37 => ?_)
  refine xo_aload_n rfl rfl dX9_tell_127 ?_
  refine xo_geta dX9_tell_128 cl_8 fl_RX9_9 rfl (fun v38 => ?_)
  refine xo_bipush kb_9 dX9_tell_131 ?_
  refine xo_aload_n rfl rfl dX9_tell_133 ?_
  refine mk_O.callV (N := M_X7_groundInAll) (ci := 6) (q := (RX7, TX7, 9)) (b := x2) (As1 := []) (S := [.int (9 : Int32), .ref v38]) md_X7_groundInAll mv_X7_groundInAll lk_RX9_86 rfl (Nat.le_of_ble_eq_true rfl) (by decide) dX9_tell_134 rfl rfl rfl (fun z hz => (c_X7_groundInAll x2 t37 z hz).1) (fun z hz => (c_X7_groundInAll x2 t37 z hz).2) (fun z39 _ => ?_)
  show mk_O _ _ _ _ (.int z39.1 :: [.int (9 : Int32), .ref v38]) _ _
  refine xo_i2l dX9_tell_137 ?_
  refine xo_last dX9_tell_138 (fun t40 => ?_)
  refine xo_aload_n rfl rfl dX9_tell_139 ?_
  refine xo_geta dX9_tell_140 cl_8 fl_RX9_9 rfl (fun v41 => ?_)
  refine xo_bipush kb_10 dX9_tell_143 ?_
  refine xo_aload_n rfl rfl dX9_tell_145 ?_
  refine xo_geti dX9_tell_146 cl_6 fl_RX9_90 rfl (fun v42 => ?_)
  refine mk_O.callS (N := M_J6_bitCount_0f7a4) (As := [.int v42]) (S := [.int (10 : Int32), .ref v41]) md_J6_bitCount_0f7a4 ms_J6_bitCount_0f7a4 lk_RX9_93 rfl (Nat.le_of_ble_eq_true rfl) (by decide) dX9_tell_149 rfl (fun z hz => c_J6_bitCount_0f7a4 v42 t40 z hz) (fun z43 _ => ?_)
  show mk_O _ _ _ _ (.int z43.1 :: [.int (10 : Int32), .ref v41]) _ _
  refine xo_i2l dX9_tell_152 ?_
  refine xo_last dX9_tell_153 (fun t44 => ?_)
  refine xo_aload_n rfl rfl dX9_tell_154 ?_
  refine xo_geta dX9_tell_155 cl_8 fl_RX9_9 rfl (fun v45 => ?_)
  refine xo_bipush kb_11 dX9_tell_158 ?_
  refine xo_aload_n rfl rfl dX9_tell_160 ?_
  refine xo_geti dX9_tell_161 cl_6 fl_RX9_45 rfl (fun v46 => ?_)
  refine xo_i2l dX9_tell_164 ?_
  refine xo_last dX9_tell_165 (fun t47 => ?_)
  exact xo_vret dX9_tell_166 rfl
theorem c_X9_tell (x0 : Nat) (x1 : Nat) (x2 : Nat) (x3 : Int32) (t : mk_S) (z : Unit × mk_S) (h : F_X9_tell x0 x1 x2 x3 t = some z) : mk_is t x0 8 ∧ mk_Ct M_X9_tell [.ref x0, .ref x1, .ref x2, .int x3] t (mk_wu z.1, z.2) :=
  ⟨(mk_gd_spec h).1, mk_ct (w := mk_wu) (by decide +kernel) (Nat.le_of_ble_eq_true rfl) (p_X9_tell x0 x1 x2 x3 t) z (mk_gd_spec h).2⟩
def B_X5_isWord_18 (t : mk_S) : Option (Int32 × mk_S) := mk_rz (0 : Int32) t
def F_X5_isWord (x0 : Int32) (t : mk_S) : Option (Int32 × mk_S) := if x0 < (300 : Int32) then (B_X5_isWord_18 t) else (if (312 : Int32) ≤ x0 then (B_X5_isWord_18 t) else (mk_rz (1 : Int32) t))
theorem o_X5_isWord_18 (t : mk_S) : mk_O mk_wi M_X5_isWord 18 [none] [] t (B_X5_isWord_18  t) := by
  unfold B_X5_isWord_18
  refine xo_iconst kc_0 dX5_isWord_18 ?_
  exact xo_zret dX5_isWord_19 rfl
theorem p_X5_isWord (x0 : Int32) (t : mk_S) : mk_O mk_wi M_X5_isWord 0 [some (.int x0)] [] t (if x0 < (300 : Int32) then (B_X5_isWord_18 t) else (if (312 : Int32) ≤ x0 then (B_X5_isWord_18 t) else (mk_rz (1 : Int32) t))) := by
  refine xo_iload_n rfl rfl dX5_isWord_0 ?_
  refine xo_sipush ks_300 dX5_isWord_1 ?_
  refine xo_icmp_lt (tgt := 18) dX5_isWord_4 rfl (fun _ => ?_) (fun _ => ?_)
  · exact mk_O.wk (o_X5_isWord_18 t) trivial
  · refine xo_iload_n rfl rfl dX5_isWord_7 ?_
    refine xo_sipush ks_312 dX5_isWord_8 ?_
    refine xo_icmp_ge (tgt := 18) dX5_isWord_11 rfl (fun _ => ?_) (fun _ => ?_)
    · exact mk_O.wk (o_X5_isWord_18 t) trivial
    · refine xo_iconst kc_1 dX5_isWord_14 ?_
      refine xo_goto (tgt := 19) dX5_isWord_15 rfl ?_
      exact xo_zret dX5_isWord_19 rfl
theorem c_X5_isWord (x0 : Int32) (t : mk_S) (z : Int32 × mk_S) (h : F_X5_isWord x0 t = some z) : mk_Ct M_X5_isWord [.int x0] t (mk_wi z.1, z.2) :=
  mk_ct (w := mk_wi) (by decide +kernel) (Nat.le_of_ble_eq_true rfl) (p_X5_isWord x0 t) z h
def F_X5_joined (x0 : Int32) (x1 : Int64) (x3 : Int64) (t : mk_S) : Option (Int64 × mk_S) := if x0 = (37 : Int32) then (if (lg_cmp x3 (0 : Int64)) = 0 then (some ((0 : Int64), t)) else (if x3 = 0 then none else some ((x1 - x1 / x3 * x3), t))) else (if x0 = (42 : Int32) then (some ((x1 * x3), t)) else (if x0 = (43 : Int32) then (some ((x1 + x3), t)) else (if x0 = (45 : Int32) then (some ((x1 - x3), t)) else (if x0 = (47 : Int32) then (if (lg_cmp x3 (0 : Int64)) = 0 then (some ((0 : Int64), t)) else (if x3 = 0 then none else some ((x1 / x3), t))) else (if x0 = (60 : Int32) then (if 0 ≤ (lg_cmp x1 x3) then (some ((0 : Int64), t)) else (some ((1 : Int64), t))) else (if x0 = (61 : Int32) then (if (lg_cmp x1 x3) = 0 then (some ((1 : Int64), t)) else (some ((0 : Int64), t))) else (if x0 = (62 : Int32) then (if (lg_cmp x1 x3) ≤ 0 then (some ((0 : Int64), t)) else (some ((1 : Int64), t))) else (if x0 = (257 : Int32) then (if 0 < (lg_cmp x1 x3) then (some ((0 : Int64), t)) else (some ((1 : Int64), t))) else (if x0 = (258 : Int32) then (if (lg_cmp x1 x3) < 0 then (some ((0 : Int64), t)) else (some ((1 : Int64), t))) else (if x0 = (313 : Int32) then (some ((x1 &&& x3), t)) else (if x0 = (314 : Int32) then (some ((x1 ||| x3), t)) else (some ((0 : Int64), t)))))))))))))
theorem p_X5_joined (x0 : Int32) (x1 : Int64) (x3 : Int64) (t : mk_S) : mk_O mk_wl M_X5_joined 0 [some (.int x0), some (.long x1), none, some (.long x3), none] [] t (if x0 = (37 : Int32) then (if (lg_cmp x3 (0 : Int64)) = 0 then (some ((0 : Int64), t)) else (if x3 = 0 then none else some ((x1 - x1 / x3 * x3), t))) else (if x0 = (42 : Int32) then (some ((x1 * x3), t)) else (if x0 = (43 : Int32) then (some ((x1 + x3), t)) else (if x0 = (45 : Int32) then (some ((x1 - x3), t)) else (if x0 = (47 : Int32) then (if (lg_cmp x3 (0 : Int64)) = 0 then (some ((0 : Int64), t)) else (if x3 = 0 then none else some ((x1 / x3), t))) else (if x0 = (60 : Int32) then (if 0 ≤ (lg_cmp x1 x3) then (some ((0 : Int64), t)) else (some ((1 : Int64), t))) else (if x0 = (61 : Int32) then (if (lg_cmp x1 x3) = 0 then (some ((1 : Int64), t)) else (some ((0 : Int64), t))) else (if x0 = (62 : Int32) then (if (lg_cmp x1 x3) ≤ 0 then (some ((0 : Int64), t)) else (some ((1 : Int64), t))) else (if x0 = (257 : Int32) then (if 0 < (lg_cmp x1 x3) then (some ((0 : Int64), t)) else (some ((1 : Int64), t))) else (if x0 = (258 : Int32) then (if (lg_cmp x1 x3) < 0 then (some ((0 : Int64), t)) else (some ((1 : Int64), t))) else (if x0 = (313 : Int32) then (some ((x1 &&& x3), t)) else (if x0 = (314 : Int32) then (some ((x1 ||| x3), t)) else (some ((0 : Int64), t)))))))))))))) := by
  refine xo_iload_n rfl rfl dX5_joined_0 ?_
  refine mk_O.cs (fun n0 => ?_) (fun n0 => ?_)
  · refine xo_look (off := 133) dX5_joined_1 rfl (by rw [n0]; decide) rfl ?_
    refine xo_lload_n rfl rfl dX5_joined_134 ?_
    refine xo_lconst kl_0 dX5_joined_135 ?_
    refine xo_lcmp dX5_joined_136 ?_
    refine xo_if_ne (tgt := 144) dX5_joined_137 rfl (fun _ => ?_) (fun _ => ?_)
    · refine xo_lconst kl_0 dX5_joined_140 ?_
      refine xo_goto (tgt := 147) dX5_joined_141 rfl ?_
      exact xo_lret dX5_joined_147 rfl
    · refine xo_lload_n rfl rfl dX5_joined_144 ?_
      refine xo_lload_n rfl rfl dX5_joined_145 ?_
      refine xo_lrem dX5_joined_146 (fun _ => ?_)
      exact xo_lret dX5_joined_147 rfl
  · refine mk_O.cs (fun n1 => ?_) (fun n1 => ?_)
    · refine xo_look (off := 115) dX5_joined_1 rfl (by rw [n1]; decide) rfl ?_
      refine xo_lload_n rfl rfl dX5_joined_116 ?_
      refine xo_lload_n rfl rfl dX5_joined_117 ?_
      refine xo_lmul dX5_joined_118 ?_
      exact xo_lret dX5_joined_119 rfl
    · refine mk_O.cs (fun n2 => ?_) (fun n2 => ?_)
      · refine xo_look (off := 107) dX5_joined_1 rfl (by rw [n2]; decide) rfl ?_
        refine xo_lload_n rfl rfl dX5_joined_108 ?_
        refine xo_lload_n rfl rfl dX5_joined_109 ?_
        refine xo_ladd dX5_joined_110 ?_
        exact xo_lret dX5_joined_111 rfl
      · refine mk_O.cs (fun n3 => ?_) (fun n3 => ?_)
        · refine xo_look (off := 111) dX5_joined_1 rfl (by rw [n3]; decide) rfl ?_
          refine xo_lload_n rfl rfl dX5_joined_112 ?_
          refine xo_lload_n rfl rfl dX5_joined_113 ?_
          refine xo_lsub dX5_joined_114 ?_
          exact xo_lret dX5_joined_115 rfl
        · refine mk_O.cs (fun n4 => ?_) (fun n4 => ?_)
          · refine xo_look (off := 119) dX5_joined_1 rfl (by rw [n4]; decide) rfl ?_
            refine xo_lload_n rfl rfl dX5_joined_120 ?_
            refine xo_lconst kl_0 dX5_joined_121 ?_
            refine xo_lcmp dX5_joined_122 ?_
            refine xo_if_ne (tgt := 130) dX5_joined_123 rfl (fun _ => ?_) (fun _ => ?_)
            · refine xo_lconst kl_0 dX5_joined_126 ?_
              refine xo_goto (tgt := 133) dX5_joined_127 rfl ?_
              exact xo_lret dX5_joined_133 rfl
            · refine xo_lload_n rfl rfl dX5_joined_130 ?_
              refine xo_lload_n rfl rfl dX5_joined_131 ?_
              refine xo_ldiv dX5_joined_132 (fun _ => ?_)
              exact xo_lret dX5_joined_133 rfl
          · refine mk_O.cs (fun n5 => ?_) (fun n5 => ?_)
            · refine xo_look (off := 147) dX5_joined_1 rfl (by rw [n5]; decide) rfl ?_
              refine xo_lload_n rfl rfl dX5_joined_148 ?_
              refine xo_lload_n rfl rfl dX5_joined_149 ?_
              refine xo_lcmp dX5_joined_150 ?_
              refine xo_if_ge (tgt := 158) dX5_joined_151 rfl (fun _ => ?_) (fun _ => ?_)
              · refine xo_lconst kl_0 dX5_joined_158 ?_
                exact xo_lret dX5_joined_159 rfl
              · refine xo_lconst kl_1 dX5_joined_154 ?_
                refine xo_goto (tgt := 159) dX5_joined_155 rfl ?_
                exact xo_lret dX5_joined_159 rfl
            · refine mk_O.cs (fun n6 => ?_) (fun n6 => ?_)
              · refine xo_look (off := 171) dX5_joined_1 rfl (by rw [n6]; decide) rfl ?_
                refine xo_lload_n rfl rfl dX5_joined_172 ?_
                refine xo_lload_n rfl rfl dX5_joined_173 ?_
                refine xo_lcmp dX5_joined_174 ?_
                refine xo_if_ne (tgt := 182) dX5_joined_175 rfl (fun _ => ?_) (fun _ => ?_)
                · refine xo_lconst kl_1 dX5_joined_178 ?_
                  refine xo_goto (tgt := 183) dX5_joined_179 rfl ?_
                  exact xo_lret dX5_joined_183 rfl
                · refine xo_lconst kl_0 dX5_joined_182 ?_
                  exact xo_lret dX5_joined_183 rfl
              · refine mk_O.cs (fun n7 => ?_) (fun n7 => ?_)
                · refine xo_look (off := 195) dX5_joined_1 rfl (by rw [n7]; decide) rfl ?_
                  refine xo_lload_n rfl rfl dX5_joined_196 ?_
                  refine xo_lload_n rfl rfl dX5_joined_197 ?_
                  refine xo_lcmp dX5_joined_198 ?_
                  refine xo_if_le (tgt := 206) dX5_joined_199 rfl (fun _ => ?_) (fun _ => ?_)
                  · refine xo_lconst kl_0 dX5_joined_206 ?_
                    exact xo_lret dX5_joined_207 rfl
                  · refine xo_lconst kl_1 dX5_joined_202 ?_
                    refine xo_goto (tgt := 207) dX5_joined_203 rfl ?_
                    exact xo_lret dX5_joined_207 rfl
                · refine mk_O.cs (fun n8 => ?_) (fun n8 => ?_)
                  · refine xo_look (off := 159) dX5_joined_1 rfl (by rw [n8]; decide) rfl ?_
                    refine xo_lload_n rfl rfl dX5_joined_160 ?_
                    refine xo_lload_n rfl rfl dX5_joined_161 ?_
                    refine xo_lcmp dX5_joined_162 ?_
                    refine xo_if_gt (tgt := 170) dX5_joined_163 rfl (fun _ => ?_) (fun _ => ?_)
                    · refine xo_lconst kl_0 dX5_joined_170 ?_
                      exact xo_lret dX5_joined_171 rfl
                    · refine xo_lconst kl_1 dX5_joined_166 ?_
                      refine xo_goto (tgt := 171) dX5_joined_167 rfl ?_
                      exact xo_lret dX5_joined_171 rfl
                  · refine mk_O.cs (fun n9 => ?_) (fun n9 => ?_)
                    · refine xo_look (off := 183) dX5_joined_1 rfl (by rw [n9]; decide) rfl ?_
                      refine xo_lload_n rfl rfl dX5_joined_184 ?_
                      refine xo_lload_n rfl rfl dX5_joined_185 ?_
                      refine xo_lcmp dX5_joined_186 ?_
                      refine xo_if_lt (tgt := 194) dX5_joined_187 rfl (fun _ => ?_) (fun _ => ?_)
                      · refine xo_lconst kl_0 dX5_joined_194 ?_
                        exact xo_lret dX5_joined_195 rfl
                      · refine xo_lconst kl_1 dX5_joined_190 ?_
                        refine xo_goto (tgt := 195) dX5_joined_191 rfl ?_
                        exact xo_lret dX5_joined_195 rfl
                    · refine mk_O.cs (fun n10 => ?_) (fun n10 => ?_)
                      · refine xo_look (off := 207) dX5_joined_1 rfl (by rw [n10]; decide) rfl ?_
                        refine xo_lload_n rfl rfl dX5_joined_208 ?_
                        refine xo_lload_n rfl rfl dX5_joined_209 ?_
                        refine xo_land dX5_joined_210 ?_
                        exact xo_lret dX5_joined_211 rfl
                      · refine mk_O.cs (fun n11 => ?_) (fun n11 => ?_)
                        · refine xo_look (off := 211) dX5_joined_1 rfl (by rw [n11]; decide) rfl ?_
                          refine xo_lload_n rfl rfl dX5_joined_212 ?_
                          refine xo_lload_n rfl rfl dX5_joined_213 ?_
                          refine xo_lor dX5_joined_214 ?_
                          exact xo_lret dX5_joined_215 rfl
                        · refine xo_look (off := 215) dX5_joined_1 rfl ((lv_osw n0 (by decide)).trans ((lv_osw n1 (by decide)).trans ((lv_osw n2 (by decide)).trans ((lv_osw n3 (by decide)).trans ((lv_osw n4 (by decide)).trans ((lv_osw n5 (by decide)).trans ((lv_osw n6 (by decide)).trans ((lv_osw n7 (by decide)).trans ((lv_osw n8 (by decide)).trans ((lv_osw n9 (by decide)).trans ((lv_osw n10 (by decide)).trans ((lv_osw n11 (by decide)).trans (rfl))))))))))))) rfl ?_
                          refine xo_lconst kl_0 dX5_joined_216 ?_
                          exact xo_lret dX5_joined_217 rfl
theorem c_X5_joined (x0 : Int32) (x1 : Int64) (x3 : Int64) (t : mk_S) (z : Int64 × mk_S) (h : F_X5_joined x0 x1 x3 t = some z) : mk_Ct M_X5_joined [.int x0, .long x1, .long x3] t (mk_wl z.1, z.2) :=
  mk_ct (w := mk_wl) (by decide +kernel) (Nat.le_of_ble_eq_true rfl) (p_X5_joined x0 x1 x3 t) z h
def B_X5_worth_167 (k6 : Nat → Int32 → Nat → Int32 → Int32 → mk_S → Option (Int64 × mk_S)) (x0 : Nat) (x2 : Int32) (x3 : Nat) (x4 : Int32) (x5 : Int32) (t : mk_S) : Option (Int64 × mk_S) := k6 x0 x2 x3 x4 (x5 + (1 : Int32)) t
def B_X5_worth_85 (k6 : Nat → Int32 → Nat → Int32 → Int32 → mk_S → Option (Int64 × mk_S)) (x0 : Nat) (x2 : Int32) (x3 : Nat) (x4 : Int32) (x5 : Int32) (s0 : Nat) (s1 : Int32) (s2 : Int64) (t : mk_S) : Option (Int64 × mk_S) := (mk_stl t s0 s1 s2).bind fun t1 => B_X5_worth_167 k6 x0 x2 x3 (x4 + (1 : Int32)) x5 t1
def B_X5_worth_45 (k6 : Nat → Int32 → Nat → Int32 → Int32 → mk_S → Option (Int64 × mk_S)) (x0 : Nat) (x2 : Int32) (x3 : Nat) (x4 : Int32) (x5 : Int32) (x6 : Int32) (t : mk_S) : Option (Int64 × mk_S) := if (60 : Int32) ≤ x4 then (B_X5_worth_167 k6 x0 x2 x3 x4 x5 t) else ((mk_ga t x0 4 7).bind fun v1 => if x6 = (256 : Int32) then ((mk_ga t x0 4 1).bind fun v2 => (mk_ld 100 t v2 x5).bind fun v3 => B_X5_worth_85 k6 x0 x2 x3 x4 x5 v1 x4 ((v3).toInt64) t) else ((mk_ldl t x3 (x6 - (300 : Int32))).bind fun v4 => B_X5_worth_85 k6 x0 x2 x3 x4 x5 v1 x4 v4 t))
def B_X5_worth_173 (x0 : Nat) (x4 : Int32) (t : mk_S) : Option (Int64 × mk_S) := if x4 ≤ 0 then (some ((0 : Int64), t)) else ((mk_ga t x0 4 7).bind fun v1 => (mk_ldl t v1 (0 : Int32)).bind fun v2 => some (v2, t))
def B_X5_worth_6 : Nat → Nat → Int32 → Nat → Int32 → Int32 → mk_S → Option (Int64 × mk_S)
  | 0, _, _, _, _, _, _ => none
  | n + 1, x0, x2, x3, x4, x5, t => if x2 ≤ x5 then (B_X5_worth_173 x0 x4 t) else (if (400 : Int32) ≤ x5 then (B_X5_worth_173 x0 x4 t) else ((mk_ga t x0 4 0).bind fun v1 => (mk_ld 100 t v1 x5).bind fun v2 => if v2 = (256 : Int32) then (B_X5_worth_45 (B_X5_worth_6 n) x0 x2 x3 x4 x5 v2 t) else ((F_X5_isWord v2 t).bind fun z3 => if z3.1 = 0 then (if v2 = (315 : Int32) then (if x4 ≤ 0 then (B_X5_worth_167 (B_X5_worth_6 n) x0 x2 x3 x4 x5 z3.2) else ((mk_ga z3.2 x0 4 7).bind fun v4 => (mk_ga z3.2 x0 4 7).bind fun v5 => (mk_ldl z3.2 v5 (x4 - (1 : Int32))).bind fun v6 => (mk_stl z3.2 v4 (x4 - (1 : Int32)) ((1 : Int64) - v6)).bind fun t7 => B_X5_worth_167 (B_X5_worth_6 n) x0 x2 x3 x4 x5 t7)) else (if x4 ≤ (1 : Int32) then (B_X5_worth_167 (B_X5_worth_6 n) x0 x2 x3 x4 x5 z3.2) else ((mk_ga z3.2 x0 4 7).bind fun v8 => (mk_ga z3.2 x0 4 7).bind fun v9 => (mk_ldl z3.2 v9 ((x4 + (-1 : Int32)) - (1 : Int32))).bind fun v10 => (mk_ga z3.2 x0 4 7).bind fun v11 => (mk_ldl z3.2 v11 (x4 + (-1 : Int32))).bind fun v12 => (F_X5_joined v2 v10 v12 z3.2).bind fun z13 => (mk_stl z13.2 v8 ((x4 + (-1 : Int32)) - (1 : Int32)) z13.1).bind fun t14 => B_X5_worth_167 (B_X5_worth_6 n) x0 x2 x3 (x4 + (-1 : Int32)) x5 t14))) else (B_X5_worth_45 (B_X5_worth_6 n) x0 x2 x3 x4 x5 v2 z3.2))))
def F_X5_worth (x0 : Nat) (x1 : Int32) (x2 : Int32) (x3 : Nat) (t : mk_S) : Option (Int64 × mk_S) := mk_gd t x0 4 (B_X5_worth_6 mk_fu x0 x2 x3 (0 : Int32) x1 t)
theorem o_X5_worth_167 (k6 : Nat → Int32 → Nat → Int32 → Int32 → mk_S → Option (Int64 × mk_S)) (h6 : ∀ (x0 : Nat) (x2 : Int32) (x3 : Nat) (x4 : Int32) (x5 : Int32) (t : mk_S), mk_O mk_wl M_X5_worth 6 [some (.ref x0), none, some (.int x2), some (.ref x3), some (.int x4), some (.int x5), none] [] t (k6 x0 x2 x3 x4 x5 t)) (x0 : Nat) (x2 : Int32) (x3 : Nat) (x4 : Int32) (x5 : Int32) (t : mk_S) : mk_O mk_wl M_X5_worth 167 [some (.ref x0), none, some (.int x2), some (.ref x3), some (.int x4), some (.int x5), none] [] t (B_X5_worth_167 k6 x0 x2 x3 x4 x5 t) := by
  unfold B_X5_worth_167
  refine xo_iinc rfl (congrArg _ kc_1) (by decide) (mk_p1_v rfl rfl) dX5_worth_167 ?_
  refine xo_goto (tgt := 6) dX5_worth_170 rfl ?_
  exact mk_O.wk (h6 x0 x2 x3 x4 (x5 + (1 : Int32)) t) ⟨rfl, ⟨rfl, ⟨rfl, ⟨rfl, ⟨rfl, trivial⟩⟩⟩⟩⟩
theorem o_X5_worth_85 (k6 : Nat → Int32 → Nat → Int32 → Int32 → mk_S → Option (Int64 × mk_S)) (h6 : ∀ (x0 : Nat) (x2 : Int32) (x3 : Nat) (x4 : Int32) (x5 : Int32) (t : mk_S), mk_O mk_wl M_X5_worth 6 [some (.ref x0), none, some (.int x2), some (.ref x3), some (.int x4), some (.int x5), none] [] t (k6 x0 x2 x3 x4 x5 t)) (x0 : Nat) (x2 : Int32) (x3 : Nat) (x4 : Int32) (x5 : Int32) (s0 : Nat) (s1 : Int32) (s2 : Int64) (t : mk_S) : mk_O mk_wl M_X5_worth 85 [some (.ref x0), none, some (.int x2), some (.ref x3), some (.int x4), some (.int x5), none] [.long s2, .int s1, .ref s0] t (B_X5_worth_85 k6 x0 x2 x3 x4 x5 s0 s1 s2 t) := by
  unfold B_X5_worth_85
  refine xo_last dX5_worth_85 (fun t1 => ?_)
  refine xo_iinc rfl (congrArg _ kc_1) (by decide) (mk_p1_v rfl rfl) dX5_worth_86 ?_
  refine xo_goto (tgt := 167) dX5_worth_89 rfl ?_
  exact mk_O.wk (o_X5_worth_167 _ h6 x0 x2 x3 (x4 + (1 : Int32)) x5 t1) ⟨rfl, ⟨rfl, ⟨rfl, ⟨rfl, ⟨rfl, trivial⟩⟩⟩⟩⟩
theorem o_X5_worth_45 (k6 : Nat → Int32 → Nat → Int32 → Int32 → mk_S → Option (Int64 × mk_S)) (h6 : ∀ (x0 : Nat) (x2 : Int32) (x3 : Nat) (x4 : Int32) (x5 : Int32) (t : mk_S), mk_O mk_wl M_X5_worth 6 [some (.ref x0), none, some (.int x2), some (.ref x3), some (.int x4), some (.int x5), none] [] t (k6 x0 x2 x3 x4 x5 t)) (x0 : Nat) (x2 : Int32) (x3 : Nat) (x4 : Int32) (x5 : Int32) (x6 : Int32) (t : mk_S) : mk_O mk_wl M_X5_worth 45 [some (.ref x0), none, some (.int x2), some (.ref x3), some (.int x4), some (.int x5), some (.int x6)] [] t (B_X5_worth_45 k6 x0 x2 x3 x4 x5 x6 t) := by
  unfold B_X5_worth_45
  refine xo_iload rfl dX5_worth_45 ?_
  refine xo_bipush kb_60 dX5_worth_47 ?_
  refine xo_icmp_ge (tgt := 167) dX5_worth_49 rfl (fun _ => ?_) (fun _ => ?_)
  · exact mk_O.wk (o_X5_worth_167 _ h6 x0 x2 x3 x4 x5 t) ⟨rfl, ⟨rfl, ⟨rfl, ⟨rfl, ⟨rfl, trivial⟩⟩⟩⟩⟩
  · refine xo_aload_n rfl rfl dX5_worth_52 ?_
    refine xo_geta dX5_worth_53 cl_4 fl_RX5_34 rfl (fun v1 => ?_)
    refine xo_iload rfl dX5_worth_56 ?_
    refine xo_iload rfl dX5_worth_58 ?_
    refine xo_sipush ks_256 dX5_worth_60 ?_
    refine xo_icmp_ne (tgt := 77) dX5_worth_63 rfl (fun _ => ?_) (fun _ => ?_)
    · refine xo_aload_n rfl rfl dX5_worth_66 ?_
      refine xo_geta dX5_worth_67 cl_4 fl_RX5_15 rfl (fun v2 => ?_)
      refine xo_iload rfl dX5_worth_70 ?_
      refine xo_iald dX5_worth_72 (fun v3 => ?_)
      refine xo_i2l dX5_worth_73 ?_
      refine xo_goto (tgt := 85) dX5_worth_74 rfl ?_
      exact mk_O.wk (o_X5_worth_85 _ h6 x0 x2 x3 x4 x5 v1 x4 ((v3).toInt64) t) ⟨rfl, ⟨rfl, ⟨rfl, ⟨rfl, ⟨rfl, trivial⟩⟩⟩⟩⟩
    · refine xo_aload_n rfl rfl dX5_worth_77 ?_
      refine xo_iload rfl dX5_worth_78 ?_
      refine xo_sipush ks_300 dX5_worth_80 ?_
      refine xo_isub dX5_worth_83 ?_
      refine xo_lald dX5_worth_84 (fun v4 => ?_)
      exact mk_O.wk (o_X5_worth_85 _ h6 x0 x2 x3 x4 x5 v1 x4 v4 t) ⟨rfl, ⟨rfl, ⟨rfl, ⟨rfl, ⟨rfl, trivial⟩⟩⟩⟩⟩
theorem o_X5_worth_173 (x0 : Nat) (x4 : Int32) (t : mk_S) : mk_O mk_wl M_X5_worth 173 [some (.ref x0), none, none, none, some (.int x4), none, none] [] t (B_X5_worth_173 x0 x4 t) := by
  unfold B_X5_worth_173
  refine xo_iload rfl dX5_worth_173 ?_
  refine xo_if_le (tgt := 187) dX5_worth_175 rfl (fun _ => ?_) (fun _ => ?_)
  · refine xo_lconst kl_0 dX5_worth_187 ?_
    exact xo_lret dX5_worth_188 rfl
  · refine xo_aload_n rfl rfl dX5_worth_178 ?_
    refine xo_geta dX5_worth_179 cl_4 fl_RX5_34 rfl (fun v1 => ?_)
    refine xo_iconst kc_0 dX5_worth_182 ?_
    refine xo_lald dX5_worth_183 (fun v2 => ?_)
    refine xo_goto (tgt := 188) dX5_worth_184 rfl ?_
    exact xo_lret dX5_worth_188 rfl
theorem o_X5_worth_6 : ∀ (n : Nat) (x0 : Nat) (x2 : Int32) (x3 : Nat) (x4 : Int32) (x5 : Int32) (t : mk_S), mk_O mk_wl M_X5_worth 6 [some (.ref x0), none, some (.int x2), some (.ref x3), some (.int x4), some (.int x5), none] [] t (B_X5_worth_6 n x0 x2 x3 x4 x5 t) := by
  intro n
  induction n with
  | zero =>
    intro x0 x2 x3 x4 x5 t
    exact mk_O.none
  | succ n ih =>
    intro x0 x2 x3 x4 x5 t
    rw [B_X5_worth_6]
    refine xo_iload rfl dX5_worth_6 ?_
    refine xo_iload_n rfl rfl dX5_worth_8 ?_
    refine xo_icmp_ge (tgt := 173) dX5_worth_9 rfl (fun _ => ?_) (fun _ => ?_)
    · exact mk_O.wk (o_X5_worth_173 x0 x4 t) ⟨rfl, ⟨rfl, trivial⟩⟩
    · refine xo_iload rfl dX5_worth_12 ?_
      refine xo_sipush ks_400 dX5_worth_14 ?_
      refine xo_icmp_ge (tgt := 173) dX5_worth_17 rfl (fun _ => ?_) (fun _ => ?_)
      · exact mk_O.wk (o_X5_worth_173 x0 x4 t) ⟨rfl, ⟨rfl, trivial⟩⟩
      · refine xo_aload_n rfl rfl dX5_worth_20 ?_
        refine xo_geta dX5_worth_21 cl_4 fl_RX5_9 rfl (fun v1 => ?_)
        refine xo_iload rfl dX5_worth_24 ?_
        refine xo_iald dX5_worth_26 (fun v2 => ?_)
        refine xo_istore (by decide) (mk_p1_v rfl rfl) dX5_worth_27 ?_
        refine xo_iload rfl dX5_worth_29 ?_
        refine xo_sipush ks_256 dX5_worth_31 ?_
        refine xo_icmp_eq (tgt := 45) dX5_worth_34 rfl (fun _ => ?_) (fun _ => ?_)
        · exact mk_O.wk (o_X5_worth_45 _ ih x0 x2 x3 x4 x5 v2 t) ⟨rfl, ⟨rfl, ⟨rfl, ⟨rfl, ⟨rfl, ⟨rfl, trivial⟩⟩⟩⟩⟩⟩
        · refine xo_iload rfl dX5_worth_37 ?_
          refine mk_O.callS (N := M_X5_isWord) (As := [.int v2]) (S := []) md_X5_isWord ms_X5_isWord lk_RX5_42 rfl (Nat.le_of_ble_eq_true rfl) (by decide) dX5_worth_39 rfl (fun z hz => c_X5_isWord v2 t z hz) (fun z3 _ => ?_)
          show mk_O _ _ _ _ (.int z3.1 :: []) _ _
          refine xo_if_eq (tgt := 92) dX5_worth_42 rfl (fun _ => ?_) (fun _ => ?_)
          · refine xo_iload rfl dX5_worth_92 ?_
            refine xo_sipush ks_315 dX5_worth_94 ?_
            refine xo_icmp_ne (tgt := 128) dX5_worth_97 rfl (fun _ => ?_) (fun _ => ?_)
            · refine xo_iload rfl dX5_worth_100 ?_
              refine xo_if_le (tgt := 167) dX5_worth_102 rfl (fun _ => ?_) (fun _ => ?_)
              · exact mk_O.wk (o_X5_worth_167 _ ih x0 x2 x3 x4 x5 z3.2) ⟨rfl, ⟨rfl, ⟨rfl, ⟨rfl, ⟨rfl, trivial⟩⟩⟩⟩⟩
              · refine xo_aload_n rfl rfl dX5_worth_105 ?_
                refine xo_geta dX5_worth_106 cl_4 fl_RX5_34 rfl (fun v4 => ?_)
                refine xo_iload rfl dX5_worth_109 ?_
                refine xo_iconst kc_1 dX5_worth_111 ?_
                refine xo_isub dX5_worth_112 ?_
                refine xo_lconst kl_1 dX5_worth_113 ?_
                refine xo_aload_n rfl rfl dX5_worth_114 ?_
                refine xo_geta dX5_worth_115 cl_4 fl_RX5_34 rfl (fun v5 => ?_)
                refine xo_iload rfl dX5_worth_118 ?_
                refine xo_iconst kc_1 dX5_worth_120 ?_
                refine xo_isub dX5_worth_121 ?_
                refine xo_lald dX5_worth_122 (fun v6 => ?_)
                refine xo_lsub dX5_worth_123 ?_
                refine xo_last dX5_worth_124 (fun t7 => ?_)
                refine xo_goto (tgt := 167) dX5_worth_125 rfl ?_
                exact mk_O.wk (o_X5_worth_167 _ ih x0 x2 x3 x4 x5 t7) ⟨rfl, ⟨rfl, ⟨rfl, ⟨rfl, ⟨rfl, trivial⟩⟩⟩⟩⟩
            · refine xo_iload rfl dX5_worth_128 ?_
              refine xo_iconst kc_1 dX5_worth_130 ?_
              refine xo_icmp_le (tgt := 167) dX5_worth_131 rfl (fun _ => ?_) (fun _ => ?_)
              · exact mk_O.wk (o_X5_worth_167 _ ih x0 x2 x3 x4 x5 z3.2) ⟨rfl, ⟨rfl, ⟨rfl, ⟨rfl, ⟨rfl, trivial⟩⟩⟩⟩⟩
              · refine xo_iinc rfl (congrArg _ kc_m1) (by decide) (mk_p1_v rfl rfl) dX5_worth_134 ?_
                refine xo_aload_n rfl rfl dX5_worth_137 ?_
                refine xo_geta dX5_worth_138 cl_4 fl_RX5_34 rfl (fun v8 => ?_)
                refine xo_iload rfl dX5_worth_141 ?_
                refine xo_iconst kc_1 dX5_worth_143 ?_
                refine xo_isub dX5_worth_144 ?_
                refine xo_iload rfl dX5_worth_145 ?_
                refine xo_aload_n rfl rfl dX5_worth_147 ?_
                refine xo_geta dX5_worth_148 cl_4 fl_RX5_34 rfl (fun v9 => ?_)
                refine xo_iload rfl dX5_worth_151 ?_
                refine xo_iconst kc_1 dX5_worth_153 ?_
                refine xo_isub dX5_worth_154 ?_
                refine xo_lald dX5_worth_155 (fun v10 => ?_)
                refine xo_aload_n rfl rfl dX5_worth_156 ?_
                refine xo_geta dX5_worth_157 cl_4 fl_RX5_34 rfl (fun v11 => ?_)
                refine xo_iload rfl dX5_worth_160 ?_
                refine xo_lald dX5_worth_162 (fun v12 => ?_)
                refine mk_O.callS (N := M_X5_joined) (As := [.int v2, .long v10, .long v12]) (S := [.int ((x4 + (-1 : Int32)) - (1 : Int32)), .ref v8]) md_X5_joined ms_X5_joined lk_RX5_46 rfl (Nat.le_of_ble_eq_true rfl) (by decide) dX5_worth_163 rfl (fun z hz => c_X5_joined v2 v10 v12 z3.2 z hz) (fun z13 _ => ?_)
                show mk_O _ _ _ _ (.long z13.1 :: [.int ((x4 + (-1 : Int32)) - (1 : Int32)), .ref v8]) _ _
                refine xo_last dX5_worth_166 (fun t14 => ?_)
                exact mk_O.wk (o_X5_worth_167 _ ih x0 x2 x3 (x4 + (-1 : Int32)) x5 t14) ⟨rfl, ⟨rfl, ⟨rfl, ⟨rfl, ⟨rfl, trivial⟩⟩⟩⟩⟩
          · exact mk_O.wk (o_X5_worth_45 _ ih x0 x2 x3 x4 x5 v2 z3.2) ⟨rfl, ⟨rfl, ⟨rfl, ⟨rfl, ⟨rfl, ⟨rfl, trivial⟩⟩⟩⟩⟩⟩
theorem p_X5_worth (x0 : Nat) (x1 : Int32) (x2 : Int32) (x3 : Nat) (t : mk_S) : mk_O mk_wl M_X5_worth 0 [some (.ref x0), some (.int x1), some (.int x2), some (.ref x3), none, none, none] [] t (B_X5_worth_6 mk_fu x0 x2 x3 (0 : Int32) x1 t) := by
  refine xo_iconst kc_0 dX5_worth_0 ?_
  refine xo_istore (by decide) (mk_p1_v rfl rfl) dX5_worth_1 ?_
  refine xo_iload_n rfl rfl dX5_worth_3 ?_
  refine xo_istore (by decide) (mk_p1_v rfl rfl) dX5_worth_4 ?_
  exact mk_O.wk (o_X5_worth_6 mk_fu x0 x2 x3 (0 : Int32) x1 t) ⟨rfl, ⟨rfl, ⟨rfl, ⟨rfl, ⟨rfl, trivial⟩⟩⟩⟩⟩
theorem c_X5_worth (x0 : Nat) (x1 : Int32) (x2 : Int32) (x3 : Nat) (t : mk_S) (z : Int64 × mk_S) (h : F_X5_worth x0 x1 x2 x3 t = some z) : mk_is t x0 4 ∧ mk_Ct M_X5_worth [.ref x0, .int x1, .int x2, .ref x3] t (mk_wl z.1, z.2) :=
  ⟨(mk_gd_spec h).1, mk_ct (w := mk_wl) (by decide +kernel) (Nat.le_of_ble_eq_true rfl) (p_X5_worth x0 x1 x2 x3 t) z (mk_gd_spec h).2⟩
def B_X5_says_47 (x0 : Nat) (x1 : Nat) (x2 : Int32) (t : mk_S) : Option (Int32 × mk_S) := (mk_ga t x0 4 4).bind fun v1 => (mk_ld 100 t v1 x2).bind fun v2 => (mk_ga t x0 4 5).bind fun v3 => (mk_ld 100 t v3 x2).bind fun v4 => (F_X5_worth x0 v2 v4 x1 t).bind fun z5 => if (lg_cmp z5.1 (0 : Int64)) ≤ 0 then (mk_rz (0 : Int32) z5.2) else (mk_rz (1 : Int32) z5.2)
def B_X5_says_2 : Nat → Nat → Nat → Int32 → mk_S → Option (Int32 × mk_S)
  | 0, _, _, _, _ => none
  | n + 1, x0, x1, x2, t => (mk_gi t x0 4 3).bind fun v1 => if v1 ≤ x2 then (mk_rz (0 : Int32) t) else ((mk_ga t x0 4 5).bind fun v2 => (mk_ld 100 t v2 x2).bind fun v3 => (mk_ga t x0 4 6).bind fun v4 => (mk_ld 100 t v4 x2).bind fun v5 => if v3 = v5 then (B_X5_says_47 x0 x1 x2 t) else ((mk_ga t x0 4 5).bind fun v6 => (mk_ld 100 t v6 x2).bind fun v7 => (mk_ga t x0 4 6).bind fun v8 => (mk_ld 100 t v8 x2).bind fun v9 => (F_X5_worth x0 v7 v9 x1 t).bind fun z10 => if (lg_cmp z10.1 (0 : Int64)) = 0 then (B_X5_says_2 n x0 x1 (x2 + (1 : Int32)) z10.2) else (B_X5_says_47 x0 x1 x2 z10.2)))
def F_X5_says (x0 : Nat) (x1 : Nat) (t : mk_S) : Option (Int32 × mk_S) := mk_gd t x0 4 (B_X5_says_2 mk_fu x0 x1 (0 : Int32) t)
theorem o_X5_says_47 (x0 : Nat) (x1 : Nat) (x2 : Int32) (t : mk_S) : mk_O mk_wi M_X5_says 47 [some (.ref x0), some (.ref x1), some (.int x2)] [] t (B_X5_says_47 x0 x1 x2 t) := by
  unfold B_X5_says_47
  refine xo_aload_n rfl rfl dX5_says_47 ?_
  refine xo_aload_n rfl rfl dX5_says_48 ?_
  refine xo_geta dX5_says_49 cl_4 fl_RX5_25 rfl (fun v1 => ?_)
  refine xo_iload_n rfl rfl dX5_says_52 ?_
  refine xo_iald dX5_says_53 (fun v2 => ?_)
  refine xo_aload_n rfl rfl dX5_says_54 ?_
  refine xo_geta dX5_says_55 cl_4 fl_RX5_28 rfl (fun v3 => ?_)
  refine xo_iload_n rfl rfl dX5_says_58 ?_
  refine xo_iald dX5_says_59 (fun v4 => ?_)
  refine xo_aload_n rfl rfl dX5_says_60 ?_
  refine mk_O.callV (N := M_X5_worth) (ci := 4) (q := (RX5, TX5, 8)) (b := x0) (As1 := [.int v2, .int v4, .ref x1]) (S := []) md_X5_worth mv_X5_worth lk_RX5_38 rfl (Nat.le_of_ble_eq_true rfl) (by decide) dX5_says_61 rfl rfl rfl (fun z hz => (c_X5_worth x0 v2 v4 x1 t z hz).1) (fun z hz => (c_X5_worth x0 v2 v4 x1 t z hz).2) (fun z5 _ => ?_)
  show mk_O _ _ _ _ (.long z5.1 :: []) _ _
  refine xo_lconst kl_0 dX5_says_64 ?_
  refine xo_lcmp dX5_says_65 ?_
  refine xo_if_le (tgt := 73) dX5_says_66 rfl (fun _ => ?_) (fun _ => ?_)
  · refine xo_iconst kc_0 dX5_says_73 ?_
    exact xo_zret dX5_says_74 rfl
  · refine xo_iconst kc_1 dX5_says_69 ?_
    refine xo_goto (tgt := 74) dX5_says_70 rfl ?_
    exact xo_zret dX5_says_74 rfl
theorem o_X5_says_2 : ∀ (n : Nat) (x0 : Nat) (x1 : Nat) (x2 : Int32) (t : mk_S), mk_O mk_wi M_X5_says 2 [some (.ref x0), some (.ref x1), some (.int x2)] [] t (B_X5_says_2 n x0 x1 x2 t) := by
  intro n
  induction n with
  | zero =>
    intro x0 x1 x2 t
    exact mk_O.none
  | succ n ih =>
    intro x0 x1 x2 t
    rw [B_X5_says_2]
    refine xo_iload_n rfl rfl dX5_says_2 ?_
    refine xo_aload_n rfl rfl dX5_says_3 ?_
    refine xo_geti dX5_says_4 cl_4 fl_RX5_22 rfl (fun v1 => ?_)
    refine xo_icmp_ge (tgt := 81) dX5_says_7 rfl (fun _ => ?_) (fun _ => ?_)
    · refine xo_iconst kc_0 dX5_says_81 ?_
      exact xo_zret dX5_says_82 rfl
    · refine xo_aload_n rfl rfl dX5_says_10 ?_
      refine xo_geta dX5_says_11 cl_4 fl_RX5_28 rfl (fun v2 => ?_)
      refine xo_iload_n rfl rfl dX5_says_14 ?_
      refine xo_iald dX5_says_15 (fun v3 => ?_)
      refine xo_aload_n rfl rfl dX5_says_16 ?_
      refine xo_geta dX5_says_17 cl_4 fl_RX5_31 rfl (fun v4 => ?_)
      refine xo_iload_n rfl rfl dX5_says_20 ?_
      refine xo_iald dX5_says_21 (fun v5 => ?_)
      refine xo_icmp_eq (tgt := 47) dX5_says_22 rfl (fun _ => ?_) (fun _ => ?_)
      · exact mk_O.wk (o_X5_says_47 x0 x1 x2 t) ⟨rfl, ⟨rfl, ⟨rfl, trivial⟩⟩⟩
      · refine xo_aload_n rfl rfl dX5_says_25 ?_
        refine xo_aload_n rfl rfl dX5_says_26 ?_
        refine xo_geta dX5_says_27 cl_4 fl_RX5_28 rfl (fun v6 => ?_)
        refine xo_iload_n rfl rfl dX5_says_30 ?_
        refine xo_iald dX5_says_31 (fun v7 => ?_)
        refine xo_aload_n rfl rfl dX5_says_32 ?_
        refine xo_geta dX5_says_33 cl_4 fl_RX5_31 rfl (fun v8 => ?_)
        refine xo_iload_n rfl rfl dX5_says_36 ?_
        refine xo_iald dX5_says_37 (fun v9 => ?_)
        refine xo_aload_n rfl rfl dX5_says_38 ?_
        refine mk_O.callV (N := M_X5_worth) (ci := 4) (q := (RX5, TX5, 8)) (b := x0) (As1 := [.int v7, .int v9, .ref x1]) (S := []) md_X5_worth mv_X5_worth lk_RX5_38 rfl (Nat.le_of_ble_eq_true rfl) (by decide) dX5_says_39 rfl rfl rfl (fun z hz => (c_X5_worth x0 v7 v9 x1 t z hz).1) (fun z hz => (c_X5_worth x0 v7 v9 x1 t z hz).2) (fun z10 _ => ?_)
        show mk_O _ _ _ _ (.long z10.1 :: []) _ _
        refine xo_lconst kl_0 dX5_says_42 ?_
        refine xo_lcmp dX5_says_43 ?_
        refine xo_if_eq (tgt := 75) dX5_says_44 rfl (fun _ => ?_) (fun _ => ?_)
        · refine xo_iinc rfl (congrArg _ kc_1) (by decide) (mk_p1_v rfl rfl) dX5_says_75 ?_
          refine xo_goto (tgt := 2) dX5_says_78 rfl ?_
          exact mk_O.wk (ih x0 x1 (x2 + (1 : Int32)) z10.2) ⟨rfl, ⟨rfl, ⟨rfl, trivial⟩⟩⟩
        · exact mk_O.wk (o_X5_says_47 x0 x1 x2 z10.2) ⟨rfl, ⟨rfl, ⟨rfl, trivial⟩⟩⟩
theorem p_X5_says (x0 : Nat) (x1 : Nat) (t : mk_S) : mk_O mk_wi M_X5_says 0 [some (.ref x0), some (.ref x1), none] [] t (B_X5_says_2 mk_fu x0 x1 (0 : Int32) t) := by
  refine xo_iconst kc_0 dX5_says_0 ?_
  refine xo_istore_n rfl (by decide) (mk_p1_v rfl rfl) dX5_says_1 ?_
  exact mk_O.wk (o_X5_says_2 mk_fu x0 x1 (0 : Int32) t) ⟨rfl, ⟨rfl, ⟨rfl, trivial⟩⟩⟩
theorem c_X5_says (x0 : Nat) (x1 : Nat) (t : mk_S) (z : Int32 × mk_S) (h : F_X5_says x0 x1 t = some z) : mk_is t x0 4 ∧ mk_Ct M_X5_says [.ref x0, .ref x1] t (mk_wi z.1, z.2) :=
  ⟨(mk_gd_spec h).1, mk_ct (w := mk_wi) (by decide +kernel) (Nat.le_of_ble_eq_true rfl) (p_X5_says x0 x1 t) z (mk_gd_spec h).2⟩
def B_X9_giversOf_85 (k6 : Nat → Nat → Option Nat → Nat → Int32 → Int32 → Int32 → mk_S → Option (Int32 × mk_S)) (x0 : Nat) (x1 : Nat) (x2 : Option Nat) (x3 : Nat) (x4 : Int32) (x5 : Int32) (x6 : Int32) (t : mk_S) : Option (Int32 × mk_S) := k6 x0 x1 x2 x3 x4 x5 (x6 + (1 : Int32)) t
def B_X9_giversOf_64 (k6 : Nat → Nat → Option Nat → Nat → Int32 → Int32 → Int32 → mk_S → Option (Int32 × mk_S)) (x0 : Nat) (x1 : Nat) (x2 : Option Nat) (x3 : Nat) (x4 : Int32) (x5 : Int32) (x6 : Int32) (x7 : Int32) (t : mk_S) : Option (Int32 × mk_S) := if x7 = 0 then (B_X9_giversOf_85 k6 x0 x1 x2 x3 x4 x5 x6 t) else (if x6 = x4 then (B_X9_giversOf_85 k6 x0 x1 x2 x3 x4 x5 x6 t) else (B_X9_giversOf_85 k6 x0 x1 x2 x3 x4 (x5 ||| ((1 : Int32) <<< (x6 &&& 31))) x6 t))
def B_X9_giversOf_41 (k6 : Nat → Nat → Option Nat → Nat → Int32 → Int32 → Int32 → mk_S → Option (Int32 × mk_S)) (x0 : Nat) (x1 : Nat) (x2 : Option Nat) (x3 : Nat) (x4 : Int32) (x5 : Int32) (x6 : Int32) (s0 : Int32) (t : mk_S) : Option (Int32 × mk_S) := B_X9_giversOf_64 k6 x0 x1 x2 x3 x4 x5 x6 s0 t
def B_X9_giversOf_6 : Nat → Nat → Nat → Option Nat → Nat → Int32 → Int32 → Int32 → mk_S → Option (Int32 × mk_S)
  | 0, _, _, _, _, _, _, _, _ => none
  | n + 1, x0, x1, x2, x3, x4, x5, x6, t => (mk_gi t x1 3 2).bind fun v1 => if v1 ≤ x6 then (some (x5, t)) else (mk_nn x2 (fun a2 => (F_X9_tell x0 x1 x3 x6 t).bind fun z3 => (mk_ga z3.2 x0 8 0).bind fun v4 => (F_X5_says a2 v4 z3.2).bind fun z5 => B_X9_giversOf_64 (B_X9_giversOf_6 n) x0 x1 (some a2) x3 x4 x5 x6 z5.1 z5.2) ((mk_ga t x3 6 2).bind fun v6 => (mk_ld 100 t v6 x6).bind fun v7 => (mk_ga t x1 3 6).bind fun v8 => (mk_ld 100 t v8 x6).bind fun v9 => if v7 ≤ v9 then (B_X9_giversOf_41 (B_X9_giversOf_6 n) x0 x1 x2 x3 x4 x5 x6 (0 : Int32) t) else (B_X9_giversOf_41 (B_X9_giversOf_6 n) x0 x1 x2 x3 x4 x5 x6 (1 : Int32) t)))
def F_X9_giversOf (x0 : Nat) (x1 : Nat) (x2 : Option Nat) (x3 : Nat) (x4 : Int32) (t : mk_S) : Option (Int32 × mk_S) := mk_gd t x0 8 (B_X9_giversOf_6 mk_fu x0 x1 x2 x3 x4 (0 : Int32) (0 : Int32) t)
theorem o_X9_giversOf_85 (k6 : Nat → Nat → Option Nat → Nat → Int32 → Int32 → Int32 → mk_S → Option (Int32 × mk_S)) (h6 : ∀ (x0 : Nat) (x1 : Nat) (x2 : Option Nat) (x3 : Nat) (x4 : Int32) (x5 : Int32) (x6 : Int32) (t : mk_S), mk_O mk_wi M_X9_giversOf 6 [some (.ref x0), some (.ref x1), some (va_rf x2), some (.ref x3), some (.int x4), some (.int x5), some (.int x6), none] [] t (k6 x0 x1 x2 x3 x4 x5 x6 t)) (x0 : Nat) (x1 : Nat) (x2 : Option Nat) (x3 : Nat) (x4 : Int32) (x5 : Int32) (x6 : Int32) (t : mk_S) : mk_O mk_wi M_X9_giversOf 85 [some (.ref x0), some (.ref x1), some (va_rf x2), some (.ref x3), some (.int x4), some (.int x5), some (.int x6), none] [] t (B_X9_giversOf_85 k6 x0 x1 x2 x3 x4 x5 x6 t) := by
  unfold B_X9_giversOf_85
  refine xo_iinc rfl (congrArg _ kc_1) (by decide) (mk_p1_v rfl rfl) dX9_giversOf_85 ?_
  refine xo_goto (tgt := 6) dX9_giversOf_88 rfl ?_
  exact mk_O.wk (h6 x0 x1 x2 x3 x4 x5 (x6 + (1 : Int32)) t) ⟨rfl, ⟨rfl, ⟨rfl, ⟨rfl, ⟨rfl, ⟨rfl, ⟨rfl, trivial⟩⟩⟩⟩⟩⟩⟩
theorem o_X9_giversOf_64 (k6 : Nat → Nat → Option Nat → Nat → Int32 → Int32 → Int32 → mk_S → Option (Int32 × mk_S)) (h6 : ∀ (x0 : Nat) (x1 : Nat) (x2 : Option Nat) (x3 : Nat) (x4 : Int32) (x5 : Int32) (x6 : Int32) (t : mk_S), mk_O mk_wi M_X9_giversOf 6 [some (.ref x0), some (.ref x1), some (va_rf x2), some (.ref x3), some (.int x4), some (.int x5), some (.int x6), none] [] t (k6 x0 x1 x2 x3 x4 x5 x6 t)) (x0 : Nat) (x1 : Nat) (x2 : Option Nat) (x3 : Nat) (x4 : Int32) (x5 : Int32) (x6 : Int32) (x7 : Int32) (t : mk_S) : mk_O mk_wi M_X9_giversOf 64 [some (.ref x0), some (.ref x1), some (va_rf x2), some (.ref x3), some (.int x4), some (.int x5), some (.int x6), some (.int x7)] [] t (B_X9_giversOf_64 k6 x0 x1 x2 x3 x4 x5 x6 x7 t) := by
  unfold B_X9_giversOf_64
  refine xo_iload rfl dX9_giversOf_64 ?_
  refine xo_if_eq (tgt := 85) dX9_giversOf_66 rfl (fun _ => ?_) (fun _ => ?_)
  · exact mk_O.wk (o_X9_giversOf_85 _ h6 x0 x1 x2 x3 x4 x5 x6 t) ⟨rfl, ⟨rfl, ⟨rfl, ⟨rfl, ⟨rfl, ⟨rfl, ⟨rfl, trivial⟩⟩⟩⟩⟩⟩⟩
  · refine xo_iload rfl dX9_giversOf_69 ?_
    refine xo_iload rfl dX9_giversOf_71 ?_
    refine xo_icmp_eq (tgt := 85) dX9_giversOf_73 rfl (fun _ => ?_) (fun _ => ?_)
    · exact mk_O.wk (o_X9_giversOf_85 _ h6 x0 x1 x2 x3 x4 x5 x6 t) ⟨rfl, ⟨rfl, ⟨rfl, ⟨rfl, ⟨rfl, ⟨rfl, ⟨rfl, trivial⟩⟩⟩⟩⟩⟩⟩
    · refine xo_iload rfl dX9_giversOf_76 ?_
      refine xo_iconst kc_1 dX9_giversOf_78 ?_
      refine xo_iload rfl dX9_giversOf_79 ?_
      refine xo_ishl dX9_giversOf_81 ?_
      refine xo_ior dX9_giversOf_82 ?_
      refine xo_istore (by decide) (mk_p1_v rfl rfl) dX9_giversOf_83 ?_
      exact mk_O.wk (o_X9_giversOf_85 _ h6 x0 x1 x2 x3 x4 (x5 ||| ((1 : Int32) <<< (x6 &&& 31))) x6 t) ⟨rfl, ⟨rfl, ⟨rfl, ⟨rfl, ⟨rfl, ⟨rfl, ⟨rfl, trivial⟩⟩⟩⟩⟩⟩⟩
theorem o_X9_giversOf_41 (k6 : Nat → Nat → Option Nat → Nat → Int32 → Int32 → Int32 → mk_S → Option (Int32 × mk_S)) (h6 : ∀ (x0 : Nat) (x1 : Nat) (x2 : Option Nat) (x3 : Nat) (x4 : Int32) (x5 : Int32) (x6 : Int32) (t : mk_S), mk_O mk_wi M_X9_giversOf 6 [some (.ref x0), some (.ref x1), some (va_rf x2), some (.ref x3), some (.int x4), some (.int x5), some (.int x6), none] [] t (k6 x0 x1 x2 x3 x4 x5 x6 t)) (x0 : Nat) (x1 : Nat) (x2 : Option Nat) (x3 : Nat) (x4 : Int32) (x5 : Int32) (x6 : Int32) (s0 : Int32) (t : mk_S) : mk_O mk_wi M_X9_giversOf 41 [some (.ref x0), some (.ref x1), some (va_rf x2), some (.ref x3), some (.int x4), some (.int x5), some (.int x6), none] [.int s0] t (B_X9_giversOf_41 k6 x0 x1 x2 x3 x4 x5 x6 s0 t) := by
  unfold B_X9_giversOf_41
  refine xo_istore (by decide) (mk_p1_v rfl rfl) dX9_giversOf_41 ?_
  refine xo_goto (tgt := 64) dX9_giversOf_43 rfl ?_
  exact mk_O.wk (o_X9_giversOf_64 _ h6 x0 x1 x2 x3 x4 x5 x6 s0 t) ⟨rfl, ⟨rfl, ⟨rfl, ⟨rfl, ⟨rfl, ⟨rfl, ⟨rfl, ⟨rfl, trivial⟩⟩⟩⟩⟩⟩⟩⟩
theorem o_X9_giversOf_6 : ∀ (n : Nat) (x0 : Nat) (x1 : Nat) (x2 : Option Nat) (x3 : Nat) (x4 : Int32) (x5 : Int32) (x6 : Int32) (t : mk_S), mk_O mk_wi M_X9_giversOf 6 [some (.ref x0), some (.ref x1), some (va_rf x2), some (.ref x3), some (.int x4), some (.int x5), some (.int x6), none] [] t (B_X9_giversOf_6 n x0 x1 x2 x3 x4 x5 x6 t) := by
  intro n
  induction n with
  | zero =>
    intro x0 x1 x2 x3 x4 x5 x6 t
    exact mk_O.none
  | succ n ih =>
    intro x0 x1 x2 x3 x4 x5 x6 t
    rw [B_X9_giversOf_6]
    refine xo_iload rfl dX9_giversOf_6 ?_
    refine xo_aload_n rfl rfl dX9_giversOf_8 ?_
    refine xo_geti dX9_giversOf_9 cl_3 fl_RX9_15 rfl (fun v1 => ?_)
    refine xo_icmp_ge (tgt := 91) dX9_giversOf_12 rfl (fun _ => ?_) (fun _ => ?_)
    · refine xo_iload rfl dX9_giversOf_91 ?_
      exact xo_iret dX9_giversOf_93 rfl
    · refine xo_aload_nq rfl rfl dX9_giversOf_15 ?_
      refine xo_ifnonnull (tgt := 46) dX9_giversOf_16 rfl (fun a2 ha2 => ?_) (fun _ => ?_)
      · subst ha2
        refine xo_aload_n rfl rfl dX9_giversOf_46 ?_
        refine xo_aload_n rfl rfl dX9_giversOf_47 ?_
        refine xo_aload_n rfl rfl dX9_giversOf_48 ?_
        refine xo_iload rfl dX9_giversOf_49 ?_
        refine mk_O.callV (N := M_X9_tell) (ci := 8) (q := (RX9, TX9, 1)) (b := x0) (As1 := [.ref x1, .ref x3, .int x6]) (S := []) md_X9_tell mv_X9_tell lk_RX9_55 rfl (Nat.le_of_ble_eq_true rfl) (by decide) dX9_giversOf_51 rfl rfl rfl (fun z hz => (c_X9_tell x0 x1 x3 x6 t z hz).1) (fun z hz => (c_X9_tell x0 x1 x3 x6 t z hz).2) (fun z3 _ => ?_)
        show mk_O _ _ _ _ [] _ _
        refine xo_aload_n rfl rfl dX9_giversOf_54 ?_
        refine xo_aload_n rfl rfl dX9_giversOf_55 ?_
        refine xo_geta dX9_giversOf_56 cl_8 fl_RX9_9 rfl (fun v4 => ?_)
        refine mk_O.callV (N := M_X5_says) (ci := 4) (q := (RX5, TX5, 8)) (b := a2) (As1 := [.ref v4]) (S := []) md_X5_says mv_X5_says lk_RX9_58 rfl (Nat.le_of_ble_eq_true rfl) (by decide) dX9_giversOf_59 rfl rfl rfl (fun z hz => (c_X5_says a2 v4 z3.2 z hz).1) (fun z hz => (c_X5_says a2 v4 z3.2 z hz).2) (fun z5 _ => ?_)
        show mk_O _ _ _ _ (.int z5.1 :: []) _ _
        refine xo_istore (by decide) (mk_p1_v rfl rfl) dX9_giversOf_62 ?_
        exact mk_O.wk (o_X9_giversOf_64 _ ih x0 x1 (some a2) x3 x4 x5 x6 z5.1 z5.2) ⟨rfl, ⟨rfl, ⟨rfl, ⟨rfl, ⟨rfl, ⟨rfl, ⟨rfl, ⟨rfl, trivial⟩⟩⟩⟩⟩⟩⟩⟩
      · refine xo_aload_n rfl rfl dX9_giversOf_19 ?_
        refine xo_geta dX9_giversOf_20 cl_6 fl_RX9_48 rfl (fun v6 => ?_)
        refine xo_iload rfl dX9_giversOf_23 ?_
        refine xo_iald dX9_giversOf_25 (fun v7 => ?_)
        refine xo_aload_n rfl rfl dX9_giversOf_26 ?_
        refine xo_geta dX9_giversOf_27 cl_3 fl_RX9_52 rfl (fun v8 => ?_)
        refine xo_iload rfl dX9_giversOf_30 ?_
        refine xo_iald dX9_giversOf_32 (fun v9 => ?_)
        refine xo_icmp_le (tgt := 40) dX9_giversOf_33 rfl (fun _ => ?_) (fun _ => ?_)
        · refine xo_iconst kc_0 dX9_giversOf_40 ?_
          exact mk_O.wk (o_X9_giversOf_41 _ ih x0 x1 x2 x3 x4 x5 x6 (0 : Int32) t) ⟨rfl, ⟨rfl, ⟨rfl, ⟨rfl, ⟨rfl, ⟨rfl, ⟨rfl, trivial⟩⟩⟩⟩⟩⟩⟩
        · refine xo_iconst kc_1 dX9_giversOf_36 ?_
          refine xo_goto (tgt := 41) dX9_giversOf_37 rfl ?_
          exact mk_O.wk (o_X9_giversOf_41 _ ih x0 x1 x2 x3 x4 x5 x6 (1 : Int32) t) ⟨rfl, ⟨rfl, ⟨rfl, ⟨rfl, ⟨rfl, ⟨rfl, ⟨rfl, trivial⟩⟩⟩⟩⟩⟩⟩
theorem p_X9_giversOf (x0 : Nat) (x1 : Nat) (x2 : Option Nat) (x3 : Nat) (x4 : Int32) (t : mk_S) : mk_O mk_wi M_X9_giversOf 0 [some (.ref x0), some (.ref x1), some (va_rf x2), some (.ref x3), some (.int x4), none, none, none] [] t (B_X9_giversOf_6 mk_fu x0 x1 x2 x3 x4 (0 : Int32) (0 : Int32) t) := by
  refine xo_iconst kc_0 dX9_giversOf_0 ?_
  refine xo_istore (by decide) (mk_p1_v rfl rfl) dX9_giversOf_1 ?_
  refine xo_iconst kc_0 dX9_giversOf_3 ?_
  refine xo_istore (by decide) (mk_p1_v rfl rfl) dX9_giversOf_4 ?_
  exact mk_O.wk (o_X9_giversOf_6 mk_fu x0 x1 x2 x3 x4 (0 : Int32) (0 : Int32) t) ⟨rfl, ⟨rfl, ⟨rfl, ⟨rfl, ⟨rfl, ⟨rfl, ⟨rfl, trivial⟩⟩⟩⟩⟩⟩⟩
theorem c_X9_giversOf (x0 : Nat) (x1 : Nat) (x2 : Option Nat) (x3 : Nat) (x4 : Int32) (t : mk_S) (z : Int32 × mk_S) (h : F_X9_giversOf x0 x1 x2 x3 x4 t = some z) : mk_is t x0 8 ∧ mk_Ct M_X9_giversOf [.ref x0, .ref x1, va_rf x2, .ref x3, .int x4] t (mk_wi z.1, z.2) := by
  refine ⟨(mk_gd_spec h).1, ?_⟩
  cases x2 with
  | none => exact mk_ct (w := mk_wi) (by decide +kernel) (Nat.le_of_ble_eq_true rfl) (p_X9_giversOf x0 x1 none x3 x4 t) z (mk_gd_spec h).2
  | some a => exact mk_ct (w := mk_wi) (by decide +kernel) (Nat.le_of_ble_eq_true rfl) (p_X9_giversOf x0 x1 (some a) x3 x4 t) z (mk_gd_spec h).2
def B_J7_fill_53178_5 : Nat → Nat → Int32 → Int32 → Int32 → mk_S → Option (Unit × mk_S)
  | 0, _, _, _, _, _ => none
  | n + 1, x0, x1, x2, x3, t => if x3 ≤ x2 then (some ((), t)) else ((mk_st 100 t x0 x2 x1).bind fun t1 => B_J7_fill_53178_5 n x0 x1 (x2 + (1 : Int32)) x3 t1)
def F_J7_fill_53178 (x0 : Nat) (x1 : Int32) (t : mk_S) : Option (Unit × mk_S) := (mk_len t x0).bind fun v1 => B_J7_fill_53178_5 mk_fu x0 x1 (0 : Int32) v1 t
theorem o_J7_fill_53178_5 : ∀ (n : Nat) (x0 : Nat) (x1 : Int32) (x2 : Int32) (x3 : Int32) (t : mk_S), mk_O mk_wu M_J7_fill_53178 5 [some (.ref x0), some (.int x1), some (.int x2), some (.int x3)] [] t (B_J7_fill_53178_5 n x0 x1 x2 x3 t) := by
  intro n
  induction n with
  | zero =>
    intro x0 x1 x2 x3 t
    exact mk_O.none
  | succ n ih =>
    intro x0 x1 x2 x3 t
    rw [B_J7_fill_53178_5]
    refine xo_iload_n rfl rfl dJ7_fill_53178_5 ?_
    refine xo_iload_n rfl rfl dJ7_fill_53178_6 ?_
    refine xo_icmp_ge (tgt := 20) dJ7_fill_53178_7 rfl (fun _ => ?_) (fun _ => ?_)
    · exact xo_vret dJ7_fill_53178_20 rfl
    · refine xo_aload_n rfl rfl dJ7_fill_53178_10 ?_
      refine xo_iload_n rfl rfl dJ7_fill_53178_11 ?_
      refine xo_iload_n rfl rfl dJ7_fill_53178_12 ?_
      refine xo_iast dJ7_fill_53178_13 (fun t1 => ?_)
      refine xo_iinc rfl (congrArg _ kc_1) (by decide) (mk_p1_v rfl rfl) dJ7_fill_53178_14 ?_
      refine xo_goto (tgt := 5) dJ7_fill_53178_17 rfl ?_
      exact mk_O.wk (ih x0 x1 (x2 + (1 : Int32)) x3 t1) ⟨rfl, ⟨rfl, ⟨rfl, ⟨rfl, trivial⟩⟩⟩⟩
theorem p_J7_fill_53178 (x0 : Nat) (x1 : Int32) (t : mk_S) : mk_O mk_wu M_J7_fill_53178 0 [some (.ref x0), some (.int x1), none, none] [] t ((mk_len t x0).bind fun v1 => B_J7_fill_53178_5 mk_fu x0 x1 (0 : Int32) v1 t) := by
  refine xo_iconst kc_0 dJ7_fill_53178_0 ?_
  refine xo_istore_n rfl (by decide) (mk_p1_v rfl rfl) dJ7_fill_53178_1 ?_
  refine xo_aload_n rfl rfl dJ7_fill_53178_2 ?_
  refine xo_alen dJ7_fill_53178_3 (fun v1 => ?_)
  refine xo_istore_n rfl (by decide) (mk_p1_v rfl rfl) dJ7_fill_53178_4 ?_
  exact mk_O.wk (o_J7_fill_53178_5 mk_fu x0 x1 (0 : Int32) v1 t) ⟨rfl, ⟨rfl, ⟨rfl, ⟨rfl, trivial⟩⟩⟩⟩
theorem c_J7_fill_53178 (x0 : Nat) (x1 : Int32) (t : mk_S) (z : Unit × mk_S) (h : F_J7_fill_53178 x0 x1 t = some z) : mk_Ct M_J7_fill_53178 [.ref x0, .int x1] t (mk_wu z.1, z.2) :=
  mk_ct (w := mk_wu) (by decide +kernel) (Nat.le_of_ble_eq_true rfl) (p_J7_fill_53178 x0 x1 t) z h
def B_X3_has_28 (t : mk_S) : Option (Int32 × mk_S) := mk_rz (0 : Int32) t
def F_X3_has (x0 : Nat) (x1 : Int32) (x2 : Int32) (t : mk_S) : Option (Int32 × mk_S) := mk_gd t x0 3 (if x1 < 0 then (B_X3_has_28 t) else ((mk_gi t x0 3 0).bind fun v1 => if v1 ≤ x1 then (B_X3_has_28 t) else (if x2 < 0 then (B_X3_has_28 t) else ((mk_gi t x0 3 0).bind fun v2 => if v2 ≤ x2 then (B_X3_has_28 t) else (mk_rz (1 : Int32) t)))))
theorem o_X3_has_28 (t : mk_S) : mk_O mk_wi M_X3_has 28 [none, none, none] [] t (B_X3_has_28  t) := by
  unfold B_X3_has_28
  refine xo_iconst kc_0 dX3_has_28 ?_
  exact xo_zret dX3_has_29 rfl
theorem p_X3_has (x0 : Nat) (x1 : Int32) (x2 : Int32) (t : mk_S) : mk_O mk_wi M_X3_has 0 [some (.ref x0), some (.int x1), some (.int x2)] [] t (if x1 < 0 then (B_X3_has_28 t) else ((mk_gi t x0 3 0).bind fun v1 => if v1 ≤ x1 then (B_X3_has_28 t) else (if x2 < 0 then (B_X3_has_28 t) else ((mk_gi t x0 3 0).bind fun v2 => if v2 ≤ x2 then (B_X3_has_28 t) else (mk_rz (1 : Int32) t))))) := by
  refine xo_iload_n rfl rfl dX3_has_0 ?_
  refine xo_if_lt (tgt := 28) dX3_has_1 rfl (fun _ => ?_) (fun _ => ?_)
  · exact mk_O.wk (o_X3_has_28 t) trivial
  · refine xo_iload_n rfl rfl dX3_has_4 ?_
    refine xo_aload_n rfl rfl dX3_has_5 ?_
    refine xo_geti dX3_has_6 cl_3 fl_RX3_9 rfl (fun v1 => ?_)
    refine xo_icmp_ge (tgt := 28) dX3_has_9 rfl (fun _ => ?_) (fun _ => ?_)
    · exact mk_O.wk (o_X3_has_28 t) trivial
    · refine xo_iload_n rfl rfl dX3_has_12 ?_
      refine xo_if_lt (tgt := 28) dX3_has_13 rfl (fun _ => ?_) (fun _ => ?_)
      · exact mk_O.wk (o_X3_has_28 t) trivial
      · refine xo_iload_n rfl rfl dX3_has_16 ?_
        refine xo_aload_n rfl rfl dX3_has_17 ?_
        refine xo_geti dX3_has_18 cl_3 fl_RX3_9 rfl (fun v2 => ?_)
        refine xo_icmp_ge (tgt := 28) dX3_has_21 rfl (fun _ => ?_) (fun _ => ?_)
        · exact mk_O.wk (o_X3_has_28 t) trivial
        · refine xo_iconst kc_1 dX3_has_24 ?_
          refine xo_goto (tgt := 29) dX3_has_25 rfl ?_
          exact xo_zret dX3_has_29 rfl
theorem c_X3_has (x0 : Nat) (x1 : Int32) (x2 : Int32) (t : mk_S) (z : Int32 × mk_S) (h : F_X3_has x0 x1 x2 t = some z) : mk_is t x0 3 ∧ mk_Ct M_X3_has [.ref x0, .int x1, .int x2] t (mk_wi z.1, z.2) :=
  ⟨(mk_gd_spec h).1, mk_ct (w := mk_wi) (by decide +kernel) (Nat.le_of_ble_eq_true rfl) (p_X3_has x0 x1 x2 t) z (mk_gd_spec h).2⟩
def B_X9_puff_109 (k42 : Nat → Nat → Int32 → Int32 → Int32 → Int32 → mk_S → Option (Unit × mk_S)) (x0 : Nat) (x3 : Nat) (x4 : Int32) (x5 : Int32) (x6 : Int32) (x7 : Int32) (t : mk_S) : Option (Unit × mk_S) := k42 x0 x3 x4 x5 x6 (x7 + (-1 : Int32)) t
def B_X9_puff_42 : Nat → Nat → Nat → Int32 → Int32 → Int32 → Int32 → mk_S → Option (Unit × mk_S)
  | 0, _, _, _, _, _, _, _ => none
  | n + 1, x0, x3, x4, x5, x6, x7, t => if x7 ≤ 0 then (some ((), t)) else ((mk_ld 100 t 2000000 x6).bind fun v1 => (mk_ld 100 t 2000001 x6).bind fun v2 => (F_X3_has x0 (x4 + v1) (x5 + v2) t).bind fun z3 => if z3.1 = 0 then (some ((), z3.2)) else ((mk_gi z3.2 x0 3 0).bind fun v4 => (mk_len z3.2 x3).bind fun v5 => if v5 ≤ (((x4 + v1) * v4) + (x5 + v2)) then (B_X9_puff_109 (B_X9_puff_42 n) x0 x3 (x4 + v1) (x5 + v2) x6 x7 z3.2) else ((mk_ld 100 z3.2 x3 (((x4 + v1) * v4) + (x5 + v2))).bind fun v6 => (mk_st 100 z3.2 x3 (((x4 + v1) * v4) + (x5 + v2)) (v6 + x7)).bind fun t7 => B_X9_puff_109 (B_X9_puff_42 n) x0 x3 (x4 + v1) (x5 + v2) x6 x7 t7)))
def F_X9_puff (x0 : Nat) (x1 : Nat) (x2 : Int32) (x3 : Nat) (t : mk_S) : Option (Unit × mk_S) := (mk_ga t x1 6 0).bind fun v1 => (mk_ld 100 t v1 x2).bind fun v2 => (F_X3_rowOf x0 v2 t).bind fun z3 => (mk_ga z3.2 x1 6 0).bind fun v4 => (mk_ld 100 z3.2 v4 x2).bind fun v5 => (F_X3_columnOf x0 v5 z3.2).bind fun z6 => (mk_ga z6.2 x1 6 1).bind fun v7 => (mk_ld 100 z6.2 v7 x2).bind fun v8 => (mk_ga z6.2 x1 6 2).bind fun v9 => (mk_ld 100 z6.2 v9 x2).bind fun v10 => B_X9_puff_42 mk_fu x0 x3 z3.1 z6.1 (v8 &&& (3 : Int32)) v10 z6.2
theorem o_X9_puff_109 (k42 : Nat → Nat → Int32 → Int32 → Int32 → Int32 → mk_S → Option (Unit × mk_S)) (h42 : ∀ (x0 : Nat) (x3 : Nat) (x4 : Int32) (x5 : Int32) (x6 : Int32) (x7 : Int32) (t : mk_S), mk_O mk_wu M_X9_puff 42 [some (.ref x0), none, none, some (.ref x3), some (.int x4), some (.int x5), some (.int x6), some (.int x7), none] [] t (k42 x0 x3 x4 x5 x6 x7 t)) (x0 : Nat) (x3 : Nat) (x4 : Int32) (x5 : Int32) (x6 : Int32) (x7 : Int32) (t : mk_S) : mk_O mk_wu M_X9_puff 109 [some (.ref x0), none, none, some (.ref x3), some (.int x4), some (.int x5), some (.int x6), some (.int x7), none] [] t (B_X9_puff_109 k42 x0 x3 x4 x5 x6 x7 t) := by
  unfold B_X9_puff_109
  refine xo_iinc rfl (congrArg _ kc_m1) (by decide) (mk_p1_v rfl rfl) dX9_puff_109 ?_
  refine xo_goto (tgt := 42) dX9_puff_112 rfl ?_
  exact mk_O.wk (h42 x0 x3 x4 x5 x6 (x7 + (-1 : Int32)) t) ⟨rfl, ⟨rfl, ⟨rfl, ⟨rfl, ⟨rfl, ⟨rfl, trivial⟩⟩⟩⟩⟩⟩
theorem o_X9_puff_42 : ∀ (n : Nat) (x0 : Nat) (x3 : Nat) (x4 : Int32) (x5 : Int32) (x6 : Int32) (x7 : Int32) (t : mk_S), mk_O mk_wu M_X9_puff 42 [some (.ref x0), none, none, some (.ref x3), some (.int x4), some (.int x5), some (.int x6), some (.int x7), none] [] t (B_X9_puff_42 n x0 x3 x4 x5 x6 x7 t) := by
  intro n
  induction n with
  | zero =>
    intro x0 x3 x4 x5 x6 x7 t
    exact mk_O.none
  | succ n ih =>
    intro x0 x3 x4 x5 x6 x7 t
    rw [B_X9_puff_42]
    refine xo_iload rfl dX9_puff_42 ?_
    refine xo_if_le (tgt := 115) dX9_puff_44 rfl (fun _ => ?_) (fun _ => ?_)
    · exact xo_vret dX9_puff_115 rfl
    · refine xo_iload rfl dX9_puff_47 ?_
      refine xo_row (mk_n4 (i := 122) rfl rfl) dX9_puff_49 ?_
      refine xo_iload rfl dX9_puff_52 ?_
      refine xo_iald dX9_puff_54 (fun v1 => ?_)
      refine xo_iadd dX9_puff_55 ?_
      refine xo_istore (by decide) (mk_p1_v rfl rfl) dX9_puff_56 ?_
      refine xo_iload rfl dX9_puff_58 ?_
      refine xo_col (mk_n4 (i := 124) rfl rfl) dX9_puff_60 ?_
      refine xo_iload rfl dX9_puff_63 ?_
      refine xo_iald dX9_puff_65 (fun v2 => ?_)
      refine xo_iadd dX9_puff_66 ?_
      refine xo_istore (by decide) (mk_p1_v rfl rfl) dX9_puff_67 ?_
      refine xo_aload_n rfl rfl dX9_puff_69 ?_
      refine xo_iload rfl dX9_puff_70 ?_
      refine xo_iload rfl dX9_puff_72 ?_
      refine mk_O.callV (N := M_X3_has) (ci := 3) (q := (RX3, TX3, 12)) (b := x0) (As1 := [.int (x4 + v1), .int (x5 + v2)]) (S := []) md_X3_has mv_X3_has lk_RX9_123 rfl (Nat.le_of_ble_eq_true rfl) (by decide) dX9_puff_74 rfl rfl rfl (fun z hz => (c_X3_has x0 (x4 + v1) (x5 + v2) t z hz).1) (fun z hz => (c_X3_has x0 (x4 + v1) (x5 + v2) t z hz).2) (fun z3 _ => ?_)
      show mk_O _ _ _ _ (.int z3.1 :: []) _ _
      refine xo_if_ne (tgt := 81) dX9_puff_77 rfl (fun _ => ?_) (fun _ => ?_)
      · exact xo_vret dX9_puff_80 rfl
      · refine xo_iload rfl dX9_puff_81 ?_
        refine xo_aload_n rfl rfl dX9_puff_83 ?_
        refine xo_geti dX9_puff_84 cl_3 fl_RX9_127 rfl (fun v4 => ?_)
        refine xo_imul dX9_puff_87 ?_
        refine xo_iload rfl dX9_puff_88 ?_
        refine xo_iadd dX9_puff_90 ?_
        refine xo_istore (by decide) (mk_p1_v rfl rfl) dX9_puff_91 ?_
        refine xo_iload rfl dX9_puff_93 ?_
        refine xo_aload_n rfl rfl dX9_puff_95 ?_
        refine xo_alen dX9_puff_96 (fun v5 => ?_)
        refine xo_icmp_ge (tgt := 109) dX9_puff_97 rfl (fun _ => ?_) (fun _ => ?_)
        · exact mk_O.wk (o_X9_puff_109 _ ih x0 x3 (x4 + v1) (x5 + v2) x6 x7 z3.2) ⟨rfl, ⟨rfl, ⟨rfl, ⟨rfl, ⟨rfl, ⟨rfl, trivial⟩⟩⟩⟩⟩⟩
        · refine xo_aload_n rfl rfl dX9_puff_100 ?_
          refine xo_iload rfl dX9_puff_101 ?_
          refine xo_dup2 rfl rfl dX9_puff_103 ?_
          refine xo_iald dX9_puff_104 (fun v6 => ?_)
          refine xo_iload rfl dX9_puff_105 ?_
          refine xo_iadd dX9_puff_107 ?_
          refine xo_iast dX9_puff_108 (fun t7 => ?_)
          exact mk_O.wk (o_X9_puff_109 _ ih x0 x3 (x4 + v1) (x5 + v2) x6 x7 t7) ⟨rfl, ⟨rfl, ⟨rfl, ⟨rfl, ⟨rfl, ⟨rfl, trivial⟩⟩⟩⟩⟩⟩
theorem p_X9_puff (x0 : Nat) (x1 : Nat) (x2 : Int32) (x3 : Nat) (t : mk_S) : mk_O mk_wu M_X9_puff 0 [some (.ref x0), some (.ref x1), some (.int x2), some (.ref x3), none, none, none, none, none] [] t ((mk_ga t x1 6 0).bind fun v1 => (mk_ld 100 t v1 x2).bind fun v2 => (F_X3_rowOf x0 v2 t).bind fun z3 => (mk_ga z3.2 x1 6 0).bind fun v4 => (mk_ld 100 z3.2 v4 x2).bind fun v5 => (F_X3_columnOf x0 v5 z3.2).bind fun z6 => (mk_ga z6.2 x1 6 1).bind fun v7 => (mk_ld 100 z6.2 v7 x2).bind fun v8 => (mk_ga z6.2 x1 6 2).bind fun v9 => (mk_ld 100 z6.2 v9 x2).bind fun v10 => B_X9_puff_42 mk_fu x0 x3 z3.1 z6.1 (v8 &&& (3 : Int32)) v10 z6.2) := by
  refine xo_aload_n rfl rfl dX9_puff_0 ?_
  refine xo_aload_n rfl rfl dX9_puff_1 ?_
  refine xo_geta dX9_puff_2 cl_6 fl_RX9_67 rfl (fun v1 => ?_)
  refine xo_iload_n rfl rfl dX9_puff_5 ?_
  refine xo_iald dX9_puff_6 (fun v2 => ?_)
  refine mk_O.callV (N := M_X3_rowOf) (ci := 3) (q := (RX3, TX3, 12)) (b := x0) (As1 := [.int v2]) (S := []) md_X3_rowOf mv_X3_rowOf lk_RX9_70 rfl (Nat.le_of_ble_eq_true rfl) (by decide) dX9_puff_7 rfl rfl rfl (fun z hz => (c_X3_rowOf x0 v2 t z hz).1) (fun z hz => (c_X3_rowOf x0 v2 t z hz).2) (fun z3 _ => ?_)
  show mk_O _ _ _ _ (.int z3.1 :: []) _ _
  refine xo_istore (by decide) (mk_p1_v rfl rfl) dX9_puff_10 ?_
  refine xo_aload_n rfl rfl dX9_puff_12 ?_
  refine xo_aload_n rfl rfl dX9_puff_13 ?_
  refine xo_geta dX9_puff_14 cl_6 fl_RX9_67 rfl (fun v4 => ?_)
  refine xo_iload_n rfl rfl dX9_puff_17 ?_
  refine xo_iald dX9_puff_18 (fun v5 => ?_)
  refine mk_O.callV (N := M_X3_columnOf) (ci := 3) (q := (RX3, TX3, 12)) (b := x0) (As1 := [.int v5]) (S := []) md_X3_columnOf mv_X3_columnOf lk_RX9_74 rfl (Nat.le_of_ble_eq_true rfl) (by decide) dX9_puff_19 rfl rfl rfl (fun z hz => (c_X3_columnOf x0 v5 z3.2 z hz).1) (fun z hz => (c_X3_columnOf x0 v5 z3.2 z hz).2) (fun z6 _ => ?_)
  show mk_O _ _ _ _ (.int z6.1 :: []) _ _
  refine xo_istore (by decide) (mk_p1_v rfl rfl) dX9_puff_22 ?_
  refine xo_aload_n rfl rfl dX9_puff_24 ?_
  refine xo_geta dX9_puff_25 cl_6 fl_RX9_64 rfl (fun v7 => ?_)
  refine xo_iload_n rfl rfl dX9_puff_28 ?_
  refine xo_iald dX9_puff_29 (fun v8 => ?_)
  refine xo_iconst kc_3 dX9_puff_30 ?_
  refine xo_iand dX9_puff_31 ?_
  refine xo_istore (by decide) (mk_p1_v rfl rfl) dX9_puff_32 ?_
  refine xo_aload_n rfl rfl dX9_puff_34 ?_
  refine xo_geta dX9_puff_35 cl_6 fl_RX9_48 rfl (fun v9 => ?_)
  refine xo_iload_n rfl rfl dX9_puff_38 ?_
  refine xo_iald dX9_puff_39 (fun v10 => ?_)
  refine xo_istore (by decide) (mk_p1_v rfl rfl) dX9_puff_40 ?_
  exact mk_O.wk (o_X9_puff_42 mk_fu x0 x3 z3.1 z6.1 (v8 &&& (3 : Int32)) v10 z6.2) ⟨rfl, ⟨rfl, ⟨rfl, ⟨rfl, ⟨rfl, ⟨rfl, trivial⟩⟩⟩⟩⟩⟩
theorem c_X9_puff (x0 : Nat) (x1 : Nat) (x2 : Int32) (x3 : Nat) (t : mk_S) (z : Unit × mk_S) (h : F_X9_puff x0 x1 x2 x3 t = some z) : mk_Ct M_X9_puff [.ref x0, .ref x1, .int x2, .ref x3] t (mk_wu z.1, z.2) :=
  mk_ct (w := mk_wu) (by decide +kernel) (Nat.le_of_ble_eq_true rfl) (p_X9_puff x0 x1 x2 x3 t) z h
def B_X9_blow_82 (k10 : Nat → Nat → Int32 → Int32 → mk_S → Option (Unit × mk_S)) (x0 : Nat) (x1 : Nat) (x2 : Int32) (x3 : Int32) (t : mk_S) : Option (Unit × mk_S) := k10 x0 x1 x2 (x3 + (1 : Int32)) t
def B_X9_blow_10 : Nat → Nat → Nat → Int32 → Int32 → mk_S → Option (Unit × mk_S)
  | 0, _, _, _, _, _ => none
  | n + 1, x0, x1, x2, x3, t => (mk_gi t x0 3 2).bind fun v1 => if v1 ≤ x3 then (some ((), t)) else (if ((x2 >>> (x3 &&& 31)) &&& (1 : Int32)) = 0 then ((mk_ga t x1 6 4).bind fun v2 => (mk_ga t x1 6 4).bind fun v3 => (mk_ld 100 t v3 x3).bind fun v4 => (mk_st 100 t v2 x3 (if (v4 + (1 : Int32)) < (99 : Int32) then (v4 + (1 : Int32)) else (99 : Int32))).bind fun t5 => B_X9_blow_82 (B_X9_blow_10 n) x0 x1 x2 x3 t5) else ((mk_ga t x1 6 6).bind fun v6 => (F_X9_puff x0 x1 x3 v6 t).bind fun z7 => (mk_ga z7.2 x1 6 2).bind fun v8 => (mk_st 100 z7.2 v8 x3 (0 : Int32)).bind fun t9 => (mk_ga t9 x1 6 3).bind fun v10 => (mk_ld 100 t9 v10 x3).bind fun v11 => (mk_st 100 t9 v10 x3 (v11 + (1 : Int32))).bind fun t12 => (mk_ga t12 x1 6 4).bind fun v13 => (mk_st 100 t12 v13 x3 (1 : Int32)).bind fun t14 => B_X9_blow_82 (B_X9_blow_10 n) x0 x1 x2 x3 t14))
def F_X9_blow (x0 : Nat) (x1 : Nat) (x2 : Int32) (t : mk_S) : Option (Unit × mk_S) := (mk_ga t x1 6 6).bind fun v1 => (F_J7_fill_53178 v1 (0 : Int32) t).bind fun z2 => B_X9_blow_10 mk_fu x0 x1 x2 (0 : Int32) z2.2
theorem o_X9_blow_82 (k10 : Nat → Nat → Int32 → Int32 → mk_S → Option (Unit × mk_S)) (h10 : ∀ (x0 : Nat) (x1 : Nat) (x2 : Int32) (x3 : Int32) (t : mk_S), mk_O mk_wu M_X9_blow 10 [some (.ref x0), some (.ref x1), some (.int x2), some (.int x3)] [] t (k10 x0 x1 x2 x3 t)) (x0 : Nat) (x1 : Nat) (x2 : Int32) (x3 : Int32) (t : mk_S) : mk_O mk_wu M_X9_blow 82 [some (.ref x0), some (.ref x1), some (.int x2), some (.int x3)] [] t (B_X9_blow_82 k10 x0 x1 x2 x3 t) := by
  unfold B_X9_blow_82
  refine xo_iinc rfl (congrArg _ kc_1) (by decide) (mk_p1_v rfl rfl) dX9_blow_82 ?_
  refine xo_goto (tgt := 10) dX9_blow_85 rfl ?_
  exact mk_O.wk (h10 x0 x1 x2 (x3 + (1 : Int32)) t) ⟨rfl, ⟨rfl, ⟨rfl, ⟨rfl, trivial⟩⟩⟩⟩
theorem o_X9_blow_10 : ∀ (n : Nat) (x0 : Nat) (x1 : Nat) (x2 : Int32) (x3 : Int32) (t : mk_S), mk_O mk_wu M_X9_blow 10 [some (.ref x0), some (.ref x1), some (.int x2), some (.int x3)] [] t (B_X9_blow_10 n x0 x1 x2 x3 t) := by
  intro n
  induction n with
  | zero =>
    intro x0 x1 x2 x3 t
    exact mk_O.none
  | succ n ih =>
    intro x0 x1 x2 x3 t
    rw [B_X9_blow_10]
    refine xo_iload_n rfl rfl dX9_blow_10 ?_
    refine xo_aload_n rfl rfl dX9_blow_11 ?_
    refine xo_geti dX9_blow_12 cl_3 fl_RX9_15 rfl (fun v1 => ?_)
    refine xo_icmp_ge (tgt := 88) dX9_blow_15 rfl (fun _ => ?_) (fun _ => ?_)
    · exact xo_vret dX9_blow_88 rfl
    · refine xo_iload_n rfl rfl dX9_blow_18 ?_
      refine xo_iload_n rfl rfl dX9_blow_19 ?_
      refine xo_ishr dX9_blow_20 ?_
      refine xo_iconst kc_1 dX9_blow_21 ?_
      refine xo_iand dX9_blow_22 ?_
      refine xo_if_eq (tgt := 63) dX9_blow_23 rfl (fun _ => ?_) (fun _ => ?_)
      · refine xo_aload_n rfl rfl dX9_blow_63 ?_
        refine xo_geta dX9_blow_64 cl_6 fl_RX9_83 rfl (fun v2 => ?_)
        refine xo_iload_n rfl rfl dX9_blow_67 ?_
        refine xo_bipush kb_99 dX9_blow_68 ?_
        refine xo_aload_n rfl rfl dX9_blow_70 ?_
        refine xo_geta dX9_blow_71 cl_6 fl_RX9_83 rfl (fun v3 => ?_)
        refine xo_iload_n rfl rfl dX9_blow_74 ?_
        refine xo_iald dX9_blow_75 (fun v4 => ?_)
        refine xo_iconst kc_1 dX9_blow_76 ?_
        refine xo_iadd dX9_blow_77 ?_
        refine xo_min lmin_RX9_111 (by decide) (Nat.le_of_ble_eq_true rfl) dX9_blow_78 ?_
        refine xo_iast dX9_blow_81 (fun t5 => ?_)
        exact mk_O.wk (o_X9_blow_82 _ ih x0 x1 x2 x3 t5) ⟨rfl, ⟨rfl, ⟨rfl, ⟨rfl, trivial⟩⟩⟩⟩
      · refine xo_aload_n rfl rfl dX9_blow_26 ?_
        refine xo_aload_n rfl rfl dX9_blow_27 ?_
        refine xo_iload_n rfl rfl dX9_blow_28 ?_
        refine xo_aload_n rfl rfl dX9_blow_29 ?_
        refine xo_geta dX9_blow_30 cl_6 fl_RX9_98 rfl (fun v6 => ?_)
        refine mk_O.callS (N := M_X9_puff) (As := [.ref x0, .ref x1, .int x3, .ref v6]) (S := []) md_X9_puff ms_X9_puff lk_RX9_107 rfl (Nat.le_of_ble_eq_true rfl) (by decide) dX9_blow_33 rfl (fun z hz => c_X9_puff x0 x1 x3 v6 t z hz) (fun z7 _ => ?_)
        show mk_O _ _ _ _ [] _ _
        refine xo_aload_n rfl rfl dX9_blow_36 ?_
        refine xo_geta dX9_blow_37 cl_6 fl_RX9_48 rfl (fun v8 => ?_)
        refine xo_iload_n rfl rfl dX9_blow_40 ?_
        refine xo_iconst kc_0 dX9_blow_41 ?_
        refine xo_iast dX9_blow_42 (fun t9 => ?_)
        refine xo_aload_n rfl rfl dX9_blow_43 ?_
        refine xo_geta dX9_blow_44 cl_6 fl_RX9_80 rfl (fun v10 => ?_)
        refine xo_iload_n rfl rfl dX9_blow_47 ?_
        refine xo_dup2 rfl rfl dX9_blow_48 ?_
        refine xo_iald dX9_blow_49 (fun v11 => ?_)
        refine xo_iconst kc_1 dX9_blow_50 ?_
        refine xo_iadd dX9_blow_51 ?_
        refine xo_iast dX9_blow_52 (fun t12 => ?_)
        refine xo_aload_n rfl rfl dX9_blow_53 ?_
        refine xo_geta dX9_blow_54 cl_6 fl_RX9_83 rfl (fun v13 => ?_)
        refine xo_iload_n rfl rfl dX9_blow_57 ?_
        refine xo_iconst kc_1 dX9_blow_58 ?_
        refine xo_iast dX9_blow_59 (fun t14 => ?_)
        refine xo_goto (tgt := 82) dX9_blow_60 rfl ?_
        exact mk_O.wk (o_X9_blow_82 _ ih x0 x1 x2 x3 t14) ⟨rfl, ⟨rfl, ⟨rfl, ⟨rfl, trivial⟩⟩⟩⟩
theorem p_X9_blow (x0 : Nat) (x1 : Nat) (x2 : Int32) (t : mk_S) : mk_O mk_wu M_X9_blow 0 [some (.ref x0), some (.ref x1), some (.int x2), none] [] t ((mk_ga t x1 6 6).bind fun v1 => (F_J7_fill_53178 v1 (0 : Int32) t).bind fun z2 => B_X9_blow_10 mk_fu x0 x1 x2 (0 : Int32) z2.2) := by
  refine xo_aload_n rfl rfl dX9_blow_0 ?_
  refine xo_geta dX9_blow_1 cl_6 fl_RX9_98 rfl (fun v1 => ?_)
  refine xo_iconst kc_0 dX9_blow_4 ?_
  refine mk_O.callS (N := M_J7_fill_53178) (As := [.ref v1, .int (0 : Int32)]) (S := []) md_J7_fill_53178 ms_J7_fill_53178 lk_RX9_101 rfl (Nat.le_of_ble_eq_true rfl) (by decide) dX9_blow_5 rfl (fun z hz => c_J7_fill_53178 v1 (0 : Int32) t z hz) (fun z2 _ => ?_)
  show mk_O _ _ _ _ [] _ _
  refine xo_iconst kc_0 dX9_blow_8 ?_
  refine xo_istore_n rfl (by decide) (mk_p1_v rfl rfl) dX9_blow_9 ?_
  exact mk_O.wk (o_X9_blow_10 mk_fu x0 x1 x2 (0 : Int32) z2.2) ⟨rfl, ⟨rfl, ⟨rfl, ⟨rfl, trivial⟩⟩⟩⟩
theorem c_X9_blow (x0 : Nat) (x1 : Nat) (x2 : Int32) (t : mk_S) (z : Unit × mk_S) (h : F_X9_blow x0 x1 x2 t = some z) : mk_Ct M_X9_blow [.ref x0, .ref x1, .int x2] t (mk_wu z.1, z.2) :=
  mk_ct (w := mk_wu) (by decide +kernel) (Nat.le_of_ble_eq_true rfl) (p_X9_blow x0 x1 x2 t) z h
def B_X9_grind_2 : Nat → Nat → Nat → Int32 → mk_S → Option (Unit × mk_S)
  | 0, _, _, _, _ => none
  | n + 1, x0, x1, x2, t => (mk_gi t x0 3 3).bind fun v1 => if v1 ≤ x2 then (some ((), t)) else ((mk_ga t x0 3 9).bind fun v2 => (mk_ld 100 t v2 x2).bind fun v3 => (mk_ga t x0 3 8).bind fun v4 => (mk_ld 100 t v4 x2).bind fun v5 => (F_X7_windAt x1 v5 t).bind fun z6 => (mk_ga z6.2 x1 6 5).bind fun v7 => (mk_ga z6.2 x1 6 5).bind fun v8 => (mk_ld 100 z6.2 v8 x2).bind fun v9 => (mk_st 100 z6.2 v7 x2 (if (v9 + (if z6.1 < v3 then z6.1 else v3)) < (9999 : Int32) then (v9 + (if z6.1 < v3 then z6.1 else v3)) else (9999 : Int32))).bind fun t10 => B_X9_grind_2 n x0 x1 (x2 + (1 : Int32)) t10)
def F_X9_grind (x0 : Nat) (x1 : Nat) (t : mk_S) : Option (Unit × mk_S) := B_X9_grind_2 mk_fu x0 x1 (0 : Int32) t
theorem o_X9_grind_2 : ∀ (n : Nat) (x0 : Nat) (x1 : Nat) (x2 : Int32) (t : mk_S), mk_O mk_wu M_X9_grind 2 [some (.ref x0), some (.ref x1), some (.int x2), none] [] t (B_X9_grind_2 n x0 x1 x2 t) := by
  intro n
  induction n with
  | zero =>
    intro x0 x1 x2 t
    exact mk_O.none
  | succ n ih =>
    intro x0 x1 x2 t
    rw [B_X9_grind_2]
    refine xo_iload_n rfl rfl dX9_grind_2 ?_
    refine xo_aload_n rfl rfl dX9_grind_3 ?_
    refine xo_geti dX9_grind_4 cl_3 fl_RX9_130 rfl (fun v1 => ?_)
    refine xo_icmp_ge (tgt := 56) dX9_grind_7 rfl (fun _ => ?_) (fun _ => ?_)
    · exact xo_vret dX9_grind_56 rfl
    · refine xo_aload_n rfl rfl dX9_grind_10 ?_
      refine xo_geta dX9_grind_11 cl_3 fl_RX9_133 rfl (fun v2 => ?_)
      refine xo_iload_n rfl rfl dX9_grind_14 ?_
      refine xo_iald dX9_grind_15 (fun v3 => ?_)
      refine xo_aload_n rfl rfl dX9_grind_16 ?_
      refine xo_aload_n rfl rfl dX9_grind_17 ?_
      refine xo_geta dX9_grind_18 cl_3 fl_RX9_136 rfl (fun v4 => ?_)
      refine xo_iload_n rfl rfl dX9_grind_21 ?_
      refine xo_iald dX9_grind_22 (fun v5 => ?_)
      refine mk_O.callV (N := M_X7_windAt) (ci := 6) (q := (RX7, TX7, 9)) (b := x1) (As1 := [.int v5]) (S := [.int v3]) md_X7_windAt mv_X7_windAt lk_RX9_77 rfl (Nat.le_of_ble_eq_true rfl) (by decide) dX9_grind_23 rfl rfl rfl (fun z hz => (c_X7_windAt x1 v5 t z hz).1) (fun z hz => (c_X7_windAt x1 v5 t z hz).2) (fun z6 _ => ?_)
      show mk_O _ _ _ _ (.int z6.1 :: [.int v3]) _ _
      refine xo_min lmin_RX9_111 (by decide) (Nat.le_of_ble_eq_true rfl) dX9_grind_26 ?_
      refine xo_istore_n rfl (by decide) (mk_p1_v rfl rfl) dX9_grind_29 ?_
      refine xo_aload_n rfl rfl dX9_grind_30 ?_
      refine xo_geta dX9_grind_31 cl_6 fl_RX9_139 rfl (fun v7 => ?_)
      refine xo_iload_n rfl rfl dX9_grind_34 ?_
      refine xo_sipush ks_9999 dX9_grind_35 ?_
      refine xo_aload_n rfl rfl dX9_grind_38 ?_
      refine xo_geta dX9_grind_39 cl_6 fl_RX9_139 rfl (fun v8 => ?_)
      refine xo_iload_n rfl rfl dX9_grind_42 ?_
      refine xo_iald dX9_grind_43 (fun v9 => ?_)
      refine xo_iload_n rfl rfl dX9_grind_44 ?_
      refine xo_iadd dX9_grind_45 ?_
      refine xo_min lmin_RX9_111 (by decide) (Nat.le_of_ble_eq_true rfl) dX9_grind_46 ?_
      refine xo_iast dX9_grind_49 (fun t10 => ?_)
      refine xo_iinc rfl (congrArg _ kc_1) (by decide) (mk_p1_v rfl rfl) dX9_grind_50 ?_
      refine xo_goto (tgt := 2) dX9_grind_53 rfl ?_
      exact mk_O.wk (ih x0 x1 (x2 + (1 : Int32)) t10) ⟨rfl, ⟨rfl, ⟨rfl, trivial⟩⟩⟩
theorem p_X9_grind (x0 : Nat) (x1 : Nat) (t : mk_S) : mk_O mk_wu M_X9_grind 0 [some (.ref x0), some (.ref x1), none, none] [] t (B_X9_grind_2 mk_fu x0 x1 (0 : Int32) t) := by
  refine xo_iconst kc_0 dX9_grind_0 ?_
  refine xo_istore_n rfl (by decide) (mk_p1_v rfl rfl) dX9_grind_1 ?_
  exact mk_O.wk (o_X9_grind_2 mk_fu x0 x1 (0 : Int32) t) ⟨rfl, ⟨rfl, ⟨rfl, trivial⟩⟩⟩
theorem c_X9_grind (x0 : Nat) (x1 : Nat) (t : mk_S) (z : Unit × mk_S) (h : F_X9_grind x0 x1 t = some z) : mk_Ct M_X9_grind [.ref x0, .ref x1] t (mk_wu z.1, z.2) :=
  mk_ct (w := mk_wu) (by decide +kernel) (Nat.le_of_ble_eq_true rfl) (p_X9_grind x0 x1 t) z h
def B_X9_unroof_41 (k2 : Nat → Nat → Int32 → mk_S → Option (Unit × mk_S)) (x0 : Nat) (x1 : Nat) (x2 : Int32) (t : mk_S) : Option (Unit × mk_S) := k2 x0 x1 (x2 + (1 : Int32)) t
def B_X9_unroof_2 : Nat → Nat → Nat → Int32 → mk_S → Option (Unit × mk_S)
  | 0, _, _, _, _ => none
  | n + 1, x0, x1, x2, t => (mk_gi t x0 3 4).bind fun v1 => if v1 ≤ x2 then (some ((), t)) else ((mk_ga t x0 3 10).bind fun v2 => (mk_ld 100 t v2 x2).bind fun v3 => (F_X7_windAt x1 v3 t).bind fun z4 => (mk_ga z4.2 x0 3 11).bind fun v5 => (mk_ld 100 z4.2 v5 x2).bind fun v6 => if z4.1 ≤ v6 then (B_X9_unroof_41 (B_X9_unroof_2 n) x0 x1 x2 z4.2) else ((mk_gi z4.2 x1 6 7).bind fun v7 => (mk_pi z4.2 x1 6 7 (v7 ||| ((1 : Int32) <<< (x2 &&& 31)))).bind fun t8 => B_X9_unroof_41 (B_X9_unroof_2 n) x0 x1 x2 t8))
def F_X9_unroof (x0 : Nat) (x1 : Nat) (t : mk_S) : Option (Unit × mk_S) := B_X9_unroof_2 mk_fu x0 x1 (0 : Int32) t
theorem o_X9_unroof_41 (k2 : Nat → Nat → Int32 → mk_S → Option (Unit × mk_S)) (h2 : ∀ (x0 : Nat) (x1 : Nat) (x2 : Int32) (t : mk_S), mk_O mk_wu M_X9_unroof 2 [some (.ref x0), some (.ref x1), some (.int x2)] [] t (k2 x0 x1 x2 t)) (x0 : Nat) (x1 : Nat) (x2 : Int32) (t : mk_S) : mk_O mk_wu M_X9_unroof 41 [some (.ref x0), some (.ref x1), some (.int x2)] [] t (B_X9_unroof_41 k2 x0 x1 x2 t) := by
  unfold B_X9_unroof_41
  refine xo_iinc rfl (congrArg _ kc_1) (by decide) (mk_p1_v rfl rfl) dX9_unroof_41 ?_
  refine xo_goto (tgt := 2) dX9_unroof_44 rfl ?_
  exact mk_O.wk (h2 x0 x1 (x2 + (1 : Int32)) t) ⟨rfl, ⟨rfl, ⟨rfl, trivial⟩⟩⟩
theorem o_X9_unroof_2 : ∀ (n : Nat) (x0 : Nat) (x1 : Nat) (x2 : Int32) (t : mk_S), mk_O mk_wu M_X9_unroof 2 [some (.ref x0), some (.ref x1), some (.int x2)] [] t (B_X9_unroof_2 n x0 x1 x2 t) := by
  intro n
  induction n with
  | zero =>
    intro x0 x1 x2 t
    exact mk_O.none
  | succ n ih =>
    intro x0 x1 x2 t
    rw [B_X9_unroof_2]
    refine xo_iload_n rfl rfl dX9_unroof_2 ?_
    refine xo_aload_n rfl rfl dX9_unroof_3 ?_
    refine xo_geti dX9_unroof_4 cl_3 fl_RX9_142 rfl (fun v1 => ?_)
    refine xo_icmp_ge (tgt := 47) dX9_unroof_7 rfl (fun _ => ?_) (fun _ => ?_)
    · exact xo_vret dX9_unroof_47 rfl
    · refine xo_aload_n rfl rfl dX9_unroof_10 ?_
      refine xo_aload_n rfl rfl dX9_unroof_11 ?_
      refine xo_geta dX9_unroof_12 cl_3 fl_RX9_145 rfl (fun v2 => ?_)
      refine xo_iload_n rfl rfl dX9_unroof_15 ?_
      refine xo_iald dX9_unroof_16 (fun v3 => ?_)
      refine mk_O.callV (N := M_X7_windAt) (ci := 6) (q := (RX7, TX7, 9)) (b := x1) (As1 := [.int v3]) (S := []) md_X7_windAt mv_X7_windAt lk_RX9_77 rfl (Nat.le_of_ble_eq_true rfl) (by decide) dX9_unroof_17 rfl rfl rfl (fun z hz => (c_X7_windAt x1 v3 t z hz).1) (fun z hz => (c_X7_windAt x1 v3 t z hz).2) (fun z4 _ => ?_)
      show mk_O _ _ _ _ (.int z4.1 :: []) _ _
      refine xo_aload_n rfl rfl dX9_unroof_20 ?_
      refine xo_geta dX9_unroof_21 cl_3 fl_RX9_148 rfl (fun v5 => ?_)
      refine xo_iload_n rfl rfl dX9_unroof_24 ?_
      refine xo_iald dX9_unroof_25 (fun v6 => ?_)
      refine xo_icmp_le (tgt := 41) dX9_unroof_26 rfl (fun _ => ?_) (fun _ => ?_)
      · exact mk_O.wk (o_X9_unroof_41 _ ih x0 x1 x2 z4.2) ⟨rfl, ⟨rfl, ⟨rfl, trivial⟩⟩⟩
      · refine xo_aload_n rfl rfl dX9_unroof_29 ?_
        refine xo_dup rfl dX9_unroof_30 ?_
        refine xo_geti dX9_unroof_31 cl_6 fl_RX9_90 rfl (fun v7 => ?_)
        refine xo_iconst kc_1 dX9_unroof_34 ?_
        refine xo_iload_n rfl rfl dX9_unroof_35 ?_
        refine xo_ishl dX9_unroof_36 ?_
        refine xo_ior dX9_unroof_37 ?_
        refine xo_puti dX9_unroof_38 cl_6 fl_RX9_90 rfl ft_6_7 (fun t8 => ?_)
        exact mk_O.wk (o_X9_unroof_41 _ ih x0 x1 x2 t8) ⟨rfl, ⟨rfl, ⟨rfl, trivial⟩⟩⟩
theorem p_X9_unroof (x0 : Nat) (x1 : Nat) (t : mk_S) : mk_O mk_wu M_X9_unroof 0 [some (.ref x0), some (.ref x1), none] [] t (B_X9_unroof_2 mk_fu x0 x1 (0 : Int32) t) := by
  refine xo_iconst kc_0 dX9_unroof_0 ?_
  refine xo_istore_n rfl (by decide) (mk_p1_v rfl rfl) dX9_unroof_1 ?_
  exact mk_O.wk (o_X9_unroof_2 mk_fu x0 x1 (0 : Int32) t) ⟨rfl, ⟨rfl, ⟨rfl, trivial⟩⟩⟩
theorem c_X9_unroof (x0 : Nat) (x1 : Nat) (t : mk_S) (z : Unit × mk_S) (h : F_X9_unroof x0 x1 t = some z) : mk_Ct M_X9_unroof [.ref x0, .ref x1] t (mk_wu z.1, z.2) :=
  mk_ct (w := mk_wu) (by decide +kernel) (Nat.le_of_ble_eq_true rfl) (p_X9_unroof x0 x1 t) z h
def B_X9_spread_10 : Nat → Nat → Nat → Int32 → mk_S → Option (Unit × mk_S)
  | 0, _, _, _, _ => none
  | n + 1, x0, x1, x2, t => (mk_gi t x0 3 2).bind fun v1 => if v1 ≤ x2 then (some ((), t)) else ((mk_ga t x1 6 0).bind fun v2 => (mk_ld 100 t v2 x2).bind fun v3 => (F_X7_windAt x1 v3 t).bind fun z4 => (mk_gi z4.2 x0 3 1).bind fun v5 => if v5 = 0 then none else (F_X7_urgeOn x1 x2 (z4.1 / v5) z4.2).bind fun z6 => B_X9_spread_10 n x0 x1 (x2 + (1 : Int32)) z6.2)
def F_X9_spread (x0 : Nat) (x1 : Nat) (t : mk_S) : Option (Unit × mk_S) := (mk_gi t x0 3 1).bind fun v1 => if 0 < v1 then (B_X9_spread_10 mk_fu x0 x1 (0 : Int32) t) else (some ((), t))
theorem o_X9_spread_10 : ∀ (n : Nat) (x0 : Nat) (x1 : Nat) (x2 : Int32) (t : mk_S), mk_O mk_wu M_X9_spread 10 [some (.ref x0), some (.ref x1), some (.int x2)] [] t (B_X9_spread_10 n x0 x1 x2 t) := by
  intro n
  induction n with
  | zero =>
    intro x0 x1 x2 t
    exact mk_O.none
  | succ n ih =>
    intro x0 x1 x2 t
    rw [B_X9_spread_10]
    refine xo_iload_n rfl rfl dX9_spread_10 ?_
    refine xo_aload_n rfl rfl dX9_spread_11 ?_
    refine xo_geti dX9_spread_12 cl_3 fl_RX9_15 rfl (fun v1 => ?_)
    refine xo_icmp_ge (tgt := 44) dX9_spread_15 rfl (fun _ => ?_) (fun _ => ?_)
    · exact xo_vret dX9_spread_44 rfl
    · refine xo_aload_n rfl rfl dX9_spread_18 ?_
      refine xo_iload_n rfl rfl dX9_spread_19 ?_
      refine xo_aload_n rfl rfl dX9_spread_20 ?_
      refine xo_aload_n rfl rfl dX9_spread_21 ?_
      refine xo_geta dX9_spread_22 cl_6 fl_RX9_67 rfl (fun v2 => ?_)
      refine xo_iload_n rfl rfl dX9_spread_25 ?_
      refine xo_iald dX9_spread_26 (fun v3 => ?_)
      refine mk_O.callV (N := M_X7_windAt) (ci := 6) (q := (RX7, TX7, 9)) (b := x1) (As1 := [.int v3]) (S := [.int x2, .ref x1]) md_X7_windAt mv_X7_windAt lk_RX9_77 rfl (Nat.le_of_ble_eq_true rfl) (by decide) dX9_spread_27 rfl rfl rfl (fun z hz => (c_X7_windAt x1 v3 t z hz).1) (fun z hz => (c_X7_windAt x1 v3 t z hz).2) (fun z4 _ => ?_)
      show mk_O _ _ _ _ (.int z4.1 :: [.int x2, .ref x1]) _ _
      refine xo_aload_n rfl rfl dX9_spread_30 ?_
      refine xo_geti dX9_spread_31 cl_3 fl_RX9_151 rfl (fun v5 => ?_)
      refine xo_idiv dX9_spread_34 (fun _ => ?_)
      refine mk_O.callV (N := M_X7_urgeOn) (ci := 6) (q := (RX7, TX7, 9)) (b := x1) (As1 := [.int x2, .int (z4.1 / v5)]) (S := []) md_X7_urgeOn mv_X7_urgeOn lk_RX9_21 rfl (Nat.le_of_ble_eq_true rfl) (by decide) dX9_spread_35 rfl rfl rfl (fun z hz => (c_X7_urgeOn x1 x2 (z4.1 / v5) z4.2 z hz).1) (fun z hz => (c_X7_urgeOn x1 x2 (z4.1 / v5) z4.2 z hz).2) (fun z6 _ => ?_)
      show mk_O _ _ _ _ [] _ _
      refine xo_iinc rfl (congrArg _ kc_1) (by decide) (mk_p1_v rfl rfl) dX9_spread_38 ?_
      refine xo_goto (tgt := 10) dX9_spread_41 rfl ?_
      exact mk_O.wk (ih x0 x1 (x2 + (1 : Int32)) z6.2) ⟨rfl, ⟨rfl, ⟨rfl, trivial⟩⟩⟩
theorem p_X9_spread (x0 : Nat) (x1 : Nat) (t : mk_S) : mk_O mk_wu M_X9_spread 0 [some (.ref x0), some (.ref x1), none] [] t ((mk_gi t x0 3 1).bind fun v1 => if 0 < v1 then (B_X9_spread_10 mk_fu x0 x1 (0 : Int32) t) else (some ((), t))) := by
  refine xo_aload_n rfl rfl dX9_spread_0 ?_
  refine xo_geti dX9_spread_1 cl_3 fl_RX9_151 rfl (fun v1 => ?_)
  refine xo_if_gt (tgt := 8) dX9_spread_4 rfl (fun _ => ?_) (fun _ => ?_)
  · refine xo_iconst kc_0 dX9_spread_8 ?_
    refine xo_istore_n rfl (by decide) (mk_p1_v rfl rfl) dX9_spread_9 ?_
    exact mk_O.wk (o_X9_spread_10 mk_fu x0 x1 (0 : Int32) t) ⟨rfl, ⟨rfl, ⟨rfl, trivial⟩⟩⟩
  · exact xo_vret dX9_spread_7 rfl
theorem c_X9_spread (x0 : Nat) (x1 : Nat) (t : mk_S) (z : Unit × mk_S) (h : F_X9_spread x0 x1 t = some z) : mk_Ct M_X9_spread [.ref x0, .ref x1] t (mk_wu z.1, z.2) :=
  mk_ct (w := mk_wu) (by decide +kernel) (Nat.le_of_ble_eq_true rfl) (p_X9_spread x0 x1 t) z h
def B_X9_pass_3 : Nat → Nat → Nat → Option Nat → Nat → Int32 → Int32 → mk_S → Option (Int32 × mk_S)
  | 0, _, _, _, _, _, _, _ => none
  | n + 1, x0, x1, x2, x3, x4, x5, t => (mk_gi t x1 3 2).bind fun v1 => if v1 ≤ x5 then ((F_X9_giversOf x0 x1 x2 x3 x4 t).bind fun z2 => (F_X9_blow x1 x3 z2.1 z2.2).bind fun z3 => (F_X9_grind x1 x3 z3.2).bind fun z4 => (F_X9_unroof x1 x3 z4.2).bind fun z5 => (F_X9_spread x1 x3 z5.2).bind fun z6 => (mk_gi z6.2 x3 6 8).bind fun v7 => (mk_pi z6.2 x3 6 8 (v7 + (1 : Int32))).bind fun t8 => some (z2.1, t8)) else ((F_X7_urgeOn x3 x5 (1 : Int32) t).bind fun z9 => B_X9_pass_3 n x0 x1 x2 x3 x4 (x5 + (1 : Int32)) z9.2)
def F_X9_pass (x0 : Nat) (x1 : Nat) (x2 : Option Nat) (x3 : Nat) (x4 : Int32) (t : mk_S) : Option (Int32 × mk_S) := mk_gd t x0 8 (B_X9_pass_3 mk_fu x0 x1 x2 x3 x4 (0 : Int32) t)
theorem o_X9_pass_3 : ∀ (n : Nat) (x0 : Nat) (x1 : Nat) (x2 : Option Nat) (x3 : Nat) (x4 : Int32) (x5 : Int32) (t : mk_S), mk_O mk_wi M_X9_pass 3 [some (.ref x0), some (.ref x1), some (va_rf x2), some (.ref x3), some (.int x4), some (.int x5)] [] t (B_X9_pass_3 n x0 x1 x2 x3 x4 x5 t) := by
  intro n
  induction n with
  | zero =>
    intro x0 x1 x2 x3 x4 x5 t
    exact mk_O.none
  | succ n ih =>
    intro x0 x1 x2 x3 x4 x5 t
    rw [B_X9_pass_3]
    refine xo_iload rfl dX9_pass_3 ?_
    refine xo_aload_n rfl rfl dX9_pass_5 ?_
    refine xo_geti dX9_pass_6 cl_3 fl_RX9_15 rfl (fun v1 => ?_)
    refine xo_icmp_ge (tgt := 25) dX9_pass_9 rfl (fun _ => ?_) (fun _ => ?_)
    · refine xo_aload_n rfl rfl dX9_pass_25 ?_
      refine xo_aload_n rfl rfl dX9_pass_26 ?_
      refine xo_aload_nq rfl rfl dX9_pass_27 ?_
      refine xo_aload_n rfl rfl dX9_pass_28 ?_
      refine xo_iload rfl dX9_pass_29 ?_
      refine mk_O.callV (N := M_X9_giversOf) (ci := 8) (q := (RX9, TX9, 1)) (b := x0) (As1 := [.ref x1, va_rf x2, .ref x3, .int x4]) (S := []) md_X9_giversOf mv_X9_giversOf lk_RX9_27 rfl (Nat.le_of_ble_eq_true rfl) (by decide) dX9_pass_31 rfl rfl rfl (fun z hz => (c_X9_giversOf x0 x1 x2 x3 x4 t z hz).1) (fun z hz => (c_X9_giversOf x0 x1 x2 x3 x4 t z hz).2) (fun z2 _ => ?_)
      show mk_O _ _ _ _ (.int z2.1 :: []) _ _
      refine xo_istore (by decide) (mk_p1_v rfl rfl) dX9_pass_34 ?_
      refine xo_aload_n rfl rfl dX9_pass_36 ?_
      refine xo_aload_n rfl rfl dX9_pass_37 ?_
      refine xo_iload rfl dX9_pass_38 ?_
      refine mk_O.callS (N := M_X9_blow) (As := [.ref x1, .ref x3, .int z2.1]) (S := []) md_X9_blow ms_X9_blow lk_RX9_31 rfl (Nat.le_of_ble_eq_true rfl) (by decide) dX9_pass_40 rfl (fun z hz => c_X9_blow x1 x3 z2.1 z2.2 z hz) (fun z3 _ => ?_)
      show mk_O _ _ _ _ [] _ _
      refine xo_aload_n rfl rfl dX9_pass_43 ?_
      refine xo_aload_n rfl rfl dX9_pass_44 ?_
      refine mk_O.callS (N := M_X9_grind) (As := [.ref x1, .ref x3]) (S := []) md_X9_grind ms_X9_grind lk_RX9_35 rfl (Nat.le_of_ble_eq_true rfl) (by decide) dX9_pass_45 rfl (fun z hz => c_X9_grind x1 x3 z3.2 z hz) (fun z4 _ => ?_)
      show mk_O _ _ _ _ [] _ _
      refine xo_aload_n rfl rfl dX9_pass_48 ?_
      refine xo_aload_n rfl rfl dX9_pass_49 ?_
      refine mk_O.callS (N := M_X9_unroof) (As := [.ref x1, .ref x3]) (S := []) md_X9_unroof ms_X9_unroof lk_RX9_39 rfl (Nat.le_of_ble_eq_true rfl) (by decide) dX9_pass_50 rfl (fun z hz => c_X9_unroof x1 x3 z4.2 z hz) (fun z5 _ => ?_)
      show mk_O _ _ _ _ [] _ _
      refine xo_aload_n rfl rfl dX9_pass_53 ?_
      refine xo_aload_n rfl rfl dX9_pass_54 ?_
      refine mk_O.callS (N := M_X9_spread) (As := [.ref x1, .ref x3]) (S := []) md_X9_spread ms_X9_spread lk_RX9_42 rfl (Nat.le_of_ble_eq_true rfl) (by decide) dX9_pass_55 rfl (fun z hz => c_X9_spread x1 x3 z5.2 z hz) (fun z6 _ => ?_)
      show mk_O _ _ _ _ [] _ _
      refine xo_aload_n rfl rfl dX9_pass_58 ?_
      refine xo_dup rfl dX9_pass_59 ?_
      refine xo_geti dX9_pass_60 cl_6 fl_RX9_45 rfl (fun v7 => ?_)
      refine xo_iconst kc_1 dX9_pass_63 ?_
      refine xo_iadd dX9_pass_64 ?_
      refine xo_puti dX9_pass_65 cl_6 fl_RX9_45 rfl ft_6_8 (fun t8 => ?_)
      refine xo_iload rfl dX9_pass_68 ?_
      exact xo_iret dX9_pass_70 rfl
    · refine xo_aload_n rfl rfl dX9_pass_12 ?_
      refine xo_iload rfl dX9_pass_13 ?_
      refine xo_iconst kc_1 dX9_pass_15 ?_
      refine mk_O.callV (N := M_X7_urgeOn) (ci := 6) (q := (RX7, TX7, 9)) (b := x3) (As1 := [.int x5, .int (1 : Int32)]) (S := []) md_X7_urgeOn mv_X7_urgeOn lk_RX9_21 rfl (Nat.le_of_ble_eq_true rfl) (by decide) dX9_pass_16 rfl rfl rfl (fun z hz => (c_X7_urgeOn x3 x5 (1 : Int32) t z hz).1) (fun z hz => (c_X7_urgeOn x3 x5 (1 : Int32) t z hz).2) (fun z9 _ => ?_)
      show mk_O _ _ _ _ [] _ _
      refine xo_iinc rfl (congrArg _ kc_1) (by decide) (mk_p1_v rfl rfl) dX9_pass_19 ?_
      refine xo_goto (tgt := 3) dX9_pass_22 rfl ?_
      exact mk_O.wk (ih x0 x1 x2 x3 x4 (x5 + (1 : Int32)) z9.2) ⟨rfl, ⟨rfl, ⟨rfl, ⟨rfl, ⟨rfl, ⟨rfl, trivial⟩⟩⟩⟩⟩⟩
theorem p_X9_pass (x0 : Nat) (x1 : Nat) (x2 : Option Nat) (x3 : Nat) (x4 : Int32) (t : mk_S) : mk_O mk_wi M_X9_pass 0 [some (.ref x0), some (.ref x1), some (va_rf x2), some (.ref x3), some (.int x4), none] [] t (B_X9_pass_3 mk_fu x0 x1 x2 x3 x4 (0 : Int32) t) := by
  refine xo_iconst kc_0 dX9_pass_0 ?_
  refine xo_istore (by decide) (mk_p1_v rfl rfl) dX9_pass_1 ?_
  exact mk_O.wk (o_X9_pass_3 mk_fu x0 x1 x2 x3 x4 (0 : Int32) t) ⟨rfl, ⟨rfl, ⟨rfl, ⟨rfl, ⟨rfl, ⟨rfl, trivial⟩⟩⟩⟩⟩⟩
theorem c_X9_pass (x0 : Nat) (x1 : Nat) (x2 : Option Nat) (x3 : Nat) (x4 : Int32) (t : mk_S) (z : Int32 × mk_S) (h : F_X9_pass x0 x1 x2 x3 x4 t = some z) : mk_is t x0 8 ∧ mk_Ct M_X9_pass [.ref x0, .ref x1, va_rf x2, .ref x3, .int x4] t (mk_wi z.1, z.2) := by
  refine ⟨(mk_gd_spec h).1, ?_⟩
  cases x2 with
  | none => exact mk_ct (w := mk_wi) (by decide +kernel) (Nat.le_of_ble_eq_true rfl) (p_X9_pass x0 x1 none x3 x4 t) z (mk_gd_spec h).2
  | some a => exact mk_ct (w := mk_wi) (by decide +kernel) (Nat.le_of_ble_eq_true rfl) (p_X9_pass x0 x1 (some a) x3 x4 t) z (mk_gd_spec h).2
