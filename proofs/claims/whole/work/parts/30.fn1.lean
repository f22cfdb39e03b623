def B_X2_goOn_8 : Nat → Nat → Int32 → Int32 → Option Nat → Int32 → mk_S → Option (Unit × mk_S)
  | 0, _, _, _, _, _, _ => none
  | n + 1, x0, x1, x2, x3, x4, t => if x1 ≤ x4 then (some ((), t)) else ((mk_ga t x0 2 3).bind fun v1 => (mk_ga t x0 2 0).bind fun v2 => (mk_ga t v2 9 0).bind fun v3 => (mk_ga t x0 2 4).bind fun v4 => (F_X9_pass v1 v3 x3 v4 x2 t).bind fun z5 => B_X2_goOn_8 n x0 x1 x2 x3 (x4 + (1 : Int32)) z5.2)
def F_X2_goOn (x0 : Nat) (x1 : Int32) (x2 : Int32) (t : mk_S) : Option (Unit × mk_S) := mk_gd t x0 2 ((F_X2_inForce x0 t).bind fun z1 => B_X2_goOn_8 mk_fu x0 x1 x2 z1.1 (0 : Int32) z1.2)
theorem o_X2_goOn_8 : ∀ (n : Nat) (x0 : Nat) (x1 : Int32) (x2 : Int32) (x3 : Option Nat) (x4 : Int32) (t : mk_S), mk_O mk_wu M_X2_goOn 8 [some (.ref x0), some (.int x1), some (.int x2), some (va_rf x3), some (.int x4)] [] t (B_X2_goOn_8 n x0 x1 x2 x3 x4 t) := by
  intro n
  induction n with
  | zero =>
    intro x0 x1 x2 x3 x4 t
    exact mk_O.none
  | succ n ih =>
    intro x0 x1 x2 x3 x4 t
    rw [B_X2_goOn_8]
    refine xo_iload rfl dX2_goOn_8 ?_
    refine xo_iload_n rfl rfl dX2_goOn_10 ?_
    refine xo_icmp_ge (tgt := 41) dX2_goOn_11 rfl (fun _ => ?_) (fun _ => ?_)
    · exact xo_vret dX2_goOn_41 rfl
    · refine xo_aload_n rfl rfl dX2_goOn_14 ?_
      refine xo_geta dX2_goOn_15 cl_2 fl_RX2_31 rfl (fun v1 => ?_)
      refine xo_aload_n rfl rfl dX2_goOn_18 ?_
      refine xo_geta dX2_goOn_19 cl_2 fl_RX2_12 rfl (fun v2 => ?_)
      refine xo_geta dX2_goOn_22 cl_9 fl_RX2_84 rfl (fun v3 => ?_)
      refine xo_aload_nq rfl rfl dX2_goOn_25 ?_
      refine xo_aload_n rfl rfl dX2_goOn_26 ?_
      refine xo_geta dX2_goOn_27 cl_2 fl_RX2_38 rfl (fun v4 => ?_)
      refine xo_iload_n rfl rfl dX2_goOn_30 ?_
      refine mk_O.callV (N := M_X9_pass) (ci := 8) (q := (RX9, TX9, 1)) (b := v1) (As1 := [.ref v3, va_rf x3, .ref v4, .int x2]) (S := []) md_X9_pass mv_X9_pass lk_RX2_88 rfl (Nat.le_of_ble_eq_true rfl) (by decide) dX2_goOn_31 rfl rfl rfl (fun z hz => (c_X9_pass v1 v3 x3 v4 x2 t z hz).1) (fun z hz => (c_X9_pass v1 v3 x3 v4 x2 t z hz).2) (fun z5 _ => ?_)
      show mk_O _ _ _ _ (.int z5.1 :: []) _ _
      refine xo_pop rfl dX2_goOn_34 ?_
      refine xo_iinc rfl (congrArg _ kc_1) (by decide) (mk_p1_v rfl (mk_rf_cat _)) dX2_goOn_35 ?_
      refine xo_goto (tgt := 8) dX2_goOn_38 rfl ?_
      exact mk_O.wk (ih x0 x1 x2 x3 (x4 + (1 : Int32)) z5.2) ⟨rfl, ⟨rfl, ⟨rfl, ⟨rfl, ⟨rfl, trivial⟩⟩⟩⟩⟩
theorem p_X2_goOn (x0 : Nat) (x1 : Int32) (x2 : Int32) (t : mk_S) : mk_O mk_wu M_X2_goOn 0 [some (.ref x0), some (.int x1), some (.int x2), none, none] [] t ((F_X2_inForce x0 t).bind fun z1 => B_X2_goOn_8 mk_fu x0 x1 x2 z1.1 (0 : Int32) z1.2) := by
  refine xo_aload_n rfl rfl dX2_goOn_0 ?_
  refine mk_O.callV (N := M_X2_inForce) (ci := 2) (q := (RX2, TX2, 14)) (b := x0) (As1 := []) (S := []) md_X2_inForce mv_X2_inForce lk_RX2_80 rfl (Nat.le_of_ble_eq_true rfl) (by decide) dX2_goOn_1 rfl rfl rfl (fun z hz => (c_X2_inForce x0 t z hz).1) (fun z hz => (c_X2_inForce x0 t z hz).2) (fun z1 _ => ?_)
  show mk_O _ _ _ _ (va_rf z1.1 :: []) _ _
  refine xo_astore_nq rfl (by decide) (mk_p1_v rfl rfl) dX2_goOn_4 ?_
  refine xo_iconst kc_0 dX2_goOn_5 ?_
  refine xo_istore (by decide) (mk_p1_v rfl (mk_rf_cat _)) dX2_goOn_6 ?_
  exact mk_O.wk (o_X2_goOn_8 mk_fu x0 x1 x2 z1.1 (0 : Int32) z1.2) ⟨rfl, ⟨rfl, ⟨rfl, ⟨rfl, ⟨rfl, trivial⟩⟩⟩⟩⟩
theorem c_X2_goOn (x0 : Nat) (x1 : Int32) (x2 : Int32) (t : mk_S) (z : Unit × mk_S) (h : F_X2_goOn x0 x1 x2 t = some z) : mk_is t x0 2 ∧ mk_Ct M_X2_goOn [.ref x0, .int x1, .int x2] t (mk_wu z.1, z.2) :=
  ⟨(mk_gd_spec h).1, mk_ct (w := mk_wu) (by decide +kernel) (Nat.le_of_ble_eq_true rfl) (p_X2_goOn x0 x1 x2 t) z (mk_gd_spec h).2⟩
def B_X2_aheadBy_70 (t : mk_S) : Option (Int32 × mk_S) := some ((-1 : Int32), t)
def B_X2_aheadBy_93 (t : mk_S) : Option (Int32 × mk_S) := some ((-1 : Int32), t)
def F_X2_aheadBy (x0 : Nat) (x1 : Int32) (x2 : Int32) (x3 : Int32) (t : mk_S) : Option (Int32 × mk_S) := mk_gd t x0 2 ((mk_ga t x0 2 4).bind fun v1 => (mk_ga t x0 2 0).bind fun v2 => (mk_ga t v2 9 1).bind fun v3 => (F_X7_copyFrom v1 v3 t).bind fun z4 => (F_X2_goOn x0 x2 (-1 : Int32) z4.2).bind fun z5 => if x3 = (0 : Int32) then (if x1 < 0 then (B_X2_aheadBy_70 z5.2) else (if (6 : Int32) ≤ x1 then (B_X2_aheadBy_70 z5.2) else ((mk_ga z5.2 x0 2 4).bind fun v6 => (mk_ga z5.2 v6 6 2).bind fun v7 => (mk_ld 100 z5.2 v7 x1).bind fun v8 => some (v8, z5.2)))) else (if x3 = (1 : Int32) then (if x1 < 0 then (B_X2_aheadBy_93 z5.2) else (if (4 : Int32) ≤ x1 then (B_X2_aheadBy_93 z5.2) else ((mk_ga z5.2 x0 2 4).bind fun v9 => (mk_ga z5.2 v9 6 5).bind fun v10 => (mk_ld 100 z5.2 v10 x1).bind fun v11 => some (v11, z5.2)))) else (if x3 = (2 : Int32) then ((mk_ga z5.2 x0 2 4).bind fun v12 => (F_X7_windAt v12 x1 z5.2).bind fun z13 => some (z13.1, z13.2)) else ((mk_ga z5.2 x0 2 4).bind fun v14 => (mk_gi z5.2 v14 6 7).bind fun v15 => some (v15, z5.2)))))
theorem o_X2_aheadBy_70 (t : mk_S) : mk_O mk_wi M_X2_aheadBy 70 [none, none, none, none] [] t (B_X2_aheadBy_70  t) := by
  unfold B_X2_aheadBy_70
  refine xo_iconst kc_m1 dX2_aheadBy_70 ?_
  exact xo_iret dX2_aheadBy_71 rfl
theorem o_X2_aheadBy_93 (t : mk_S) : mk_O mk_wi M_X2_aheadBy 93 [none, none, none, none] [] t (B_X2_aheadBy_93  t) := by
  unfold B_X2_aheadBy_93
  refine xo_iconst kc_m1 dX2_aheadBy_93 ?_
  exact xo_iret dX2_aheadBy_94 rfl
theorem p_X2_aheadBy (x0 : Nat) (x1 : Int32) (x2 : Int32) (x3 : Int32) (t : mk_S) : mk_O mk_wi M_X2_aheadBy 0 [some (.ref x0), some (.int x1), some (.int x2), some (.int x3)] [] t ((mk_ga t x0 2 4).bind fun v1 => (mk_ga t x0 2 0).bind fun v2 => (mk_ga t v2 9 1).bind fun v3 => (F_X7_copyFrom v1 v3 t).bind fun z4 => (F_X2_goOn x0 x2 (-1 : Int32) z4.2).bind fun z5 => if x3 = (0 : Int32) then (if x1 < 0 then (B_X2_aheadBy_70 z5.2) else (if (6 : Int32) ≤ x1 then (B_X2_aheadBy_70 z5.2) else ((mk_ga z5.2 x0 2 4).bind fun v6 => (mk_ga z5.2 v6 6 2).bind fun v7 => (mk_ld 100 z5.2 v7 x1).bind fun v8 => some (v8, z5.2)))) else (if x3 = (1 : Int32) then (if x1 < 0 then (B_X2_aheadBy_93 z5.2) else (if (4 : Int32) ≤ x1 then (B_X2_aheadBy_93 z5.2) else ((mk_ga z5.2 x0 2 4).bind fun v9 => (mk_ga z5.2 v9 6 5).bind fun v10 => (mk_ld 100 z5.2 v10 x1).bind fun v11 => some (v11, z5.2)))) else (if x3 = (2 : Int32) then ((mk_ga z5.2 x0 2 4).bind fun v12 => (F_X7_windAt v12 x1 z5.2).bind fun z13 => some (z13.1, z13.2)) else ((mk_ga z5.2 x0 2 4).bind fun v14 => (mk_gi z5.2 v14 6 7).bind fun v15 => some (v15, z5.2))))) := by
  refine xo_aload_n rfl rfl dX2_aheadBy_0 ?_
  refine xo_geta dX2_aheadBy_1 cl_2 fl_RX2_38 rfl (fun v1 => ?_)
  refine xo_aload_n rfl rfl dX2_aheadBy_4 ?_
  refine xo_geta dX2_aheadBy_5 cl_2 fl_RX2_12 rfl (fun v2 => ?_)
  refine xo_geta dX2_aheadBy_8 cl_9 fl_RX2_92 rfl (fun v3 => ?_)
  refine mk_O.callV (N := M_X7_copyFrom) (ci := 6) (q := (RX7, TX7, 9)) (b := v1) (As1 := [.ref v3]) (S := []) md_X7_copyFrom mv_X7_copyFrom lk_RX2_95 rfl (Nat.le_of_ble_eq_true rfl) (by decide) dX2_aheadBy_11 rfl rfl rfl (fun z hz => (c_X7_copyFrom v1 v3 t z hz).1) (fun z hz => (c_X7_copyFrom v1 v3 t z hz).2) (fun z4 _ => ?_)
  show mk_O _ _ _ _ [] _ _
  refine xo_aload_n rfl rfl dX2_aheadBy_14 ?_
  refine xo_iload_n rfl rfl dX2_aheadBy_15 ?_
  refine xo_iconst kc_m1 dX2_aheadBy_16 ?_
  refine mk_O.callV (N := M_X2_goOn) (ci := 2) (q := (RX2, TX2, 14)) (b := x0) (As1 := [.int x2, .int (-1 : Int32)]) (S := []) md_X2_goOn mv_X2_goOn lk_RX2_99 rfl (Nat.le_of_ble_eq_true rfl) (by decide) dX2_aheadBy_17 rfl rfl rfl (fun z hz => (c_X2_goOn x0 x2 (-1 : Int32) z4.2 z hz).1) (fun z hz => (c_X2_goOn x0 x2 (-1 : Int32) z4.2 z hz).2) (fun z5 _ => ?_)
  show mk_O _ _ _ _ [] _ _
  refine xo_iload_n rfl rfl dX2_aheadBy_20 ?_
  refine mk_O.cs (fun n0 => ?_) (fun n0 => ?_)
  · refine xo_tab (kx := 0) (j := 0) n0 dX2_aheadBy_21 (by decide) (by decide) (by decide) rfl rfl ?_
    refine xo_iload_n rfl rfl dX2_aheadBy_48 ?_
    refine xo_if_lt (tgt := 70) dX2_aheadBy_49 rfl (fun _ => ?_) (fun _ => ?_)
    · exact mk_O.wk (o_X2_aheadBy_70 z5.2) trivial
    · refine xo_iload_n rfl rfl dX2_aheadBy_52 ?_
      refine xo_bipush kb_6 dX2_aheadBy_53 ?_
      refine xo_icmp_ge (tgt := 70) dX2_aheadBy_55 rfl (fun _ => ?_) (fun _ => ?_)
      · exact mk_O.wk (o_X2_aheadBy_70 z5.2) trivial
      · refine xo_aload_n rfl rfl dX2_aheadBy_58 ?_
        refine xo_geta dX2_aheadBy_59 cl_2 fl_RX2_38 rfl (fun v6 => ?_)
        refine xo_geta dX2_aheadBy_62 cl_6 fl_RX2_103 rfl (fun v7 => ?_)
        refine xo_iload_n rfl rfl dX2_aheadBy_65 ?_
        refine xo_iald dX2_aheadBy_66 (fun v8 => ?_)
        refine xo_goto (tgt := 71) dX2_aheadBy_67 rfl ?_
        exact xo_iret dX2_aheadBy_71 rfl
  · refine mk_O.cs (fun n1 => ?_) (fun n1 => ?_)
    · refine xo_tab (kx := 1) (j := 1) n1 dX2_aheadBy_21 (by decide) (by decide) (by decide) rfl rfl ?_
      refine xo_iload_n rfl rfl dX2_aheadBy_72 ?_
      refine xo_if_lt (tgt := 93) dX2_aheadBy_73 rfl (fun _ => ?_) (fun _ => ?_)
      · exact mk_O.wk (o_X2_aheadBy_93 z5.2) trivial
      · refine xo_iload_n rfl rfl dX2_aheadBy_76 ?_
        refine xo_iconst kc_4 dX2_aheadBy_77 ?_
        refine xo_icmp_ge (tgt := 93) dX2_aheadBy_78 rfl (fun _ => ?_) (fun _ => ?_)
        · exact mk_O.wk (o_X2_aheadBy_93 z5.2) trivial
        · refine xo_aload_n rfl rfl dX2_aheadBy_81 ?_
          refine xo_geta dX2_aheadBy_82 cl_2 fl_RX2_38 rfl (fun v9 => ?_)
          refine xo_geta dX2_aheadBy_85 cl_6 fl_RX2_106 rfl (fun v10 => ?_)
          refine xo_iload_n rfl rfl dX2_aheadBy_88 ?_
          refine xo_iald dX2_aheadBy_89 (fun v11 => ?_)
          refine xo_goto (tgt := 94) dX2_aheadBy_90 rfl ?_
          exact xo_iret dX2_aheadBy_94 rfl
    · refine mk_O.cs (fun n2 => ?_) (fun n2 => ?_)
      · refine xo_tab (kx := 2) (j := 2) n2 dX2_aheadBy_21 (by decide) (by decide) (by decide) rfl rfl ?_
        refine xo_aload_n rfl rfl dX2_aheadBy_95 ?_
        refine xo_geta dX2_aheadBy_96 cl_2 fl_RX2_38 rfl (fun v12 => ?_)
        refine xo_iload_n rfl rfl dX2_aheadBy_99 ?_
        refine mk_O.callV (N := M_X7_windAt) (ci := 6) (q := (RX7, TX7, 9)) (b := v12) (As1 := [.int x1]) (S := []) md_X7_windAt mv_X7_windAt lk_RX2_109 rfl (Nat.le_of_ble_eq_true rfl) (by decide) dX2_aheadBy_100 rfl rfl rfl (fun z hz => (c_X7_windAt v12 x1 z5.2 z hz).1) (fun z hz => (c_X7_windAt v12 x1 z5.2 z hz).2) (fun z13 _ => ?_)
        show mk_O _ _ _ _ (.int z13.1 :: []) _ _
        exact xo_iret dX2_aheadBy_103 rfl
      · refine xo_tabo dX2_aheadBy_21 (by have q0 := lv_neT (a := 0) n0 (by decide); have q1 := lv_neT (a := 1) n1 (by decide); have q2 := lv_neT (a := 2) n2 (by decide); omega) rfl ?_
        refine xo_aload_n rfl rfl dX2_aheadBy_104 ?_
        refine xo_geta dX2_aheadBy_105 cl_2 fl_RX2_38 rfl (fun v14 => ?_)
        refine xo_geti dX2_aheadBy_108 cl_6 fl_RX2_113 rfl (fun v15 => ?_)
        exact xo_iret dX2_aheadBy_111 rfl
theorem c_X2_aheadBy (x0 : Nat) (x1 : Int32) (x2 : Int32) (x3 : Int32) (t : mk_S) (z : Int32 × mk_S) (h : F_X2_aheadBy x0 x1 x2 x3 t = some z) : mk_is t x0 2 ∧ mk_Ct M_X2_aheadBy [.ref x0, .int x1, .int x2, .int x3] t (mk_wi z.1, z.2) :=
  ⟨(mk_gd_spec h).1, mk_ct (w := mk_wi) (by decide +kernel) (Nat.le_of_ble_eq_true rfl) (p_X2_aheadBy x0 x1 x2 x3 t) z (mk_gd_spec h).2⟩
def B_X2_firstHour_22 : Nat → Nat → Int32 → Int32 → Option Nat → Int32 → mk_S → Option (Int32 × mk_S)
  | 0, _, _, _, _, _, _ => none
  | n + 1, x0, x1, x2, x3, x4, t => if (100 : Int32) ≤ x4 then (some ((-2 : Int32), t)) else ((mk_ga t x0 2 3).bind fun v1 => (mk_ga t x0 2 0).bind fun v2 => (mk_ga t v2 9 0).bind fun v3 => (mk_ga t x0 2 4).bind fun v4 => (F_X9_pass v1 v3 x3 v4 (-1 : Int32) t).bind fun z5 => (F_J6_bitCount_0f7a4 (z5.1 &&& x1) z5.2).bind fun z6 => if z6.1 < x2 then (B_X2_firstHour_22 n x0 x1 x2 x3 (x4 + (1 : Int32)) z6.2) else ((mk_ga z6.2 x0 2 0).bind fun v7 => (mk_ga z6.2 v7 9 1).bind fun v8 => (mk_gi z6.2 v8 6 8).bind fun v9 => some ((v9 + x4), z6.2)))
def F_X2_firstHour (x0 : Nat) (x1 : Int32) (x2 : Int32) (t : mk_S) : Option (Int32 × mk_S) := mk_gd t x0 2 ((mk_ga t x0 2 4).bind fun v1 => (mk_ga t x0 2 0).bind fun v2 => (mk_ga t v2 9 1).bind fun v3 => (F_X7_copyFrom v1 v3 t).bind fun z4 => (F_X2_inForce x0 z4.2).bind fun z5 => B_X2_firstHour_22 mk_fu x0 x1 x2 z5.1 (0 : Int32) z5.2)
theorem o_X2_firstHour_22 : ∀ (n : Nat) (x0 : Nat) (x1 : Int32) (x2 : Int32) (x3 : Option Nat) (x4 : Int32) (t : mk_S), mk_O mk_wi M_X2_firstHour 22 [some (.ref x0), some (.int x1), some (.int x2), some (va_rf x3), some (.int x4), none] [] t (B_X2_firstHour_22 n x0 x1 x2 x3 x4 t) := by
  intro n
  induction n with
  | zero =>
    intro x0 x1 x2 x3 x4 t
    exact mk_O.none
  | succ n ih =>
    intro x0 x1 x2 x3 x4 t
    rw [B_X2_firstHour_22]
    refine xo_iload rfl dX2_firstHour_22 ?_
    refine xo_bipush kb_100 dX2_firstHour_24 ?_
    refine xo_icmp_ge (tgt := 82) dX2_firstHour_26 rfl (fun _ => ?_) (fun _ => ?_)
    · refine xo_bipush kb_m2 dX2_firstHour_82 ?_
      exact xo_iret dX2_firstHour_84 rfl
    · refine xo_aload_n rfl rfl dX2_firstHour_29 ?_
      refine xo_geta dX2_firstHour_30 cl_2 fl_RX2_31 rfl (fun v1 => ?_)
      refine xo_aload_n rfl rfl dX2_firstHour_33 ?_
      refine xo_geta dX2_firstHour_34 cl_2 fl_RX2_12 rfl (fun v2 => ?_)
      refine xo_geta dX2_firstHour_37 cl_9 fl_RX2_84 rfl (fun v3 => ?_)
      refine xo_aload_nq rfl rfl dX2_firstHour_40 ?_
      refine xo_aload_n rfl rfl dX2_firstHour_41 ?_
      refine xo_geta dX2_firstHour_42 cl_2 fl_RX2_38 rfl (fun v4 => ?_)
      refine xo_iconst kc_m1 dX2_firstHour_45 ?_
      refine mk_O.callV (N := M_X9_pass) (ci := 8) (q := (RX9, TX9, 1)) (b := v1) (As1 := [.ref v3, va_rf x3, .ref v4, .int (-1 : Int32)]) (S := []) md_X9_pass mv_X9_pass lk_RX2_88 rfl (Nat.le_of_ble_eq_true rfl) (by decide) dX2_firstHour_46 rfl rfl rfl (fun z hz => (c_X9_pass v1 v3 x3 v4 (-1 : Int32) t z hz).1) (fun z hz => (c_X9_pass v1 v3 x3 v4 (-1 : Int32) t z hz).2) (fun z5 _ => ?_)
      show mk_O _ _ _ _ (.int z5.1 :: []) _ _
      refine xo_istore (by decide) (mk_p1_v rfl rfl) dX2_firstHour_49 ?_
      refine xo_iload rfl dX2_firstHour_51 ?_
      refine xo_iload_n rfl rfl dX2_firstHour_53 ?_
      refine xo_iand dX2_firstHour_54 ?_
      refine mk_O.callS (N := M_J6_bitCount_0f7a4) (As := [.int (z5.1 &&& x1)]) (S := []) md_J6_bitCount_0f7a4 ms_J6_bitCount_0f7a4 lk_RX2_116 rfl (Nat.le_of_ble_eq_true rfl) (by decide) dX2_firstHour_55 rfl (fun z hz => c_J6_bitCount_0f7a4 (z5.1 &&& x1) z5.2 z hz) (fun z6 _ => ?_)
      show mk_O _ _ _ _ (.int z6.1 :: []) _ _
      refine xo_iload_n rfl rfl dX2_firstHour_58 ?_
      refine xo_icmp_lt (tgt := 76) dX2_firstHour_59 rfl (fun _ => ?_) (fun _ => ?_)
      · refine xo_iinc rfl (congrArg _ kc_1) (by decide) (mk_p1_v rfl (mk_rf_cat _)) dX2_firstHour_76 ?_
        refine xo_goto (tgt := 22) dX2_firstHour_79 rfl ?_
        exact mk_O.wk (ih x0 x1 x2 x3 (x4 + (1 : Int32)) z6.2) ⟨rfl, ⟨rfl, ⟨rfl, ⟨rfl, ⟨rfl, trivial⟩⟩⟩⟩⟩
      · refine xo_aload_n rfl rfl dX2_firstHour_62 ?_
        refine xo_geta dX2_firstHour_63 cl_2 fl_RX2_12 rfl (fun v7 => ?_)
        refine xo_geta dX2_firstHour_66 cl_9 fl_RX2_92 rfl (fun v8 => ?_)
        refine xo_geti dX2_firstHour_69 cl_6 fl_RX2_121 rfl (fun v9 => ?_)
        refine xo_iload rfl dX2_firstHour_72 ?_
        refine xo_iadd dX2_firstHour_74 ?_
        exact xo_iret dX2_firstHour_75 rfl
theorem p_X2_firstHour (x0 : Nat) (x1 : Int32) (x2 : Int32) (t : mk_S) : mk_O mk_wi M_X2_firstHour 0 [some (.ref x0), some (.int x1), some (.int x2), none, none, none] [] t ((mk_ga t x0 2 4).bind fun v1 => (mk_ga t x0 2 0).bind fun v2 => (mk_ga t v2 9 1).bind fun v3 => (F_X7_copyFrom v1 v3 t).bind fun z4 => (F_X2_inForce x0 z4.2).bind fun z5 => B_X2_firstHour_22 mk_fu x0 x1 x2 z5.1 (0 : Int32) z5.2) := by
  refine xo_aload_n rfl rfl dX2_firstHour_0 ?_
  refine xo_geta dX2_firstHour_1 cl_2 fl_RX2_38 rfl (fun v1 => ?_)
  refine xo_aload_n rfl rfl dX2_firstHour_4 ?_
  refine xo_geta dX2_firstHour_5 cl_2 fl_RX2_12 rfl (fun v2 => ?_)
  refine xo_geta dX2_firstHour_8 cl_9 fl_RX2_92 rfl (fun v3 => ?_)
  refine mk_O.callV (N := M_X7_copyFrom) (ci := 6) (q := (RX7, TX7, 9)) (b := v1) (As1 := [.ref v3]) (S := []) md_X7_copyFrom mv_X7_copyFrom lk_RX2_95 rfl (Nat.le_of_ble_eq_true rfl) (by decide) dX2_firstHour_11 rfl rfl rfl (fun z hz => (c_X7_copyFrom v1 v3 t z hz).1) (fun z hz => (c_X7_copyFrom v1 v3 t z hz).2) (fun z4 _ => ?_)
  show mk_O _ _ _ _ [] _ _
  refine xo_aload_n rfl rfl dX2_firstHour_14 ?_
  refine mk_O.callV (N := M_X2_inForce) (ci := 2) (q := (RX2, TX2, 14)) (b := x0) (As1 := []) (S := []) md_X2_inForce mv_X2_inForce lk_RX2_80 rfl (Nat.le_of_ble_eq_true rfl) (by decide) dX2_firstHour_15 rfl rfl rfl (fun z hz => (c_X2_inForce x0 z4.2 z hz).1) (fun z hz => (c_X2_inForce x0 z4.2 z hz).2) (fun z5 _ => ?_)
  show mk_O _ _ _ _ (va_rf z5.1 :: []) _ _
  refine xo_astore_nq rfl (by decide) (mk_p1_v rfl rfl) dX2_firstHour_18 ?_
  refine xo_iconst kc_0 dX2_firstHour_19 ?_
  refine xo_istore (by decide) (mk_p1_v rfl (mk_rf_cat _)) dX2_firstHour_20 ?_
  exact mk_O.wk (o_X2_firstHour_22 mk_fu x0 x1 x2 z5.1 (0 : Int32) z5.2) ⟨rfl, ⟨rfl, ⟨rfl, ⟨rfl, ⟨rfl, trivial⟩⟩⟩⟩⟩
theorem c_X2_firstHour (x0 : Nat) (x1 : Int32) (x2 : Int32) (t : mk_S) (z : Int32 × mk_S) (h : F_X2_firstHour x0 x1 x2 t = some z) : mk_is t x0 2 ∧ mk_Ct M_X2_firstHour [.ref x0, .int x1, .int x2] t (mk_wi z.1, z.2) :=
  ⟨(mk_gd_spec h).1, mk_ct (w := mk_wi) (by decide +kernel) (Nat.le_of_ble_eq_true rfl) (p_X2_firstHour x0 x1 x2 t) z (mk_gd_spec h).2⟩
def F_X2_forgetWays (x0 : Nat) (t : mk_S) : Option (Unit × mk_S) := mk_gd t x0 2 ((mk_pi t x0 2 11 (5 : Int32)).bind fun t1 => (mk_pi t1 x0 2 12 (0 : Int32)).bind fun t2 => some ((), t2))
theorem p_X2_forgetWays (x0 : Nat) (t : mk_S) : mk_O mk_wu M_X2_forgetWays 0 [some (.ref x0)] [] t ((mk_pi t x0 2 11 (5 : Int32)).bind fun t1 => (mk_pi t1 x0 2 12 (0 : Int32)).bind fun t2 => some ((), t2)) := by
  refine xo_aload_n rfl rfl dX2_forgetWays_0 ?_
  refine xo_iconst kc_5 dX2_forgetWays_1 ?_
  refine xo_puti dX2_forgetWays_2 cl_2 fl_RX2_63 rfl ft_2_11 (fun t1 => ?_)
  refine xo_aload_n rfl rfl dX2_forgetWays_5 ?_
  refine xo_iconst kc_0 dX2_forgetWays_6 ?_
  refine xo_puti dX2_forgetWays_7 cl_2 fl_RX2_66 rfl ft_2_12 (fun t2 => ?_)
  exact xo_vret dX2_forgetWays_10 rfl
theorem c_X2_forgetWays (x0 : Nat) (t : mk_S) (z : Unit × mk_S) (h : F_X2_forgetWays x0 t = some z) : mk_is t x0 2 ∧ mk_Ct M_X2_forgetWays [.ref x0] t (mk_wu z.1, z.2) :=
  ⟨(mk_gd_spec h).1, mk_ct (w := mk_wu) (by decide +kernel) (Nat.le_of_ble_eq_true rfl) (p_X2_forgetWays x0 t) z (mk_gd_spec h).2⟩
def B_X2_offer_43 (x0 : Nat) (x1 : Int32) (x2 : Int32) (x3 : Int32) (t : mk_S) : Option (Unit × mk_S) := (mk_pi t x0 2 10 x1).bind fun t1 => (mk_pi t1 x0 2 11 x2).bind fun t2 => (mk_pi t2 x0 2 12 x3).bind fun t3 => some ((), t3)
def F_X2_offer (x0 : Nat) (x1 : Int32) (t : mk_S) : Option (Unit × mk_S) := mk_gd t x0 2 ((mk_ga t x0 2 4).bind fun v1 => (mk_gi t v1 6 7).bind fun v2 => (F_J6_bitCount_0f7a4 v2 t).bind fun z3 => (mk_ga z3.2 x0 2 4).bind fun v4 => (F_X7_groundInAll v4 z3.2).bind fun z5 => (mk_gi z5.2 x0 2 11).bind fun v6 => if z3.1 < v6 then (B_X2_offer_43 x0 x1 z3.1 z5.1 z5.2) else ((mk_gi z5.2 x0 2 11).bind fun v7 => if z3.1 = v7 then ((mk_gi z5.2 x0 2 12).bind fun v8 => if z5.1 ≤ v8 then (some ((), z5.2)) else (B_X2_offer_43 x0 x1 z3.1 z5.1 z5.2)) else (some ((), z5.2))))
theorem o_X2_offer_43 (x0 : Nat) (x1 : Int32) (x2 : Int32) (x3 : Int32) (t : mk_S) : mk_O mk_wu M_X2_offer 43 [some (.ref x0), some (.int x1), some (.int x2), some (.int x3)] [] t (B_X2_offer_43 x0 x1 x2 x3 t) := by
  unfold B_X2_offer_43
  refine xo_aload_n rfl rfl dX2_offer_43 ?_
  refine xo_iload_n rfl rfl dX2_offer_44 ?_
  refine xo_puti dX2_offer_45 cl_2 fl_RX2_60 rfl ft_2_10 (fun t1 => ?_)
  refine xo_aload_n rfl rfl dX2_offer_48 ?_
  refine xo_iload_n rfl rfl dX2_offer_49 ?_
  refine xo_puti dX2_offer_50 cl_2 fl_RX2_63 rfl ft_2_11 (fun t2 => ?_)
  refine xo_aload_n rfl rfl dX2_offer_53 ?_
  refine xo_iload_n rfl rfl dX2_offer_54 ?_
  refine xo_puti dX2_offer_55 cl_2 fl_RX2_66 rfl ft_2_12 (fun t3 => ?_)
  exact xo_vret dX2_offer_58 rfl
theorem p_X2_offer (x0 : Nat) (x1 : Int32) (t : mk_S) : mk_O mk_wu M_X2_offer 0 [some (.ref x0), some (.int x1), none, none] [] t ((mk_ga t x0 2 4).bind fun v1 => (mk_gi t v1 6 7).bind fun v2 => (F_J6_bitCount_0f7a4 v2 t).bind fun z3 => (mk_ga z3.2 x0 2 4).bind fun v4 => (F_X7_groundInAll v4 z3.2).bind fun z5 => (mk_gi z5.2 x0 2 11).bind fun v6 => if z3.1 < v6 then (B_X2_offer_43 x0 x1 z3.1 z5.1 z5.2) else ((mk_gi z5.2 x0 2 11).bind fun v7 => if z3.1 = v7 then ((mk_gi z5.2 x0 2 12).bind fun v8 => if z5.1 ≤ v8 then (some ((), z5.2)) else (B_X2_offer_43 x0 x1 z3.1 z5.1 z5.2)) else (some ((), z5.2)))) := by
  refine xo_aload_n rfl rfl dX2_offer_0 ?_
  refine xo_geta dX2_offer_1 cl_2 fl_RX2_38 rfl (fun v1 => ?_)
  refine xo_geti dX2_offer_4 cl_6 fl_RX2_113 rfl (fun v2 => ?_)
  refine mk_O.callS (N := M_J6_bitCount_0f7a4) (As := [.int v2]) (S := []) md_J6_bitCount_0f7a4 ms_J6_bitCount_0f7a4 lk_RX2_116 rfl (Nat.le_of_ble_eq_true rfl) (by decide) dX2_offer_7 rfl (fun z hz => c_J6_bitCount_0f7a4 v2 t z hz) (fun z3 _ => ?_)
  show mk_O _ _ _ _ (.int z3.1 :: []) _ _
  refine xo_istore_n rfl (by decide) (mk_p1_v rfl rfl) dX2_offer_10 ?_
  refine xo_aload_n rfl rfl dX2_offer_11 ?_
  refine xo_geta dX2_offer_12 cl_2 fl_RX2_38 rfl (fun v4 => ?_)
  refine mk_O.callV (N := M_X7_groundInAll) (ci := 6) (q := (RX7, TX7, 9)) (b := v4) (As1 := []) (S := []) md_X7_groundInAll mv_X7_groundInAll lk_RX2_124 rfl (Nat.le_of_ble_eq_true rfl) (by decide) dX2_offer_15 rfl rfl rfl (fun z hz => (c_X7_groundInAll v4 z3.2 z hz).1) (fun z hz => (c_X7_groundInAll v4 z3.2 z hz).2) (fun z5 _ => ?_)
  show mk_O _ _ _ _ (.int z5.1 :: []) _ _
  refine xo_istore_n rfl (by decide) (mk_p1_v rfl rfl) dX2_offer_18 ?_
  refine xo_iload_n rfl rfl dX2_offer_19 ?_
  refine xo_aload_n rfl rfl dX2_offer_20 ?_
  refine xo_geti dX2_offer_21 cl_2 fl_RX2_63 rfl (fun v6 => ?_)
  refine xo_icmp_lt (tgt := 43) dX2_offer_24 rfl (fun _ => ?_) (fun _ => ?_)
  · exact mk_O.wk (o_X2_offer_43 x0 x1 z3.1 z5.1 z5.2) ⟨rfl, ⟨rfl, ⟨rfl, ⟨rfl, trivial⟩⟩⟩⟩
  · refine xo_iload_n rfl rfl dX2_offer_27 ?_
    refine xo_aload_n rfl rfl dX2_offer_28 ?_
    refine xo_geti dX2_offer_29 cl_2 fl_RX2_63 rfl (fun v7 => ?_)
    refine xo_icmp_ne (tgt := 58) dX2_offer_32 rfl (fun _ => ?_) (fun _ => ?_)
    · refine xo_iload_n rfl rfl dX2_offer_35 ?_
      refine xo_aload_n rfl rfl dX2_offer_36 ?_
      refine xo_geti dX2_offer_37 cl_2 fl_RX2_66 rfl (fun v8 => ?_)
      refine xo_icmp_le (tgt := 58) dX2_offer_40 rfl (fun _ => ?_) (fun _ => ?_)
      · exact xo_vret dX2_offer_58 rfl
      · exact mk_O.wk (o_X2_offer_43 x0 x1 z3.1 z5.1 z5.2) ⟨rfl, ⟨rfl, ⟨rfl, ⟨rfl, trivial⟩⟩⟩⟩
    · exact xo_vret dX2_offer_58 rfl
theorem c_X2_offer (x0 : Nat) (x1 : Int32) (t : mk_S) (z : Unit × mk_S) (h : F_X2_offer x0 x1 t = some z) : mk_is t x0 2 ∧ mk_Ct M_X2_offer [.ref x0, .int x1] t (mk_wu z.1, z.2) :=
  ⟨(mk_gd_spec h).1, mk_ct (w := mk_wu) (by decide +kernel) (Nat.le_of_ble_eq_true rfl) (p_X2_offer x0 x1 t) z (mk_gd_spec h).2⟩
def F_X2_best (x0 : Nat) (x1 : Int32) (t : mk_S) : Option (Int32 × mk_S) := mk_gd t x0 2 (if x1 = 0 then ((mk_gi t x0 2 10).bind fun v1 => some (v1, t)) else (if x1 = (1 : Int32) then ((mk_gi t x0 2 11).bind fun v2 => some (v2, t)) else ((mk_gi t x0 2 12).bind fun v3 => some (v3, t))))
theorem p_X2_best (x0 : Nat) (x1 : Int32) (t : mk_S) : mk_O mk_wi M_X2_best 0 [some (.ref x0), some (.int x1)] [] t (if x1 = 0 then ((mk_gi t x0 2 10).bind fun v1 => some (v1, t)) else (if x1 = (1 : Int32) then ((mk_gi t x0 2 11).bind fun v2 => some (v2, t)) else ((mk_gi t x0 2 12).bind fun v3 => some (v3, t)))) := by
  refine xo_iload_n rfl rfl dX2_best_0 ?_
  refine xo_if_ne (tgt := 9) dX2_best_1 rfl (fun _ => ?_) (fun _ => ?_)
  · refine xo_aload_n rfl rfl dX2_best_4 ?_
    refine xo_geti dX2_best_5 cl_2 fl_RX2_60 rfl (fun v1 => ?_)
    exact xo_iret dX2_best_8 rfl
  · refine xo_iload_n rfl rfl dX2_best_9 ?_
    refine xo_iconst kc_1 dX2_best_10 ?_
    refine xo_icmp_ne (tgt := 21) dX2_best_11 rfl (fun _ => ?_) (fun _ => ?_)
    · refine xo_aload_n rfl rfl dX2_best_14 ?_
      refine xo_geti dX2_best_15 cl_2 fl_RX2_63 rfl (fun v2 => ?_)
      refine xo_goto (tgt := 25) dX2_best_18 rfl ?_
      exact xo_iret dX2_best_25 rfl
    · refine xo_aload_n rfl rfl dX2_best_21 ?_
      refine xo_geti dX2_best_22 cl_2 fl_RX2_66 rfl (fun v3 => ?_)
      exact xo_iret dX2_best_25 rfl
theorem c_X2_best (x0 : Nat) (x1 : Int32) (t : mk_S) (z : Int32 × mk_S) (h : F_X2_best x0 x1 t = some z) : mk_is t x0 2 ∧ mk_Ct M_X2_best [.ref x0, .int x1] t (mk_wi z.1, z.2) :=
  ⟨(mk_gd_spec h).1, mk_ct (w := mk_wi) (by decide +kernel) (Nat.le_of_ble_eq_true rfl) (p_X2_best x0 x1 t) z (mk_gd_spec h).2⟩
def F_X3_cells (x0 : Nat) (t : mk_S) : Option (Int32 × mk_S) := mk_gd t x0 3 ((mk_gi t x0 3 0).bind fun v1 => (mk_gi t x0 3 0).bind fun v2 => some ((v1 * v2), t))
theorem p_X3_cells (x0 : Nat) (t : mk_S) : mk_O mk_wi M_X3_cells 0 [some (.ref x0)] [] t ((mk_gi t x0 3 0).bind fun v1 => (mk_gi t x0 3 0).bind fun v2 => some ((v1 * v2), t)) := by
  refine xo_aload_n rfl rfl dX3_cells_0 ?_
  refine xo_geti dX3_cells_1 cl_3 fl_RX3_9 rfl (fun v1 => ?_)
  refine xo_aload_n rfl rfl dX3_cells_4 ?_
  refine xo_geti dX3_cells_5 cl_3 fl_RX3_9 rfl (fun v2 => ?_)
  refine xo_imul dX3_cells_8 ?_
  exact xo_iret dX3_cells_9 rfl
theorem c_X3_cells (x0 : Nat) (t : mk_S) (z : Int32 × mk_S) (h : F_X3_cells x0 t = some z) : mk_is t x0 3 ∧ mk_Ct M_X3_cells [.ref x0] t (mk_wi z.1, z.2) :=
  ⟨(mk_gd_spec h).1, mk_ct (w := mk_wi) (by decide +kernel) (Nat.le_of_ble_eq_true rfl) (p_X3_cells x0 t) z (mk_gd_spec h).2⟩
def B_X2_bestCell_7 : Nat → Nat → Int32 → Int32 → Int32 → Int32 → mk_S → Option (Int32 × mk_S)
  | 0, _, _, _, _, _, _ => none
  | n + 1, x0, x1, x2, x3, x4, t => (mk_ga t x0 2 0).bind fun v1 => (mk_ga t v1 9 0).bind fun v2 => (F_X3_cells v2 t).bind fun z3 => if z3.1 ≤ x4 then ((F_X2_best x0 x3 z3.2).bind fun z4 => some (z4.1, z4.2)) else ((mk_ga z3.2 x0 2 4).bind fun v5 => (mk_ga z3.2 x0 2 0).bind fun v6 => (mk_ga z3.2 v6 9 1).bind fun v7 => (F_X7_copyFrom v5 v7 z3.2).bind fun z8 => (mk_ga z8.2 x0 2 4).bind fun v9 => (mk_ga z8.2 v9 6 0).bind fun v10 => (mk_st 100 z8.2 v10 x1 x4).bind fun t11 => (F_X2_goOn x0 x2 (-1 : Int32) t11).bind fun z12 => (F_X2_offer x0 x4 z12.2).bind fun z13 => B_X2_bestCell_7 n x0 x1 x2 x3 (x4 + (1 : Int32)) z13.2)
def F_X2_bestCell (x0 : Nat) (x1 : Int32) (x2 : Int32) (x3 : Int32) (t : mk_S) : Option (Int32 × mk_S) := mk_gd t x0 2 ((F_X2_forgetWays x0 t).bind fun z1 => B_X2_bestCell_7 mk_fu x0 x1 x2 x3 (0 : Int32) z1.2)
theorem o_X2_bestCell_7 : ∀ (n : Nat) (x0 : Nat) (x1 : Int32) (x2 : Int32) (x3 : Int32) (x4 : Int32) (t : mk_S), mk_O mk_wi M_X2_bestCell 7 [some (.ref x0), some (.int x1), some (.int x2), some (.int x3), some (.int x4)] [] t (B_X2_bestCell_7 n x0 x1 x2 x3 x4 t) := by
  intro n
  induction n with
  | zero =>
    intro x0 x1 x2 x3 x4 t
    exact mk_O.none
  | succ n ih =>
    intro x0 x1 x2 x3 x4 t
    rw [B_X2_bestCell_7]
    refine xo_iload rfl dX2_bestCell_7 ?_
    refine xo_aload_n rfl rfl dX2_bestCell_9 ?_
    refine xo_geta dX2_bestCell_10 cl_2 fl_RX2_12 rfl (fun v1 => ?_)
    refine xo_geta dX2_bestCell_13 cl_9 fl_RX2_84 rfl (fun v2 => ?_)
    refine mk_O.callV (N := M_X3_cells) (ci := 3) (q := (RX3, TX3, 12)) (b := v2) (As1 := []) (S := [.int x4]) md_X3_cells mv_X3_cells lk_RX2_131 rfl (Nat.le_of_ble_eq_true rfl) (by decide) dX2_bestCell_16 rfl rfl rfl (fun z hz => (c_X3_cells v2 t z hz).1) (fun z hz => (c_X3_cells v2 t z hz).2) (fun z3 _ => ?_)
    show mk_O _ _ _ _ (.int z3.1 :: [.int x4]) _ _
    refine xo_icmp_ge (tgt := 65) dX2_bestCell_19 rfl (fun _ => ?_) (fun _ => ?_)
    · refine xo_aload_n rfl rfl dX2_bestCell_65 ?_
      refine xo_iload_n rfl rfl dX2_bestCell_66 ?_
      refine mk_O.callV (N := M_X2_best) (ci := 2) (q := (RX2, TX2, 14)) (b := x0) (As1 := [.int x3]) (S := []) md_X2_best mv_X2_best lk_RX2_143 rfl (Nat.le_of_ble_eq_true rfl) (by decide) dX2_bestCell_67 rfl rfl rfl (fun z hz => (c_X2_best x0 x3 z3.2 z hz).1) (fun z hz => (c_X2_best x0 x3 z3.2 z hz).2) (fun z4 _ => ?_)
      show mk_O _ _ _ _ (.int z4.1 :: []) _ _
      exact xo_iret dX2_bestCell_70 rfl
    · refine xo_aload_n rfl rfl dX2_bestCell_22 ?_
      refine xo_geta dX2_bestCell_23 cl_2 fl_RX2_38 rfl (fun v5 => ?_)
      refine xo_aload_n rfl rfl dX2_bestCell_26 ?_
      refine xo_geta dX2_bestCell_27 cl_2 fl_RX2_12 rfl (fun v6 => ?_)
      refine xo_geta dX2_bestCell_30 cl_9 fl_RX2_92 rfl (fun v7 => ?_)
      refine mk_O.callV (N := M_X7_copyFrom) (ci := 6) (q := (RX7, TX7, 9)) (b := v5) (As1 := [.ref v7]) (S := []) md_X7_copyFrom mv_X7_copyFrom lk_RX2_95 rfl (Nat.le_of_ble_eq_true rfl) (by decide) dX2_bestCell_33 rfl rfl rfl (fun z hz => (c_X7_copyFrom v5 v7 z3.2 z hz).1) (fun z hz => (c_X7_copyFrom v5 v7 z3.2 z hz).2) (fun z8 _ => ?_)
      show mk_O _ _ _ _ [] _ _
      refine xo_aload_n rfl rfl dX2_bestCell_36 ?_
      refine xo_geta dX2_bestCell_37 cl_2 fl_RX2_38 rfl (fun v9 => ?_)
      refine xo_geta dX2_bestCell_40 cl_6 fl_RX2_136 rfl (fun v10 => ?_)
      refine xo_iload_n rfl rfl dX2_bestCell_43 ?_
      refine xo_iload rfl dX2_bestCell_44 ?_
      refine xo_iast dX2_bestCell_46 (fun t11 => ?_)
      refine xo_aload_n rfl rfl dX2_bestCell_47 ?_
      refine xo_iload_n rfl rfl dX2_bestCell_48 ?_
      refine xo_iconst kc_m1 dX2_bestCell_49 ?_
      refine mk_O.callV (N := M_X2_goOn) (ci := 2) (q := (RX2, TX2, 14)) (b := x0) (As1 := [.int x2, .int (-1 : Int32)]) (S := []) md_X2_goOn mv_X2_goOn lk_RX2_99 rfl (Nat.le_of_ble_eq_true rfl) (by decide) dX2_bestCell_50 rfl rfl rfl (fun z hz => (c_X2_goOn x0 x2 (-1 : Int32) t11 z hz).1) (fun z hz => (c_X2_goOn x0 x2 (-1 : Int32) t11 z hz).2) (fun z12 _ => ?_)
      show mk_O _ _ _ _ [] _ _
      refine xo_aload_n rfl rfl dX2_bestCell_53 ?_
      refine xo_iload rfl dX2_bestCell_54 ?_
      refine mk_O.callV (N := M_X2_offer) (ci := 2) (q := (RX2, TX2, 14)) (b := x0) (As1 := [.int x4]) (S := []) md_X2_offer mv_X2_offer lk_RX2_139 rfl (Nat.le_of_ble_eq_true rfl) (by decide) dX2_bestCell_56 rfl rfl rfl (fun z hz => (c_X2_offer x0 x4 z12.2 z hz).1) (fun z hz => (c_X2_offer x0 x4 z12.2 z hz).2) (fun z13 _ => ?_)
      show mk_O _ _ _ _ [] _ _
      refine xo_iinc rfl (congrArg _ kc_1) (by decide) (mk_p1_v rfl rfl) dX2_bestCell_59 ?_
      refine xo_goto (tgt := 7) dX2_bestCell_62 rfl ?_
      exact mk_O.wk (ih x0 x1 x2 x3 (x4 + (1 : Int32)) z13.2) ⟨rfl, ⟨rfl, ⟨rfl, ⟨rfl, ⟨rfl, trivial⟩⟩⟩⟩⟩
theorem p_X2_bestCell (x0 : Nat) (x1 : Int32) (x2 : Int32) (x3 : Int32) (t : mk_S) : mk_O mk_wi M_X2_bestCell 0 [some (.ref x0), some (.int x1), some (.int x2), some (.int x3), none] [] t ((F_X2_forgetWays x0 t).bind fun z1 => B_X2_bestCell_7 mk_fu x0 x1 x2 x3 (0 : Int32) z1.2) := by
  refine xo_aload_n rfl rfl dX2_bestCell_0 ?_
  refine mk_O.callV (N := M_X2_forgetWays) (ci := 2) (q := (RX2, TX2, 14)) (b := x0) (As1 := []) (S := []) md_X2_forgetWays mv_X2_forgetWays lk_RX2_128 rfl (Nat.le_of_ble_eq_true rfl) (by decide) dX2_bestCell_1 rfl rfl rfl (fun z hz => (c_X2_forgetWays x0 t z hz).1) (fun z hz => (c_X2_forgetWays x0 t z hz).2) (fun z1 _ => ?_)
  show mk_O _ _ _ _ [] _ _
  refine xo_iconst kc_0 dX2_bestCell_4 ?_
  refine xo_istore (by decide) (mk_p1_v rfl rfl) dX2_bestCell_5 ?_
  exact mk_O.wk (o_X2_bestCell_7 mk_fu x0 x1 x2 x3 (0 : Int32) z1.2) ⟨rfl, ⟨rfl, ⟨rfl, ⟨rfl, ⟨rfl, trivial⟩⟩⟩⟩⟩
theorem c_X2_bestCell (x0 : Nat) (x1 : Int32) (x2 : Int32) (x3 : Int32) (t : mk_S) (z : Int32 × mk_S) (h : F_X2_bestCell x0 x1 x2 x3 t = some z) : mk_is t x0 2 ∧ mk_Ct M_X2_bestCell [.ref x0, .int x1, .int x2, .int x3] t (mk_wi z.1, z.2) :=
  ⟨(mk_gd_spec h).1, mk_ct (w := mk_wi) (by decide +kernel) (Nat.le_of_ble_eq_true rfl) (p_X2_bestCell x0 x1 x2 x3 t) z (mk_gd_spec h).2⟩
def B_X2_bestFace_7 : Nat → Nat → Int32 → Int32 → Int32 → Int32 → mk_S → Option (Int32 × mk_S)
  | 0, _, _, _, _, _, _ => none
  | n + 1, x0, x1, x2, x3, x4, t => if (4 : Int32) ≤ x4 then ((F_X2_best x0 x3 t).bind fun z1 => some (z1.1, z1.2)) else ((mk_ga t x0 2 4).bind fun v2 => (mk_ga t x0 2 0).bind fun v3 => (mk_ga t v3 9 1).bind fun v4 => (F_X7_copyFrom v2 v4 t).bind fun z5 => (mk_ga z5.2 x0 2 4).bind fun v6 => (mk_ga z5.2 v6 6 1).bind fun v7 => (mk_st 100 z5.2 v7 x1 x4).bind fun t8 => (F_X2_goOn x0 x2 (-1 : Int32) t8).bind fun z9 => (F_X2_offer x0 x4 z9.2).bind fun z10 => B_X2_bestFace_7 n x0 x1 x2 x3 (x4 + (1 : Int32)) z10.2)
def F_X2_bestFace (x0 : Nat) (x1 : Int32) (x2 : Int32) (x3 : Int32) (t : mk_S) : Option (Int32 × mk_S) := mk_gd t x0 2 ((F_X2_forgetWays x0 t).bind fun z1 => B_X2_bestFace_7 mk_fu x0 x1 x2 x3 (0 : Int32) z1.2)
theorem o_X2_bestFace_7 : ∀ (n : Nat) (x0 : Nat) (x1 : Int32) (x2 : Int32) (x3 : Int32) (x4 : Int32) (t : mk_S), mk_O mk_wi M_X2_bestFace 7 [some (.ref x0), some (.int x1), some (.int x2), some (.int x3), some (.int x4)] [] t (B_X2_bestFace_7 n x0 x1 x2 x3 x4 t) := by
  intro n
  induction n with
  | zero =>
    intro x0 x1 x2 x3 x4 t
    exact mk_O.none
  | succ n ih =>
    intro x0 x1 x2 x3 x4 t
    rw [B_X2_bestFace_7]
    refine xo_iload rfl dX2_bestFace_7 ?_
    refine xo_iconst kc_4 dX2_bestFace_9 ?_
    refine xo_icmp_ge (tgt := 56) dX2_bestFace_10 rfl (fun _ => ?_) (fun _ => ?_)
    · refine xo_aload_n rfl rfl dX2_bestFace_56 ?_
      refine xo_iload_n rfl rfl dX2_bestFace_57 ?_
      refine mk_O.callV (N := M_X2_best) (ci := 2) (q := (RX2, TX2, 14)) (b := x0) (As1 := [.int x3]) (S := []) md_X2_best mv_X2_best lk_RX2_143 rfl (Nat.le_of_ble_eq_true rfl) (by decide) dX2_bestFace_58 rfl rfl rfl (fun z hz => (c_X2_best x0 x3 t z hz).1) (fun z hz => (c_X2_best x0 x3 t z hz).2) (fun z1 _ => ?_)
      show mk_O _ _ _ _ (.int z1.1 :: []) _ _
      exact xo_iret dX2_bestFace_61 rfl
    · refine xo_aload_n rfl rfl dX2_bestFace_13 ?_
      refine xo_geta dX2_bestFace_14 cl_2 fl_RX2_38 rfl (fun v2 => ?_)
      refine xo_aload_n rfl rfl dX2_bestFace_17 ?_
      refine xo_geta dX2_bestFace_18 cl_2 fl_RX2_12 rfl (fun v3 => ?_)
      refine xo_geta dX2_bestFace_21 cl_9 fl_RX2_92 rfl (fun v4 => ?_)
      refine mk_O.callV (N := M_X7_copyFrom) (ci := 6) (q := (RX7, TX7, 9)) (b := v2) (As1 := [.ref v4]) (S := []) md_X7_copyFrom mv_X7_copyFrom lk_RX2_95 rfl (Nat.le_of_ble_eq_true rfl) (by decide) dX2_bestFace_24 rfl rfl rfl (fun z hz => (c_X7_copyFrom v2 v4 t z hz).1) (fun z hz => (c_X7_copyFrom v2 v4 t z hz).2) (fun z5 _ => ?_)
      show mk_O _ _ _ _ [] _ _
      refine xo_aload_n rfl rfl dX2_bestFace_27 ?_
      refine xo_geta dX2_bestFace_28 cl_2 fl_RX2_38 rfl (fun v6 => ?_)
      refine xo_geta dX2_bestFace_31 cl_6 fl_RX2_146 rfl (fun v7 => ?_)
      refine xo_iload_n rfl rfl dX2_bestFace_34 ?_
      refine xo_iload rfl dX2_bestFace_35 ?_
      refine xo_iast dX2_bestFace_37 (fun t8 => ?_)
      refine xo_aload_n rfl rfl dX2_bestFace_38 ?_
      refine xo_iload_n rfl rfl dX2_bestFace_39 ?_
      refine xo_iconst kc_m1 dX2_bestFace_40 ?_
      refine mk_O.callV (N := M_X2_goOn) (ci := 2) (q := (RX2, TX2, 14)) (b := x0) (As1 := [.int x2, .int (-1 : Int32)]) (S := []) md_X2_goOn mv_X2_goOn lk_RX2_99 rfl (Nat.le_of_ble_eq_true rfl) (by decide) dX2_bestFace_41 rfl rfl rfl (fun z hz => (c_X2_goOn x0 x2 (-1 : Int32) t8 z hz).1) (fun z hz => (c_X2_goOn x0 x2 (-1 : Int32) t8 z hz).2) (fun z9 _ => ?_)
      show mk_O _ _ _ _ [] _ _
      refine xo_aload_n rfl rfl dX2_bestFace_44 ?_
      refine xo_iload rfl dX2_bestFace_45 ?_
      refine mk_O.callV (N := M_X2_offer) (ci := 2) (q := (RX2, TX2, 14)) (b := x0) (As1 := [.int x4]) (S := []) md_X2_offer mv_X2_offer lk_RX2_139 rfl (Nat.le_of_ble_eq_true rfl) (by decide) dX2_bestFace_47 rfl rfl rfl (fun z hz => (c_X2_offer x0 x4 z9.2 z hz).1) (fun z hz => (c_X2_offer x0 x4 z9.2 z hz).2) (fun z10 _ => ?_)
      show mk_O _ _ _ _ [] _ _
      refine xo_iinc rfl (congrArg _ kc_1) (by decide) (mk_p1_v rfl rfl) dX2_bestFace_50 ?_
      refine xo_goto (tgt := 7) dX2_bestFace_53 rfl ?_
      exact mk_O.wk (ih x0 x1 x2 x3 (x4 + (1 : Int32)) z10.2) ⟨rfl, ⟨rfl, ⟨rfl, ⟨rfl, ⟨rfl, trivial⟩⟩⟩⟩⟩
theorem p_X2_bestFace (x0 : Nat) (x1 : Int32) (x2 : Int32) (x3 : Int32) (t : mk_S) : mk_O mk_wi M_X2_bestFace 0 [some (.ref x0), some (.int x1), some (.int x2), some (.int x3), none] [] t ((F_X2_forgetWays x0 t).bind fun z1 => B_X2_bestFace_7 mk_fu x0 x1 x2 x3 (0 : Int32) z1.2) := by
  refine xo_aload_n rfl rfl dX2_bestFace_0 ?_
  refine mk_O.callV (N := M_X2_forgetWays) (ci := 2) (q := (RX2, TX2, 14)) (b := x0) (As1 := []) (S := []) md_X2_forgetWays mv_X2_forgetWays lk_RX2_128 rfl (Nat.le_of_ble_eq_true rfl) (by decide) dX2_bestFace_1 rfl rfl rfl (fun z hz => (c_X2_forgetWays x0 t z hz).1) (fun z hz => (c_X2_forgetWays x0 t z hz).2) (fun z1 _ => ?_)
  show mk_O _ _ _ _ [] _ _
  refine xo_iconst kc_0 dX2_bestFace_4 ?_
  refine xo_istore (by decide) (mk_p1_v rfl rfl) dX2_bestFace_5 ?_
  exact mk_O.wk (o_X2_bestFace_7 mk_fu x0 x1 x2 x3 (0 : Int32) z1.2) ⟨rfl, ⟨rfl, ⟨rfl, ⟨rfl, ⟨rfl, trivial⟩⟩⟩⟩⟩
theorem c_X2_bestFace (x0 : Nat) (x1 : Int32) (x2 : Int32) (x3 : Int32) (t : mk_S) (z : Int32 × mk_S) (h : F_X2_bestFace x0 x1 x2 x3 t = some z) : mk_is t x0 2 ∧ mk_Ct M_X2_bestFace [.ref x0, .int x1, .int x2, .int x3] t (mk_wi z.1, z.2) :=
  ⟨(mk_gd_spec h).1, mk_ct (w := mk_wi) (by decide +kernel) (Nat.le_of_ble_eq_true rfl) (p_X2_bestFace x0 x1 x2 x3 t) z (mk_gd_spec h).2⟩
def B_X2_bestStill_6 : Nat → Nat → Int32 → Int32 → Int32 → mk_S → Option (Int32 × mk_S)
  | 0, _, _, _, _, _ => none
  | n + 1, x0, x1, x2, x3, t => (mk_ga t x0 2 0).bind fun v1 => (mk_ga t v1 9 0).bind fun v2 => (mk_gi t v2 3 2).bind fun v3 => if v3 ≤ x3 then ((F_X2_best x0 x2 t).bind fun z4 => some (z4.1, z4.2)) else ((mk_ga t x0 2 4).bind fun v5 => (mk_ga t x0 2 0).bind fun v6 => (mk_ga t v6 9 1).bind fun v7 => (F_X7_copyFrom v5 v7 t).bind fun z8 => (F_X2_goOn x0 x1 x3 z8.2).bind fun z9 => (F_X2_offer x0 x3 z9.2).bind fun z10 => B_X2_bestStill_6 n x0 x1 x2 (x3 + (1 : Int32)) z10.2)
def F_X2_bestStill (x0 : Nat) (x1 : Int32) (x2 : Int32) (t : mk_S) : Option (Int32 × mk_S) := mk_gd t x0 2 ((F_X2_forgetWays x0 t).bind fun z1 => B_X2_bestStill_6 mk_fu x0 x1 x2 (-1 : Int32) z1.2)
theorem o_X2_bestStill_6 : ∀ (n : Nat) (x0 : Nat) (x1 : Int32) (x2 : Int32) (x3 : Int32) (t : mk_S), mk_O mk_wi M_X2_bestStill 6 [some (.ref x0), some (.int x1), some (.int x2), some (.int x3)] [] t (B_X2_bestStill_6 n x0 x1 x2 x3 t) := by
  intro n
  induction n with
  | zero =>
    intro x0 x1 x2 x3 t
    exact mk_O.none
  | succ n ih =>
    intro x0 x1 x2 x3 t
    rw [B_X2_bestStill_6]
    refine xo_iload_n rfl rfl dX2_bestStill_6 ?_
    refine xo_aload_n rfl rfl dX2_bestStill_7 ?_
    refine xo_geta dX2_bestStill_8 cl_2 fl_RX2_12 rfl (fun v1 => ?_)
    refine xo_geta dX2_bestStill_11 cl_9 fl_RX2_84 rfl (fun v2 => ?_)
    refine xo_geti dX2_bestStill_14 cl_3 fl_RX2_149 rfl (fun v3 => ?_)
    refine xo_icmp_ge (tgt := 51) dX2_bestStill_17 rfl (fun _ => ?_) (fun _ => ?_)
    · refine xo_aload_n rfl rfl dX2_bestStill_51 ?_
      refine xo_iload_n rfl rfl dX2_bestStill_52 ?_
      refine mk_O.callV (N := M_X2_best) (ci := 2) (q := (RX2, TX2, 14)) (b := x0) (As1 := [.int x2]) (S := []) md_X2_best mv_X2_best lk_RX2_143 rfl (Nat.le_of_ble_eq_true rfl) (by decide) dX2_bestStill_53 rfl rfl rfl (fun z hz => (c_X2_best x0 x2 t z hz).1) (fun z hz => (c_X2_best x0 x2 t z hz).2) (fun z4 _ => ?_)
      show mk_O _ _ _ _ (.int z4.1 :: []) _ _
      exact xo_iret dX2_bestStill_56 rfl
    · refine xo_aload_n rfl rfl dX2_bestStill_20 ?_
      refine xo_geta dX2_bestStill_21 cl_2 fl_RX2_38 rfl (fun v5 => ?_)
      refine xo_aload_n rfl rfl dX2_bestStill_24 ?_
      refine xo_geta dX2_bestStill_25 cl_2 fl_RX2_12 rfl (fun v6 => ?_)
      refine xo_geta dX2_bestStill_28 cl_9 fl_RX2_92 rfl (fun v7 => ?_)
      refine mk_O.callV (N := M_X7_copyFrom) (ci := 6) (q := (RX7, TX7, 9)) (b := v5) (As1 := [.ref v7]) (S := []) md_X7_copyFrom mv_X7_copyFrom lk_RX2_95 rfl (Nat.le_of_ble_eq_true rfl) (by decide) dX2_bestStill_31 rfl rfl rfl (fun z hz => (c_X7_copyFrom v5 v7 t z hz).1) (fun z hz => (c_X7_copyFrom v5 v7 t z hz).2) (fun z8 _ => ?_)
      show mk_O _ _ _ _ [] _ _
      refine xo_aload_n rfl rfl dX2_bestStill_34 ?_
      refine xo_iload_n rfl rfl dX2_bestStill_35 ?_
      refine xo_iload_n rfl rfl dX2_bestStill_36 ?_
      refine mk_O.callV (N := M_X2_goOn) (ci := 2) (q := (RX2, TX2, 14)) (b := x0) (As1 := [.int x1, .int x3]) (S := []) md_X2_goOn mv_X2_goOn lk_RX2_99 rfl (Nat.le_of_ble_eq_true rfl) (by decide) dX2_bestStill_37 rfl rfl rfl (fun z hz => (c_X2_goOn x0 x1 x3 z8.2 z hz).1) (fun z hz => (c_X2_goOn x0 x1 x3 z8.2 z hz).2) (fun z9 _ => ?_)
      show mk_O _ _ _ _ [] _ _
      refine xo_aload_n rfl rfl dX2_bestStill_40 ?_
      refine xo_iload_n rfl rfl dX2_bestStill_41 ?_
      refine mk_O.callV (N := M_X2_offer) (ci := 2) (q := (RX2, TX2, 14)) (b := x0) (As1 := [.int x3]) (S := []) md_X2_offer mv_X2_offer lk_RX2_139 rfl (Nat.le_of_ble_eq_true rfl) (by decide) dX2_bestStill_42 rfl rfl rfl (fun z hz => (c_X2_offer x0 x3 z9.2 z hz).1) (fun z hz => (c_X2_offer x0 x3 z9.2 z hz).2) (fun z10 _ => ?_)
      show mk_O _ _ _ _ [] _ _
      refine xo_iinc rfl (congrArg _ kc_1) (by decide) (mk_p1_v rfl rfl) dX2_bestStill_45 ?_
      refine xo_goto (tgt := 6) dX2_bestStill_48 rfl ?_
      exact mk_O.wk (ih x0 x1 x2 (x3 + (1 : Int32)) z10.2) ⟨rfl, ⟨rfl, ⟨rfl, ⟨rfl, trivial⟩⟩⟩⟩
theorem p_X2_bestStill (x0 : Nat) (x1 : Int32) (x2 : Int32) (t : mk_S) : mk_O mk_wi M_X2_bestStill 0 [some (.ref x0), some (.int x1), some (.int x2), none] [] t ((F_X2_forgetWays x0 t).bind fun z1 => B_X2_bestStill_6 mk_fu x0 x1 x2 (-1 : Int32) z1.2) := by
  refine xo_aload_n rfl rfl dX2_bestStill_0 ?_
  refine mk_O.callV (N := M_X2_forgetWays) (ci := 2) (q := (RX2, TX2, 14)) (b := x0) (As1 := []) (S := []) md_X2_forgetWays mv_X2_forgetWays lk_RX2_128 rfl (Nat.le_of_ble_eq_true rfl) (by decide) dX2_bestStill_1 rfl rfl rfl (fun z hz => (c_X2_forgetWays x0 t z hz).1) (fun z hz => (c_X2_forgetWays x0 t z hz).2) (fun z1 _ => ?_)
  show mk_O _ _ _ _ [] _ _
  refine xo_iconst kc_m1 dX2_bestStill_4 ?_
  refine xo_istore_n rfl (by decide) (mk_p1_v rfl rfl) dX2_bestStill_5 ?_
  exact mk_O.wk (o_X2_bestStill_6 mk_fu x0 x1 x2 (-1 : Int32) z1.2) ⟨rfl, ⟨rfl, ⟨rfl, ⟨rfl, trivial⟩⟩⟩⟩
theorem c_X2_bestStill (x0 : Nat) (x1 : Int32) (x2 : Int32) (t : mk_S) (z : Int32 × mk_S) (h : F_X2_bestStill x0 x1 x2 t = some z) : mk_is t x0 2 ∧ mk_Ct M_X2_bestStill [.ref x0, .int x1, .int x2] t (mk_wi z.1, z.2) :=
  ⟨(mk_gd_spec h).1, mk_ct (w := mk_wi) (by decide +kernel) (Nat.le_of_ble_eq_true rfl) (p_X2_bestStill x0 x1 x2 t) z (mk_gd_spec h).2⟩
def B_X2_leastWine_3 : Nat → Nat → Int32 → Int32 → Int32 → Int32 → Int32 → mk_S → Option (Int32 × mk_S)
  | 0, _, _, _, _, _, _, _ => none
  | n + 1, x0, x1, x2, x3, x4, x5, t => if (40 : Int32) < x5 then (some ((-2 : Int32), t)) else ((mk_ga t x0 2 4).bind fun v1 => (mk_ga t x0 2 0).bind fun v2 => (mk_ga t v2 9 1).bind fun v3 => (F_X7_copyFrom v1 v3 t).bind fun z4 => (mk_ga z4.2 x0 2 4).bind fun v5 => (F_X7_urgeOn v5 x1 x5 z4.2).bind fun z6 => (F_X2_goOn x0 x4 (-1 : Int32) z6.2).bind fun z7 => (mk_ga z7.2 x0 2 4).bind fun v8 => (mk_ga z7.2 v8 6 5).bind fun v9 => (mk_ld 100 z7.2 v9 x2).bind fun v10 => if v10 < x3 then (B_X2_leastWine_3 n x0 x1 x2 x3 x4 (x5 + (1 : Int32)) z7.2) else (some (x5, z7.2)))
def F_X2_leastWine (x0 : Nat) (x1 : Int32) (x2 : Int32) (x3 : Int32) (x4 : Int32) (t : mk_S) : Option (Int32 × mk_S) := mk_gd t x0 2 (B_X2_leastWine_3 mk_fu x0 x1 x2 x3 x4 (0 : Int32) t)
theorem o_X2_leastWine_3 : ∀ (n : Nat) (x0 : Nat) (x1 : Int32) (x2 : Int32) (x3 : Int32) (x4 : Int32) (x5 : Int32) (t : mk_S), mk_O mk_wi M_X2_leastWine 3 [some (.ref x0), some (.int x1), some (.int x2), some (.int x3), some (.int x4), some (.int x5)] [] t (B_X2_leastWine_3 n x0 x1 x2 x3 x4 x5 t) := by
  intro n
  induction n with
  | zero =>
    intro x0 x1 x2 x3 x4 x5 t
    exact mk_O.none
  | succ n ih =>
    intro x0 x1 x2 x3 x4 x5 t
    rw [B_X2_leastWine_3]
    refine xo_iload rfl dX2_leastWine_3 ?_
    refine xo_bipush kb_40 dX2_leastWine_5 ?_
    refine xo_icmp_gt (tgt := 63) dX2_leastWine_7 rfl (fun _ => ?_) (fun _ => ?_)
    · refine xo_bipush kb_m2 dX2_leastWine_63 ?_
      exact xo_iret dX2_leastWine_65 rfl
    · refine xo_aload_n rfl rfl dX2_leastWine_10 ?_
      refine xo_geta dX2_leastWine_11 cl_2 fl_RX2_38 rfl (fun v1 => ?_)
      refine xo_aload_n rfl rfl dX2_leastWine_14 ?_
      refine xo_geta dX2_leastWine_15 cl_2 fl_RX2_12 rfl (fun v2 => ?_)
      refine xo_geta dX2_leastWine_18 cl_9 fl_RX2_92 rfl (fun v3 => ?_)
      refine mk_O.callV (N := M_X7_copyFrom) (ci := 6) (q := (RX7, TX7, 9)) (b := v1) (As1 := [.ref v3]) (S := []) md_X7_copyFrom mv_X7_copyFrom lk_RX2_95 rfl (Nat.le_of_ble_eq_true rfl) (by decide) dX2_leastWine_21 rfl rfl rfl (fun z hz => (c_X7_copyFrom v1 v3 t z hz).1) (fun z hz => (c_X7_copyFrom v1 v3 t z hz).2) (fun z4 _ => ?_)
      show mk_O _ _ _ _ [] _ _
      refine xo_aload_n rfl rfl dX2_leastWine_24 ?_
      refine xo_geta dX2_leastWine_25 cl_2 fl_RX2_38 rfl (fun v5 => ?_)
      refine xo_iload_n rfl rfl dX2_leastWine_28 ?_
      refine xo_iload rfl dX2_leastWine_29 ?_
      refine mk_O.callV (N := M_X7_urgeOn) (ci := 6) (q := (RX7, TX7, 9)) (b := v5) (As1 := [.int x1, .int x5]) (S := []) md_X7_urgeOn mv_X7_urgeOn lk_RX2_152 rfl (Nat.le_of_ble_eq_true rfl) (by decide) dX2_leastWine_31 rfl rfl rfl (fun z hz => (c_X7_urgeOn v5 x1 x5 z4.2 z hz).1) (fun z hz => (c_X7_urgeOn v5 x1 x5 z4.2 z hz).2) (fun z6 _ => ?_)
      show mk_O _ _ _ _ [] _ _
      refine xo_aload_n rfl rfl dX2_leastWine_34 ?_
      refine xo_iload rfl dX2_leastWine_35 ?_
      refine xo_iconst kc_m1 dX2_leastWine_37 ?_
      refine mk_O.callV (N := M_X2_goOn) (ci := 2) (q := (RX2, TX2, 14)) (b := x0) (As1 := [.int x4, .int (-1 : Int32)]) (S := []) md_X2_goOn mv_X2_goOn lk_RX2_99 rfl (Nat.le_of_ble_eq_true rfl) (by decide) dX2_leastWine_38 rfl rfl rfl (fun z hz => (c_X2_goOn x0 x4 (-1 : Int32) z6.2 z hz).1) (fun z hz => (c_X2_goOn x0 x4 (-1 : Int32) z6.2 z hz).2) (fun z7 _ => ?_)
      show mk_O _ _ _ _ [] _ _
      refine xo_aload_n rfl rfl dX2_leastWine_41 ?_
      refine xo_geta dX2_leastWine_42 cl_2 fl_RX2_38 rfl (fun v8 => ?_)
      refine xo_geta dX2_leastWine_45 cl_6 fl_RX2_106 rfl (fun v9 => ?_)
      refine xo_iload_n rfl rfl dX2_leastWine_48 ?_
      refine xo_iald dX2_leastWine_49 (fun v10 => ?_)
      refine xo_iload_n rfl rfl dX2_leastWine_50 ?_
      refine xo_icmp_lt (tgt := 57) dX2_leastWine_51 rfl (fun _ => ?_) (fun _ => ?_)
      · refine xo_iinc rfl (congrArg _ kc_1) (by decide) (mk_p1_v rfl rfl) dX2_leastWine_57 ?_
        refine xo_goto (tgt := 3) dX2_leastWine_60 rfl ?_
        exact mk_O.wk (ih x0 x1 x2 x3 x4 (x5 + (1 : Int32)) z7.2) ⟨rfl, ⟨rfl, ⟨rfl, ⟨rfl, ⟨rfl, ⟨rfl, trivial⟩⟩⟩⟩⟩⟩
      · refine xo_iload rfl dX2_leastWine_54 ?_
        exact xo_iret dX2_leastWine_56 rfl
theorem p_X2_leastWine (x0 : Nat) (x1 : Int32) (x2 : Int32) (x3 : Int32) (x4 : Int32) (t : mk_S) : mk_O mk_wi M_X2_leastWine 0 [some (.ref x0), some (.int x1), some (.int x2), some (.int x3), some (.int x4), none] [] t (B_X2_leastWine_3 mk_fu x0 x1 x2 x3 x4 (0 : Int32) t) := by
  refine xo_iconst kc_0 dX2_leastWine_0 ?_
  refine xo_istore (by decide) (mk_p1_v rfl rfl) dX2_leastWine_1 ?_
  exact mk_O.wk (o_X2_leastWine_3 mk_fu x0 x1 x2 x3 x4 (0 : Int32) t) ⟨rfl, ⟨rfl, ⟨rfl, ⟨rfl, ⟨rfl, ⟨rfl, trivial⟩⟩⟩⟩⟩⟩
theorem c_X2_leastWine (x0 : Nat) (x1 : Int32) (x2 : Int32) (x3 : Int32) (x4 : Int32) (t : mk_S) (z : Int32 × mk_S) (h : F_X2_leastWine x0 x1 x2 x3 x4 t = some z) : mk_is t x0 2 ∧ mk_Ct M_X2_leastWine [.ref x0, .int x1, .int x2, .int x3, .int x4] t (mk_wi z.1, z.2) :=
  ⟨(mk_gd_spec h).1, mk_ct (w := mk_wi) (by decide +kernel) (Nat.le_of_ble_eq_true rfl) (p_X2_leastWine x0 x1 x2 x3 x4 t) z (mk_gd_spec h).2⟩
def B_X2_sharesOf_27 (k4 : Nat → Int32 → Int32 → Int32 → mk_S → Option (Int32 × mk_S)) (x0 : Nat) (x1 : Int32) (x2 : Int32) (x3 : Int32) (t : mk_S) : Option (Int32 × mk_S) := k4 x0 x1 x2 (x3 + (1 : Int32)) t
def B_X2_sharesOf_4 : Nat → Nat → Int32 → Int32 → Int32 → mk_S → Option (Int32 × mk_S)
  | 0, _, _, _, _, _ => none
  | n + 1, x0, x1, x2, x3, t => if (6 : Int32) ≤ x3 then (some (x2, t)) else (if ((x1 >>> (x3 &&& 31)) &&& (1 : Int32)) = 0 then (B_X2_sharesOf_27 (B_X2_sharesOf_4 n) x0 x1 x2 x3 t) else ((mk_ga t x0 2 6).bind fun v1 => (mk_ld 100 t v1 x3).bind fun v2 => B_X2_sharesOf_27 (B_X2_sharesOf_4 n) x0 x1 (x2 + v2) x3 t))
def F_X2_sharesOf (x0 : Nat) (x1 : Int32) (t : mk_S) : Option (Int32 × mk_S) := mk_gd t x0 2 (B_X2_sharesOf_4 mk_fu x0 x1 (0 : Int32) (0 : Int32) t)
theorem o_X2_sharesOf_27 (k4 : Nat → Int32 → Int32 → Int32 → mk_S → Option (Int32 × mk_S)) (h4 : ∀ (x0 : Nat) (x1 : Int32) (x2 : Int32) (x3 : Int32) (t : mk_S), mk_O mk_wi M_X2_sharesOf 4 [some (.ref x0), some (.int x1), some (.int x2), some (.int x3)] [] t (k4 x0 x1 x2 x3 t)) (x0 : Nat) (x1 : Int32) (x2 : Int32) (x3 : Int32) (t : mk_S) : mk_O mk_wi M_X2_sharesOf 27 [some (.ref x0), some (.int x1), some (.int x2), some (.int x3)] [] t (B_X2_sharesOf_27 k4 x0 x1 x2 x3 t) := by
  unfold B_X2_sharesOf_27
  refine xo_iinc rfl (congrArg _ kc_1) (by decide) (mk_p1_v rfl rfl) dX2_sharesOf_27 ?_
  refine xo_goto (tgt := 4) dX2_sharesOf_30 rfl ?_
  exact mk_O.wk (h4 x0 x1 x2 (x3 + (1 : Int32)) t) ⟨rfl, ⟨rfl, ⟨rfl, ⟨rfl, trivial⟩⟩⟩⟩
theorem o_X2_sharesOf_4 : ∀ (n : Nat) (x0 : Nat) (x1 : Int32) (x2 : Int32) (x3 : Int32) (t : mk_S), mk_O mk_wi M_X2_sharesOf 4 [some (.ref x0), some (.int x1), some (.int x2), some (.int x3)] [] t (B_X2_sharesOf_4 n x0 x1 x2 x3 t) := by
  intro n
  induction n with
  | zero =>
    intro x0 x1 x2 x3 t
    exact mk_O.none
  | succ n ih =>
    intro x0 x1 x2 x3 t
    rw [B_X2_sharesOf_4]
    refine xo_iload_n rfl rfl dX2_sharesOf_4 ?_
    refine xo_bipush kb_6 dX2_sharesOf_5 ?_
    refine xo_icmp_ge (tgt := 33) dX2_sharesOf_7 rfl (fun _ => ?_) (fun _ => ?_)
    · refine xo_iload_n rfl rfl dX2_sharesOf_33 ?_
      exact xo_iret dX2_sharesOf_34 rfl
    · refine xo_iload_n rfl rfl dX2_sharesOf_10 ?_
      refine xo_iload_n rfl rfl dX2_sharesOf_11 ?_
      refine xo_ishr dX2_sharesOf_12 ?_
      refine xo_iconst kc_1 dX2_sharesOf_13 ?_
      refine xo_iand dX2_sharesOf_14 ?_
      refine xo_if_eq (tgt := 27) dX2_sharesOf_15 rfl (fun _ => ?_) (fun _ => ?_)
      · exact mk_O.wk (o_X2_sharesOf_27 _ ih x0 x1 x2 x3 t) ⟨rfl, ⟨rfl, ⟨rfl, ⟨rfl, trivial⟩⟩⟩⟩
      · refine xo_iload_n rfl rfl dX2_sharesOf_18 ?_
        refine xo_aload_n rfl rfl dX2_sharesOf_19 ?_
        refine xo_geta dX2_sharesOf_20 cl_2 fl_RX2_46 rfl (fun v1 => ?_)
        refine xo_iload_n rfl rfl dX2_sharesOf_23 ?_
        refine xo_iald dX2_sharesOf_24 (fun v2 => ?_)
        refine xo_iadd dX2_sharesOf_25 ?_
        refine xo_istore_n rfl (by decide) (mk_p1_v rfl rfl) dX2_sharesOf_26 ?_
        exact mk_O.wk (o_X2_sharesOf_27 _ ih x0 x1 (x2 + v2) x3 t) ⟨rfl, ⟨rfl, ⟨rfl, ⟨rfl, trivial⟩⟩⟩⟩
theorem p_X2_sharesOf (x0 : Nat) (x1 : Int32) (t : mk_S) : mk_O mk_wi M_X2_sharesOf 0 [some (.ref x0), some (.int x1), none, none] [] t (B_X2_sharesOf_4 mk_fu x0 x1 (0 : Int32) (0 : Int32) t) := by
  refine xo_iconst kc_0 dX2_sharesOf_0 ?_
  refine xo_istore_n rfl (by decide) (mk_p1_v rfl rfl) dX2_sharesOf_1 ?_
  refine xo_iconst kc_0 dX2_sharesOf_2 ?_
  refine xo_istore_n rfl (by decide) (mk_p1_v rfl rfl) dX2_sharesOf_3 ?_
  exact mk_O.wk (o_X2_sharesOf_4 mk_fu x0 x1 (0 : Int32) (0 : Int32) t) ⟨rfl, ⟨rfl, ⟨rfl, ⟨rfl, trivial⟩⟩⟩⟩
theorem c_X2_sharesOf (x0 : Nat) (x1 : Int32) (t : mk_S) (z : Int32 × mk_S) (h : F_X2_sharesOf x0 x1 t = some z) : mk_is t x0 2 ∧ mk_Ct M_X2_sharesOf [.ref x0, .int x1] t (mk_wi z.1, z.2) :=
  ⟨(mk_gd_spec h).1, mk_ct (w := mk_wi) (by decide +kernel) (Nat.le_of_ble_eq_true rfl) (p_X2_sharesOf x0 x1 t) z (mk_gd_spec h).2⟩
def B_X2_blowers_133 (k90 : Nat → Int32 → Int32 → Int32 → Int32 → Int32 → Int32 → Int32 → mk_S → Option (Int32 × mk_S)) (x0 : Nat) (x2 : Int32) (x3 : Int32) (x4 : Int32) (x5 : Int32) (x6 : Int32) (x7 : Int32) (x8 : Int32) (t : mk_S) : Option (Int32 × mk_S) := k90 x0 x2 x3 x4 x5 x6 x7 (x8 + (1 : Int32)) t
def B_X2_blowers_121 (k90 : Nat → Int32 → Int32 → Int32 → Int32 → Int32 → Int32 → Int32 → mk_S → Option (Int32 × mk_S)) (x0 : Nat) (x2 : Int32) (x3 : Int32) (x4 : Int32) (x5 : Int32) (x7 : Int32) (x8 : Int32) (s0 : Int32) (t : mk_S) : Option (Int32 × mk_S) := B_X2_blowers_133 k90 x0 x2 x3 x4 (x5 + (1 : Int32)) s0 (x7 &&& x8) x8 t
def B_X2_blowers_90 : Nat → Nat → Int32 → Int32 → Int32 → Int32 → Int32 → Int32 → Int32 → mk_S → Option (Int32 × mk_S)
  | 0, _, _, _, _, _, _, _, _, _ => none
  | n + 1, x0, x2, x3, x4, x5, x6, x7, x8, t => if ((1 : Int32) <<< (x4 &&& 31)) ≤ x8 then (if x3 = (2 : Int32) then (if x5 = 0 then (some ((0 : Int32), t)) else (some (x7, t))) else (if x3 = 0 then (some (x5, t)) else (some (x6, t)))) else ((F_X2_sharesOf x0 x8 t).bind fun z1 => if z1.1 = x2 then (if x5 = 0 then (B_X2_blowers_121 (B_X2_blowers_90 n) x0 x2 x3 x4 x5 x7 x8 x8 z1.2) else (B_X2_blowers_121 (B_X2_blowers_90 n) x0 x2 x3 x4 x5 x7 x8 x6 z1.2)) else (B_X2_blowers_133 (B_X2_blowers_90 n) x0 x2 x3 x4 x5 x6 x7 x8 z1.2))
def B_X2_blowers_15 : Nat → Nat → Int32 → Int32 → Int32 → Int32 → Int32 → mk_S → Option (Int32 × mk_S)
  | 0, _, _, _, _, _, _, _ => none
  | n + 1, x0, x1, x2, x3, x4, x5, t => if x4 ≤ x5 then (B_X2_blowers_90 mk_fu x0 x2 x3 x4 (0 : Int32) (-2 : Int32) (((1 : Int32) <<< (x4 &&& 31)) - (1 : Int32)) (0 : Int32) t) else ((mk_ga t x0 2 5).bind fun v1 => (F_J7_fill_53178 v1 (0 : Int32) t).bind fun z2 => (mk_ga z2.2 x0 2 0).bind fun v3 => (mk_ga z2.2 v3 9 0).bind fun v4 => (mk_ga z2.2 x0 2 0).bind fun v5 => (mk_ga z2.2 v5 9 1).bind fun v6 => (mk_ga z2.2 x0 2 5).bind fun v7 => (F_X9_puff v4 v6 x5 v7 z2.2).bind fun z8 => (mk_ga z8.2 x0 2 6).bind fun v9 => (mk_ga z8.2 x0 2 5).bind fun v10 => (mk_ld 100 z8.2 v10 x1).bind fun v11 => (mk_st 100 z8.2 v9 x5 v11).bind fun t12 => B_X2_blowers_15 n x0 x1 x2 x3 x4 (x5 + (1 : Int32)) t12)
def F_X2_blowers (x0 : Nat) (x1 : Int32) (x2 : Int32) (x3 : Int32) (t : mk_S) : Option (Int32 × mk_S) := mk_gd t x0 2 ((mk_ga t x0 2 0).bind fun v1 => (mk_ga t v1 9 0).bind fun v2 => (mk_gi t v2 3 2).bind fun v3 => B_X2_blowers_15 mk_fu x0 x1 x2 x3 v3 (0 : Int32) t)
theorem o_X2_blowers_133 (k90 : Nat → Int32 → Int32 → Int32 → Int32 → Int32 → Int32 → Int32 → mk_S → Option (Int32 × mk_S)) (h90 : ∀ (x0 : Nat) (x2 : Int32) (x3 : Int32) (x4 : Int32) (x5 : Int32) (x6 : Int32) (x7 : Int32) (x8 : Int32) (t : mk_S), mk_O mk_wi M_X2_blowers 90 [some (.ref x0), none, some (.int x2), some (.int x3), some (.int x4), some (.int x5), some (.int x6), some (.int x7), some (.int x8)] [] t (k90 x0 x2 x3 x4 x5 x6 x7 x8 t)) (x0 : Nat) (x2 : Int32) (x3 : Int32) (x4 : Int32) (x5 : Int32) (x6 : Int32) (x7 : Int32) (x8 : Int32) (t : mk_S) : mk_O mk_wi M_X2_blowers 133 [some (.ref x0), none, some (.int x2), some (.int x3), some (.int x4), some (.int x5), some (.int x6), some (.int x7), some (.int x8)] [] t (B_X2_blowers_133 k90 x0 x2 x3 x4 x5 x6 x7 x8 t) := by
  unfold B_X2_blowers_133
  refine xo_iinc rfl (congrArg _ kc_1) (by decide) (mk_p1_v rfl rfl) dX2_blowers_133 ?_
  refine xo_goto (tgt := 90) dX2_blowers_136 rfl ?_
  exact mk_O.wk (h90 x0 x2 x3 x4 x5 x6 x7 (x8 + (1 : Int32)) t) ⟨rfl, ⟨rfl, ⟨rfl, ⟨rfl, ⟨rfl, ⟨rfl, ⟨rfl, ⟨rfl, trivial⟩⟩⟩⟩⟩⟩⟩⟩
theorem o_X2_blowers_121 (k90 : Nat → Int32 → Int32 → Int32 → Int32 → Int32 → Int32 → Int32 → mk_S → Option (Int32 × mk_S)) (h90 : ∀ (x0 : Nat) (x2 : Int32) (x3 : Int32) (x4 : Int32) (x5 : Int32) (x6 : Int32) (x7 : Int32) (x8 : Int32) (t : mk_S), mk_O mk_wi M_X2_blowers 90 [some (.ref x0), none, some (.int x2), some (.int x3), some (.int x4), some (.int x5), some (.int x6), some (.int x7), some (.int x8)] [] t (k90 x0 x2 x3 x4 x5 x6 x7 x8 t)) (x0 : Nat) (x2 : Int32) (x3 : Int32) (x4 : Int32) (x5 : Int32) (x7 : Int32) (x8 : Int32) (s0 : Int32) (t : mk_S) : mk_O mk_wi M_X2_blowers 121 [some (.ref x0), none, some (.int x2), some (.int x3), some (.int x4), some (.int x5), none, some (.int x7), some (.int x8)] [.int s0] t (B_X2_blowers_121 k90 x0 x2 x3 x4 x5 x7 x8 s0 t) := by
  unfold B_X2_blowers_121
  refine xo_istore (by decide) (mk_p1_v rfl rfl) dX2_blowers_121 ?_
  refine xo_iload rfl dX2_blowers_123 ?_
  refine xo_iload rfl dX2_blowers_125 ?_
  refine xo_iand dX2_blowers_127 ?_
  refine xo_istore (by decide) (mk_p1_v rfl rfl) dX2_blowers_128 ?_
  refine xo_iinc rfl (congrArg _ kc_1) (by decide) (mk_p1_v rfl rfl) dX2_blowers_130 ?_
  exact mk_O.wk (o_X2_blowers_133 _ h90 x0 x2 x3 x4 (x5 + (1 : Int32)) s0 (x7 &&& x8) x8 t) ⟨rfl, ⟨rfl, ⟨rfl, ⟨rfl, ⟨rfl, ⟨rfl, ⟨rfl, ⟨rfl, trivial⟩⟩⟩⟩⟩⟩⟩⟩
theorem o_X2_blowers_90 : ∀ (n : Nat) (x0 : Nat) (x2 : Int32) (x3 : Int32) (x4 : Int32) (x5 : Int32) (x6 : Int32) (x7 : Int32) (x8 : Int32) (t : mk_S), mk_O mk_wi M_X2_blowers 90 [some (.ref x0), none, some (.int x2), some (.int x3), some (.int x4), some (.int x5), some (.int x6), some (.int x7), some (.int x8)] [] t (B_X2_blowers_90 n x0 x2 x3 x4 x5 x6 x7 x8 t) := by
  intro n
  induction n with
  | zero =>
    intro x0 x2 x3 x4 x5 x6 x7 x8 t
    exact mk_O.none
  | succ n ih =>
    intro x0 x2 x3 x4 x5 x6 x7 x8 t
    rw [B_X2_blowers_90]
    refine xo_iload rfl dX2_blowers_90 ?_
    refine xo_iconst kc_1 dX2_blowers_92 ?_
    refine xo_iload rfl dX2_blowers_93 ?_
    refine xo_ishl dX2_blowers_95 ?_
    refine xo_icmp_ge (tgt := 139) dX2_blowers_96 rfl (fun _ => ?_) (fun _ => ?_)
    · refine xo_iload_n rfl rfl dX2_blowers_139 ?_
      refine xo_iconst kc_2 dX2_blowers_140 ?_
      refine xo_icmp_ne (tgt := 156) dX2_blowers_141 rfl (fun _ => ?_) (fun _ => ?_)
      · refine xo_iload rfl dX2_blowers_144 ?_
        refine xo_if_ne (tgt := 153) dX2_blowers_146 rfl (fun _ => ?_) (fun _ => ?_)
        · refine xo_iconst kc_0 dX2_blowers_149 ?_
          refine xo_goto (tgt := 155) dX2_blowers_150 rfl ?_
          exact xo_iret dX2_blowers_155 rfl
        · refine xo_iload rfl dX2_blowers_153 ?_
          exact xo_iret dX2_blowers_155 rfl
      · refine xo_iload_n rfl rfl dX2_blowers_156 ?_
        refine xo_if_ne (tgt := 165) dX2_blowers_157 rfl (fun _ => ?_) (fun _ => ?_)
        · refine xo_iload rfl dX2_blowers_160 ?_
          refine xo_goto (tgt := 167) dX2_blowers_162 rfl ?_
          exact xo_iret dX2_blowers_167 rfl
        · refine xo_iload rfl dX2_blowers_165 ?_
          exact xo_iret dX2_blowers_167 rfl
    · refine xo_aload_n rfl rfl dX2_blowers_99 ?_
      refine xo_iload rfl dX2_blowers_100 ?_
      refine mk_O.callV (N := M_X2_sharesOf) (ci := 2) (q := (RX2, TX2, 14)) (b := x0) (As1 := [.int x8]) (S := []) md_X2_sharesOf mv_X2_sharesOf lk_RX2_165 rfl (Nat.le_of_ble_eq_true rfl) (by decide) dX2_blowers_102 rfl rfl rfl (fun z hz => (c_X2_sharesOf x0 x8 t z hz).1) (fun z hz => (c_X2_sharesOf x0 x8 t z hz).2) (fun z1 _ => ?_)
      show mk_O _ _ _ _ (.int z1.1 :: []) _ _
      refine xo_iload_n rfl rfl dX2_blowers_105 ?_
      refine xo_icmp_ne (tgt := 133) dX2_blowers_106 rfl (fun _ => ?_) (fun _ => ?_)
      · refine xo_iload rfl dX2_blowers_109 ?_
        refine xo_if_ne (tgt := 119) dX2_blowers_111 rfl (fun _ => ?_) (fun _ => ?_)
        · refine xo_iload rfl dX2_blowers_114 ?_
          refine xo_goto (tgt := 121) dX2_blowers_116 rfl ?_
          exact mk_O.wk (o_X2_blowers_121 _ ih x0 x2 x3 x4 x5 x7 x8 x8 z1.2) ⟨rfl, ⟨rfl, ⟨rfl, ⟨rfl, ⟨rfl, ⟨rfl, ⟨rfl, trivial⟩⟩⟩⟩⟩⟩⟩
        · refine xo_iload rfl dX2_blowers_119 ?_
          exact mk_O.wk (o_X2_blowers_121 _ ih x0 x2 x3 x4 x5 x7 x8 x6 z1.2) ⟨rfl, ⟨rfl, ⟨rfl, ⟨rfl, ⟨rfl, ⟨rfl, ⟨rfl, trivial⟩⟩⟩⟩⟩⟩⟩
      · exact mk_O.wk (o_X2_blowers_133 _ ih x0 x2 x3 x4 x5 x6 x7 x8 z1.2) ⟨rfl, ⟨rfl, ⟨rfl, ⟨rfl, ⟨rfl, ⟨rfl, ⟨rfl, ⟨rfl, trivial⟩⟩⟩⟩⟩⟩⟩⟩
theorem o_X2_blowers_15 : ∀ (n : Nat) (x0 : Nat) (x1 : Int32) (x2 : Int32) (x3 : Int32) (x4 : Int32) (x5 : Int32) (t : mk_S), mk_O mk_wi M_X2_blowers 15 [some (.ref x0), some (.int x1), some (.int x2), some (.int x3), some (.int x4), some (.int x5), none, none, none] [] t (B_X2_blowers_15 n x0 x1 x2 x3 x4 x5 t) := by
  intro n
  induction n with
  | zero =>
    intro x0 x1 x2 x3 x4 x5 t
    exact mk_O.none
  | succ n ih =>
    intro x0 x1 x2 x3 x4 x5 t
    rw [B_X2_blowers_15]
    refine xo_iload rfl dX2_blowers_15 ?_
    refine xo_iload rfl dX2_blowers_17 ?_
    refine xo_icmp_ge (tgt := 72) dX2_blowers_19 rfl (fun _ => ?_) (fun _ => ?_)
    · refine xo_iconst kc_0 dX2_blowers_72 ?_
      refine xo_istore (by decide) (mk_p1_v rfl rfl) dX2_blowers_73 ?_
      refine xo_bipush kb_m2 dX2_blowers_75 ?_
      refine xo_istore (by decide) (mk_p1_v rfl rfl) dX2_blowers_77 ?_
      refine xo_iconst kc_1 dX2_blowers_79 ?_
      refine xo_iload rfl dX2_blowers_80 ?_
      refine xo_ishl dX2_blowers_82 ?_
      refine xo_iconst kc_1 dX2_blowers_83 ?_
      refine xo_isub dX2_blowers_84 ?_
      refine xo_istore (by decide) (mk_p1_v rfl rfl) dX2_blowers_85 ?_
      refine xo_iconst kc_0 dX2_blowers_87 ?_
      refine xo_istore (by decide) (mk_p1_v rfl rfl) dX2_blowers_88 ?_
      exact mk_O.wk (o_X2_blowers_90 mk_fu x0 x2 x3 x4 (0 : Int32) (-2 : Int32) (((1 : Int32) <<< (x4 &&& 31)) - (1 : Int32)) (0 : Int32) t) ⟨rfl, ⟨rfl, ⟨rfl, ⟨rfl, ⟨rfl, ⟨rfl, ⟨rfl, ⟨rfl, trivial⟩⟩⟩⟩⟩⟩⟩⟩
    · refine xo_aload_n rfl rfl dX2_blowers_22 ?_
      refine xo_geta dX2_blowers_23 cl_2 fl_RX2_42 rfl (fun v1 => ?_)
      refine xo_iconst kc_0 dX2_blowers_26 ?_
      refine mk_O.callS (N := M_J7_fill_53178) (As := [.ref v1, .int (0 : Int32)]) (S := []) md_J7_fill_53178 ms_J7_fill_53178 lk_RX2_155 rfl (Nat.le_of_ble_eq_true rfl) (by decide) dX2_blowers_27 rfl (fun z hz => c_J7_fill_53178 v1 (0 : Int32) t z hz) (fun z2 _ => ?_)
      show mk_O _ _ _ _ [] _ _
      refine xo_aload_n rfl rfl dX2_blowers_30 ?_
      refine xo_geta dX2_blowers_31 cl_2 fl_RX2_12 rfl (fun v3 => ?_)
      refine xo_geta dX2_blowers_34 cl_9 fl_RX2_84 rfl (fun v4 => ?_)
      refine xo_aload_n rfl rfl dX2_blowers_37 ?_
      refine xo_geta dX2_blowers_38 cl_2 fl_RX2_12 rfl (fun v5 => ?_)
      refine xo_geta dX2_blowers_41 cl_9 fl_RX2_92 rfl (fun v6 => ?_)
      refine xo_iload rfl dX2_blowers_44 ?_
      refine xo_aload_n rfl rfl dX2_blowers_46 ?_
      refine xo_geta dX2_blowers_47 cl_2 fl_RX2_42 rfl (fun v7 => ?_)
      refine mk_O.callS (N := M_X9_puff) (As := [.ref v4, .ref v6, .int x5, .ref v7]) (S := []) md_X9_puff ms_X9_puff lk_RX2_161 rfl (Nat.le_of_ble_eq_true rfl) (by decide) dX2_blowers_50 rfl (fun z hz => c_X9_puff v4 v6 x5 v7 z2.2 z hz) (fun z8 _ => ?_)
      show mk_O _ _ _ _ [] _ _
      refine xo_aload_n rfl rfl dX2_blowers_53 ?_
      refine xo_geta dX2_blowers_54 cl_2 fl_RX2_46 rfl (fun v9 => ?_)
      refine xo_iload rfl dX2_blowers_57 ?_
      refine xo_aload_n rfl rfl dX2_blowers_59 ?_
      refine xo_geta dX2_blowers_60 cl_2 fl_RX2_42 rfl (fun v10 => ?_)
      refine xo_iload_n rfl rfl dX2_blowers_63 ?_
      refine xo_iald dX2_blowers_64 (fun v11 => ?_)
      refine xo_iast dX2_blowers_65 (fun t12 => ?_)
      refine xo_iinc rfl (congrArg _ kc_1) (by decide) (mk_p1_v rfl rfl) dX2_blowers_66 ?_
      refine xo_goto (tgt := 15) dX2_blowers_69 rfl ?_
      exact mk_O.wk (ih x0 x1 x2 x3 x4 (x5 + (1 : Int32)) t12) ⟨rfl, ⟨rfl, ⟨rfl, ⟨rfl, ⟨rfl, ⟨rfl, trivial⟩⟩⟩⟩⟩⟩
theorem p_X2_blowers (x0 : Nat) (x1 : Int32) (x2 : Int32) (x3 : Int32) (t : mk_S) : mk_O mk_wi M_X2_blowers 0 [some (.ref x0), some (.int x1), some (.int x2), some (.int x3), none, none, none, none, none] [] t ((mk_ga t x0 2 0).bind fun v1 => (mk_ga t v1 9 0).bind fun v2 => (mk_gi t v2 3 2).bind fun v3 => B_X2_blowers_15 mk_fu x0 x1 x2 x3 v3 (0 : Int32) t) := by
  refine xo_aload_n rfl rfl dX2_blowers_0 ?_
  refine xo_geta dX2_blowers_1 cl_2 fl_RX2_12 rfl (fun v1 => ?_)
  refine xo_geta dX2_blowers_4 cl_9 fl_RX2_84 rfl (fun v2 => ?_)
  refine xo_geti dX2_blowers_7 cl_3 fl_RX2_149 rfl (fun v3 => ?_)
  refine xo_istore (by decide) (mk_p1_v rfl rfl) dX2_blowers_10 ?_
  refine xo_iconst kc_0 dX2_blowers_12 ?_
  refine xo_istore (by decide) (mk_p1_v rfl rfl) dX2_blowers_13 ?_
  exact mk_O.wk (o_X2_blowers_15 mk_fu x0 x1 x2 x3 v3 (0 : Int32) t) ⟨rfl, ⟨rfl, ⟨rfl, ⟨rfl, ⟨rfl, ⟨rfl, trivial⟩⟩⟩⟩⟩⟩
theorem c_X2_blowers (x0 : Nat) (x1 : Int32) (x2 : Int32) (x3 : Int32) (t : mk_S) (z : Int32 × mk_S) (h : F_X2_blowers x0 x1 x2 x3 t = some z) : mk_is t x0 2 ∧ mk_Ct M_X2_blowers [.ref x0, .int x1, .int x2, .int x3] t (mk_wi z.1, z.2) :=
  ⟨(mk_gd_spec h).1, mk_ct (w := mk_wi) (by decide +kernel) (Nat.le_of_ble_eq_true rfl) (p_X2_blowers x0 x1 x2 x3 t) z (mk_gd_spec h).2⟩
def F_X7_windInAll (x0 : Nat) (t : mk_S) : Option (Int32 × mk_S) := mk_gd t x0 6 ((mk_ga t x0 6 6).bind fun v1 => (F_X7_sum v1 t).bind fun z2 => some (z2.1, z2.2))
theorem p_X7_windInAll (x0 : Nat) (t : mk_S) : mk_O mk_wi M_X7_windInAll 0 [some (.ref x0)] [] t ((mk_ga t x0 6 6).bind fun v1 => (F_X7_sum v1 t).bind fun z2 => some (z2.1, z2.2)) := by
  refine xo_aload_n rfl rfl dX7_windInAll_0 ?_
  refine xo_geta dX7_windInAll_1 cl_6 fl_RX7_30 rfl (fun v1 => ?_)
  refine mk_O.callS (N := M_X7_sum) (As := [.ref v1]) (S := []) md_X7_sum ms_X7_sum lk_RX7_62 rfl (Nat.le_of_ble_eq_true rfl) (by decide) dX7_windInAll_4 rfl (fun z hz => c_X7_sum v1 t z hz) (fun z2 _ => ?_)
  show mk_O _ _ _ _ (.int z2.1 :: []) _ _
  exact xo_iret dX7_windInAll_7 rfl
theorem c_X7_windInAll (x0 : Nat) (t : mk_S) (z : Int32 × mk_S) (h : F_X7_windInAll x0 t = some z) : mk_is t x0 6 ∧ mk_Ct M_X7_windInAll [.ref x0] t (mk_wi z.1, z.2) :=
  ⟨(mk_gd_spec h).1, mk_ct (w := mk_wi) (by decide +kernel) (Nat.le_of_ble_eq_true rfl) (p_X7_windInAll x0 t) z (mk_gd_spec h).2⟩
def B_X2_longestLull_110 (k32 : Nat → Int32 → Int32 → Option Nat → Int32 → Int32 → Int32 → Int32 → mk_S → Option (Int32 × mk_S)) (x0 : Nat) (x1 : Int32) (x2 : Int32) (x3 : Option Nat) (x4 : Int32) (x5 : Int32) (x6 : Int32) (x7 : Int32) (t : mk_S) : Option (Int32 × mk_S) := k32 x0 x1 x2 x3 x4 x5 x6 (x7 + (1 : Int32)) t
def B_X2_longestLull_77 (k32 : Nat → Int32 → Int32 → Option Nat → Int32 → Int32 → Int32 → Int32 → mk_S → Option (Int32 × mk_S)) (x0 : Nat) (x1 : Int32) (x2 : Int32) (x3 : Option Nat) (x4 : Int32) (x5 : Int32) (x7 : Int32) (s0 : Int32) (t : mk_S) : Option (Int32 × mk_S) := if s0 ≤ x4 then (B_X2_longestLull_110 k32 x0 x1 x2 x3 x4 x5 s0 x7 t) else ((mk_ga t x0 2 0).bind fun v1 => (mk_ga t v1 9 1).bind fun v2 => (mk_gi t v2 6 8).bind fun v3 => B_X2_longestLull_110 k32 x0 x1 x2 x3 s0 (((v3 + x7) + (1 : Int32)) - s0) s0 x7 t)
def B_X2_longestLull_32 : Nat → Nat → Int32 → Int32 → Option Nat → Int32 → Int32 → Int32 → Int32 → mk_S → Option (Int32 × mk_S)
  | 0, _, _, _, _, _, _, _, _, _ => none
  | n + 1, x0, x1, x2, x3, x4, x5, x6, x7, t => if x1 ≤ x7 then (if x2 = 0 then (some (x4, t)) else (some (x5, t))) else ((mk_ga t x0 2 3).bind fun v1 => (mk_ga t x0 2 0).bind fun v2 => (mk_ga t v2 9 0).bind fun v3 => (mk_ga t x0 2 4).bind fun v4 => (F_X9_pass v1 v3 x3 v4 (-1 : Int32) t).bind fun z5 => (mk_ga z5.2 x0 2 4).bind fun v6 => (F_X7_windInAll v6 z5.2).bind fun z7 => if z7.1 = 0 then (B_X2_longestLull_77 (B_X2_longestLull_32 n) x0 x1 x2 x3 x4 x5 x7 (x6 + (1 : Int32)) z7.2) else (B_X2_longestLull_77 (B_X2_longestLull_32 n) x0 x1 x2 x3 x4 x5 x7 (0 : Int32) z7.2))
def F_X2_longestLull (x0 : Nat) (x1 : Int32) (x2 : Int32) (t : mk_S) : Option (Int32 × mk_S) := mk_gd t x0 2 ((mk_ga t x0 2 4).bind fun v1 => (mk_ga t x0 2 0).bind fun v2 => (mk_ga t v2 9 1).bind fun v3 => (F_X7_copyFrom v1 v3 t).bind fun z4 => (F_X2_inForce x0 z4.2).bind fun z5 => B_X2_longestLull_32 mk_fu x0 x1 x2 z5.1 (0 : Int32) (-2 : Int32) (0 : Int32) (0 : Int32) z5.2)
theorem o_X2_longestLull_110 (k32 : Nat → Int32 → Int32 → Option Nat → Int32 → Int32 → Int32 → Int32 → mk_S → Option (Int32 × mk_S)) (h32 : ∀ (x0 : Nat) (x1 : Int32) (x2 : Int32) (x3 : Option Nat) (x4 : Int32) (x5 : Int32) (x6 : Int32) (x7 : Int32) (t : mk_S), mk_O mk_wi M_X2_longestLull 32 [some (.ref x0), some (.int x1), some (.int x2), some (va_rf x3), some (.int x4), some (.int x5), some (.int x6), some (.int x7)] [] t (k32 x0 x1 x2 x3 x4 x5 x6 x7 t)) (x0 : Nat) (x1 : Int32) (x2 : Int32) (x3 : Option Nat) (x4 : Int32) (x5 : Int32) (x6 : Int32) (x7 : Int32) (t : mk_S) : mk_O mk_wi M_X2_longestLull 110 [some (.ref x0), some (.int x1), some (.int x2), some (va_rf x3), some (.int x4), some (.int x5), some (.int x6), some (.int x7)] [] t (B_X2_longestLull_110 k32 x0 x1 x2 x3 x4 x5 x6 x7 t) := by
  unfold B_X2_longestLull_110
  refine xo_iinc rfl (congrArg _ kc_1) (by decide) (mk_p1_v rfl rfl) dX2_longestLull_110 ?_
  refine xo_goto (tgt := 32) dX2_longestLull_113 rfl ?_
  exact mk_O.wk (h32 x0 x1 x2 x3 x4 x5 x6 (x7 + (1 : Int32)) t) ⟨rfl, ⟨rfl, ⟨rfl, ⟨rfl, ⟨rfl, ⟨rfl, ⟨rfl, ⟨rfl, trivial⟩⟩⟩⟩⟩⟩⟩⟩
theorem o_X2_longestLull_77 (k32 : Nat → Int32 → Int32 → Option Nat → Int32 → Int32 → Int32 → Int32 → mk_S → Option (Int32 × mk_S)) (h32 : ∀ (x0 : Nat) (x1 : Int32) (x2 : Int32) (x3 : Option Nat) (x4 : Int32) (x5 : Int32) (x6 : Int32) (x7 : Int32) (t : mk_S), mk_O mk_wi M_X2_longestLull 32 [some (.ref x0), some (.int x1), some (.int x2), some (va_rf x3), some (.int x4), some (.int x5), some (.int x6), some (.int x7)] [] t (k32 x0 x1 x2 x3 x4 x5 x6 x7 t)) (x0 : Nat) (x1 : Int32) (x2 : Int32) (x3 : Option Nat) (x4 : Int32) (x5 : Int32) (x7 : Int32) (s0 : Int32) (t : mk_S) : mk_O mk_wi M_X2_longestLull 77 [some (.ref x0), some (.int x1), some (.int x2), some (va_rf x3), some (.int x4), some (.int x5), none, some (.int x7)] [.int s0] t (B_X2_longestLull_77 k32 x0 x1 x2 x3 x4 x5 x7 s0 t) := by
  unfold B_X2_longestLull_77
  refine xo_istore (by decide) (mk_p1_v rfl rfl) dX2_longestLull_77 ?_
  refine xo_iload rfl dX2_longestLull_79 ?_
  refine xo_iload rfl dX2_longestLull_81 ?_
  refine xo_icmp_le (tgt := 110) dX2_longestLull_83 rfl (fun _ => ?_) (fun _ => ?_)
  · exact mk_O.wk (o_X2_longestLull_110 _ h32 x0 x1 x2 x3 x4 x5 s0 x7 t) ⟨rfl, ⟨rfl, ⟨rfl, ⟨rfl, ⟨rfl, ⟨rfl, ⟨rfl, ⟨rfl, trivial⟩⟩⟩⟩⟩⟩⟩⟩
  · refine xo_iload rfl dX2_longestLull_86 ?_
    refine xo_istore (by decide) (mk_p1_v rfl (mk_rf_cat _)) dX2_longestLull_88 ?_
    refine xo_aload_n rfl rfl dX2_longestLull_90 ?_
    refine xo_geta dX2_longestLull_91 cl_2 fl_RX2_12 rfl (fun v1 => ?_)
    refine xo_geta dX2_longestLull_94 cl_9 fl_RX2_92 rfl (fun v2 => ?_)
    refine xo_geti dX2_longestLull_97 cl_6 fl_RX2_121 rfl (fun v3 => ?_)
    refine xo_iload rfl dX2_longestLull_100 ?_
    refine xo_iadd dX2_longestLull_102 ?_
    refine xo_iconst kc_1 dX2_longestLull_103 ?_
    refine xo_iadd dX2_longestLull_104 ?_
    refine xo_iload rfl dX2_longestLull_105 ?_
    refine xo_isub dX2_longestLull_107 ?_
    refine xo_istore (by decide) (mk_p1_v rfl rfl) dX2_longestLull_108 ?_
    exact mk_O.wk (o_X2_longestLull_110 _ h32 x0 x1 x2 x3 s0 (((v3 + x7) + (1 : Int32)) - s0) s0 x7 t) ⟨rfl, ⟨rfl, ⟨rfl, ⟨rfl, ⟨rfl, ⟨rfl, ⟨rfl, ⟨rfl, trivial⟩⟩⟩⟩⟩⟩⟩⟩
theorem o_X2_longestLull_32 : ∀ (n : Nat) (x0 : Nat) (x1 : Int32) (x2 : Int32) (x3 : Option Nat) (x4 : Int32) (x5 : Int32) (x6 : Int32) (x7 : Int32) (t : mk_S), mk_O mk_wi M_X2_longestLull 32 [some (.ref x0), some (.int x1), some (.int x2), some (va_rf x3), some (.int x4), some (.int x5), some (.int x6), some (.int x7)] [] t (B_X2_longestLull_32 n x0 x1 x2 x3 x4 x5 x6 x7 t) := by
  intro n
  induction n with
  | zero =>
    intro x0 x1 x2 x3 x4 x5 x6 x7 t
    exact mk_O.none
  | succ n ih =>
    intro x0 x1 x2 x3 x4 x5 x6 x7 t
    rw [B_X2_longestLull_32]
    refine xo_iload rfl dX2_longestLull_32 ?_
    refine xo_iload_n rfl rfl dX2_longestLull_34 ?_
    refine xo_icmp_ge (tgt := 116) dX2_longestLull_35 rfl (fun _ => ?_) (fun _ => ?_)
    · refine xo_iload_n rfl rfl dX2_longestLull_116 ?_
      refine xo_if_ne (tgt := 125) dX2_longestLull_117 rfl (fun _ => ?_) (fun _ => ?_)
      · refine xo_iload rfl dX2_longestLull_120 ?_
        refine xo_goto (tgt := 127) dX2_longestLull_122 rfl ?_
        exact xo_iret dX2_longestLull_127 rfl
      · refine xo_iload rfl dX2_longestLull_125 ?_
        exact xo_iret dX2_longestLull_127 rfl
    · refine xo_aload_n rfl rfl dX2_longestLull_38 ?_
      refine xo_geta dX2_longestLull_39 cl_2 fl_RX2_31 rfl (fun v1 => ?_)
      refine xo_aload_n rfl rfl dX2_longestLull_42 ?_
      refine xo_geta dX2_longestLull_43 cl_2 fl_RX2_12 rfl (fun v2 => ?_)
      refine xo_geta dX2_longestLull_46 cl_9 fl_RX2_84 rfl (fun v3 => ?_)
      refine xo_aload_nq rfl rfl dX2_longestLull_49 ?_
      refine xo_aload_n rfl rfl dX2_longestLull_50 ?_
      refine xo_geta dX2_longestLull_51 cl_2 fl_RX2_38 rfl (fun v4 => ?_)
      refine xo_iconst kc_m1 dX2_longestLull_54 ?_
      refine mk_O.callV (N := M_X9_pass) (ci := 8) (q := (RX9, TX9, 1)) (b := v1) (As1 := [.ref v3, va_rf x3, .ref v4, .int (-1 : Int32)]) (S := []) md_X9_pass mv_X9_pass lk_RX2_88 rfl (Nat.le_of_ble_eq_true rfl) (by decide) dX2_longestLull_55 rfl rfl rfl (fun z hz => (c_X9_pass v1 v3 x3 v4 (-1 : Int32) t z hz).1) (fun z hz => (c_X9_pass v1 v3 x3 v4 (-1 : Int32) t z hz).2) (fun z5 _ => ?_)
      show mk_O _ _ _ _ (.int z5.1 :: []) _ _
      refine xo_pop rfl dX2_longestLull_58 ?_
      refine xo_aload_n rfl rfl dX2_longestLull_59 ?_
      refine xo_geta dX2_longestLull_60 cl_2 fl_RX2_38 rfl (fun v6 => ?_)
      refine mk_O.callV (N := M_X7_windInAll) (ci := 6) (q := (RX7, TX7, 9)) (b := v6) (As1 := []) (S := []) md_X7_windInAll mv_X7_windInAll lk_RX2_168 rfl (Nat.le_of_ble_eq_true rfl) (by decide) dX2_longestLull_63 rfl rfl rfl (fun z hz => (c_X7_windInAll v6 z5.2 z hz).1) (fun z hz => (c_X7_windInAll v6 z5.2 z hz).2) (fun z7 _ => ?_)
      show mk_O _ _ _ _ (.int z7.1 :: []) _ _
      refine xo_if_ne (tgt := 76) dX2_longestLull_66 rfl (fun _ => ?_) (fun _ => ?_)
      · refine xo_iload rfl dX2_longestLull_69 ?_
        refine xo_iconst kc_1 dX2_longestLull_71 ?_
        refine xo_iadd dX2_longestLull_72 ?_
        refine xo_goto (tgt := 77) dX2_longestLull_73 rfl ?_
        exact mk_O.wk (o_X2_longestLull_77 _ ih x0 x1 x2 x3 x4 x5 x7 (x6 + (1 : Int32)) z7.2) ⟨rfl, ⟨rfl, ⟨rfl, ⟨rfl, ⟨rfl, ⟨rfl, ⟨rfl, trivial⟩⟩⟩⟩⟩⟩⟩
      · refine xo_iconst kc_0 dX2_longestLull_76 ?_
        exact mk_O.wk (o_X2_longestLull_77 _ ih x0 x1 x2 x3 x4 x5 x7 (0 : Int32) z7.2) ⟨rfl, ⟨rfl, ⟨rfl, ⟨rfl, ⟨rfl, ⟨rfl, ⟨rfl, trivial⟩⟩⟩⟩⟩⟩⟩
theorem p_X2_longestLull (x0 : Nat) (x1 : Int32) (x2 : Int32) (t : mk_S) : mk_O mk_wi M_X2_longestLull 0 [some (.ref x0), some (.int x1), some (.int x2), none, none, none, none, none] [] t ((mk_ga t x0 2 4).bind fun v1 => (mk_ga t x0 2 0).bind fun v2 => (mk_ga t v2 9 1).bind fun v3 => (F_X7_copyFrom v1 v3 t).bind fun z4 => (F_X2_inForce x0 z4.2).bind fun z5 => B_X2_longestLull_32 mk_fu x0 x1 x2 z5.1 (0 : Int32) (-2 : Int32) (0 : Int32) (0 : Int32) z5.2) := by
  refine xo_aload_n rfl rfl dX2_longestLull_0 ?_
  refine xo_geta dX2_longestLull_1 cl_2 fl_RX2_38 rfl (fun v1 => ?_)
  refine xo_aload_n rfl rfl dX2_longestLull_4 ?_
  refine xo_geta dX2_longestLull_5 cl_2 fl_RX2_12 rfl (fun v2 => ?_)
  refine xo_geta dX2_longestLull_8 cl_9 fl_RX2_92 rfl (fun v3 => ?_)
  refine mk_O.callV (N := M_X7_copyFrom) (ci := 6) (q := (RX7, TX7, 9)) (b := v1) (As1 := [.ref v3]) (S := []) md_X7_copyFrom mv_X7_copyFrom lk_RX2_95 rfl (Nat.le_of_ble_eq_true rfl) (by decide) dX2_longestLull_11 rfl rfl rfl (fun z hz => (c_X7_copyFrom v1 v3 t z hz).1) (fun z hz => (c_X7_copyFrom v1 v3 t z hz).2) (fun z4 _ => ?_)
  show mk_O _ _ _ _ [] _ _
  refine xo_aload_n rfl rfl dX2_longestLull_14 ?_
  refine mk_O.callV (N := M_X2_inForce) (ci := 2) (q := (RX2, TX2, 14)) (b := x0) (As1 := []) (S := []) md_X2_inForce mv_X2_inForce lk_RX2_80 rfl (Nat.le_of_ble_eq_true rfl) (by decide) dX2_longestLull_15 rfl rfl rfl (fun z hz => (c_X2_inForce x0 z4.2 z hz).1) (fun z hz => (c_X2_inForce x0 z4.2 z hz).2) (fun z5 _ => ?_)
  show mk_O _ _ _ _ (va_rf z5.1 :: []) _ _
  refine xo_astore_nq rfl (by decide) (mk_p1_v rfl rfl) dX2_longestLull_18 ?_
  refine xo_iconst kc_0 dX2_longestLull_19 ?_
  refine xo_istore (by decide) (mk_p1_v rfl (mk_rf_cat _)) dX2_longestLull_20 ?_
  refine xo_bipush kb_m2 dX2_longestLull_22 ?_
  refine xo_istore (by decide) (mk_p1_v rfl rfl) dX2_longestLull_24 ?_
  refine xo_iconst kc_0 dX2_longestLull_26 ?_
  refine xo_istore (by decide) (mk_p1_v rfl rfl) dX2_longestLull_27 ?_
  refine xo_iconst kc_0 dX2_longestLull_29 ?_
  refine xo_istore (by decide) (mk_p1_v rfl rfl) dX2_longestLull_30 ?_
  exact mk_O.wk (o_X2_longestLull_32 mk_fu x0 x1 x2 z5.1 (0 : Int32) (-2 : Int32) (0 : Int32) (0 : Int32) z5.2) ⟨rfl, ⟨rfl, ⟨rfl, ⟨rfl, ⟨rfl, ⟨rfl, ⟨rfl, ⟨rfl, trivial⟩⟩⟩⟩⟩⟩⟩⟩
theorem c_X2_longestLull (x0 : Nat) (x1 : Int32) (x2 : Int32) (t : mk_S) (z : Int32 × mk_S) (h : F_X2_longestLull x0 x1 x2 t = some z) : mk_is t x0 2 ∧ mk_Ct M_X2_longestLull [.ref x0, .int x1, .int x2] t (mk_wi z.1, z.2) :=
  ⟨(mk_gd_spec h).1, mk_ct (w := mk_wi) (by decide +kernel) (Nat.le_of_ble_eq_true rfl) (p_X2_longestLull x0 x1 x2 t) z (mk_gd_spec h).2⟩
def B_X2_windiest_99 (k37 : Nat → Int32 → Int32 → Option Nat → Int32 → Int32 → Int32 → mk_S → Option (Int32 × mk_S)) (x0 : Nat) (x1 : Int32) (x2 : Int32) (x3 : Option Nat) (x4 : Int32) (x5 : Int32) (x6 : Int32) (t : mk_S) : Option (Int32 × mk_S) := k37 x0 x1 x2 x3 x4 x5 (x6 + (1 : Int32)) t
def B_X2_windiest_37 : Nat → Nat → Int32 → Int32 → Option Nat → Int32 → Int32 → Int32 → mk_S → Option (Int32 × mk_S)
  | 0, _, _, _, _, _, _, _, _ => none
  | n + 1, x0, x1, x2, x3, x4, x5, x6, t => if x1 ≤ x6 then (if x2 = 0 then (some (x5, t)) else (some (x4, t))) else ((mk_ga t x0 2 3).bind fun v1 => (mk_ga t x0 2 0).bind fun v2 => (mk_ga t v2 9 0).bind fun v3 => (mk_ga t x0 2 4).bind fun v4 => (F_X9_pass v1 v3 x3 v4 (-1 : Int32) t).bind fun z5 => (mk_ga z5.2 x0 2 4).bind fun v6 => (F_X7_windInAll v6 z5.2).bind fun z7 => if z7.1 ≤ x4 then (B_X2_windiest_99 (B_X2_windiest_37 n) x0 x1 x2 x3 x4 x5 x6 z7.2) else ((mk_ga z7.2 x0 2 0).bind fun v8 => (mk_ga z7.2 v8 9 1).bind fun v9 => (mk_gi z7.2 v9 6 8).bind fun v10 => B_X2_windiest_99 (B_X2_windiest_37 n) x0 x1 x2 x3 z7.1 (v10 + x6) x6 z7.2))
def F_X2_windiest (x0 : Nat) (x1 : Int32) (x2 : Int32) (t : mk_S) : Option (Int32 × mk_S) := mk_gd t x0 2 ((mk_ga t x0 2 4).bind fun v1 => (mk_ga t x0 2 0).bind fun v2 => (mk_ga t v2 9 1).bind fun v3 => (F_X7_copyFrom v1 v3 t).bind fun z4 => (F_X2_inForce x0 z4.2).bind fun z5 => (mk_ga z5.2 x0 2 0).bind fun v6 => (mk_ga z5.2 v6 9 1).bind fun v7 => (mk_gi z5.2 v7 6 8).bind fun v8 => B_X2_windiest_37 mk_fu x0 x1 x2 z5.1 (-1 : Int32) v8 (0 : Int32) z5.2)
theorem o_X2_windiest_99 (k37 : Nat → Int32 → Int32 → Option Nat → Int32 → Int32 → Int32 → mk_S → Option (Int32 × mk_S)) (h37 : ∀ (x0 : Nat) (x1 : Int32) (x2 : Int32) (x3 : Option Nat) (x4 : Int32) (x5 : Int32) (x6 : Int32) (t : mk_S), mk_O mk_wi M_X2_windiest 37 [some (.ref x0), some (.int x1), some (.int x2), some (va_rf x3), some (.int x4), some (.int x5), some (.int x6), none] [] t (k37 x0 x1 x2 x3 x4 x5 x6 t)) (x0 : Nat) (x1 : Int32) (x2 : Int32) (x3 : Option Nat) (x4 : Int32) (x5 : Int32) (x6 : Int32) (t : mk_S) : mk_O mk_wi M_X2_windiest 99 [some (.ref x0), some (.int x1), some (.int x2), some (va_rf x3), some (.int x4), some (.int x5), some (.int x6), none] [] t (B_X2_windiest_99 k37 x0 x1 x2 x3 x4 x5 x6 t) := by
  unfold B_X2_windiest_99
  refine xo_iinc rfl (congrArg _ kc_1) (by decide) (mk_p1_v rfl rfl) dX2_windiest_99 ?_
  refine xo_goto (tgt := 37) dX2_windiest_102 rfl ?_
  exact mk_O.wk (h37 x0 x1 x2 x3 x4 x5 (x6 + (1 : Int32)) t) ⟨rfl, ⟨rfl, ⟨rfl, ⟨rfl, ⟨rfl, ⟨rfl, ⟨rfl, trivial⟩⟩⟩⟩⟩⟩⟩
theorem o_X2_windiest_37 : ∀ (n : Nat) (x0 : Nat) (x1 : Int32) (x2 : Int32) (x3 : Option Nat) (x4 : Int32) (x5 : Int32) (x6 : Int32) (t : mk_S), mk_O mk_wi M_X2_windiest 37 [some (.ref x0), some (.int x1), some (.int x2), some (va_rf x3), some (.int x4), some (.int x5), some (.int x6), none] [] t (B_X2_windiest_37 n x0 x1 x2 x3 x4 x5 x6 t) := by
  intro n
  induction n with
  | zero =>
    intro x0 x1 x2 x3 x4 x5 x6 t
    exact mk_O.none
  | succ n ih =>
    intro x0 x1 x2 x3 x4 x5 x6 t
    rw [B_X2_windiest_37]
    refine xo_iload rfl dX2_windiest_37 ?_
    refine xo_iload_n rfl rfl dX2_windiest_39 ?_
    refine xo_icmp_ge (tgt := 105) dX2_windiest_40 rfl (fun _ => ?_) (fun _ => ?_)
    · refine xo_iload_n rfl rfl dX2_windiest_105 ?_
      refine xo_if_ne (tgt := 114) dX2_windiest_106 rfl (fun _ => ?_) (fun _ => ?_)
      · refine xo_iload rfl dX2_windiest_109 ?_
        refine xo_goto (tgt := 116) dX2_windiest_111 rfl ?_
        exact xo_iret dX2_windiest_116 rfl
      · refine xo_iload rfl dX2_windiest_114 ?_
        exact xo_iret dX2_windiest_116 rfl
    · refine xo_aload_n rfl rfl dX2_windiest_43 ?_
      refine xo_geta dX2_windiest_44 cl_2 fl_RX2_31 rfl (fun v1 => ?_)
      refine xo_aload_n rfl rfl dX2_windiest_47 ?_
      refine xo_geta dX2_windiest_48 cl_2 fl_RX2_12 rfl (fun v2 => ?_)
      refine xo_geta dX2_windiest_51 cl_9 fl_RX2_84 rfl (fun v3 => ?_)
      refine xo_aload_nq rfl rfl dX2_windiest_54 ?_
      refine xo_aload_n rfl rfl dX2_windiest_55 ?_
      refine xo_geta dX2_windiest_56 cl_2 fl_RX2_38 rfl (fun v4 => ?_)
      refine xo_iconst kc_m1 dX2_windiest_59 ?_
      refine mk_O.callV (N := M_X9_pass) (ci := 8) (q := (RX9, TX9, 1)) (b := v1) (As1 := [.ref v3, va_rf x3, .ref v4, .int (-1 : Int32)]) (S := []) md_X9_pass mv_X9_pass lk_RX2_88 rfl (Nat.le_of_ble_eq_true rfl) (by decide) dX2_windiest_60 rfl rfl rfl (fun z hz => (c_X9_pass v1 v3 x3 v4 (-1 : Int32) t z hz).1) (fun z hz => (c_X9_pass v1 v3 x3 v4 (-1 : Int32) t z hz).2) (fun z5 _ => ?_)
      show mk_O _ _ _ _ (.int z5.1 :: []) _ _
      refine xo_pop rfl dX2_windiest_63 ?_
      refine xo_aload_n rfl rfl dX2_windiest_64 ?_
      refine xo_geta dX2_windiest_65 cl_2 fl_RX2_38 rfl (fun v6 => ?_)
      refine mk_O.callV (N := M_X7_windInAll) (ci := 6) (q := (RX7, TX7, 9)) (b := v6) (As1 := []) (S := []) md_X7_windInAll mv_X7_windInAll lk_RX2_168 rfl (Nat.le_of_ble_eq_true rfl) (by decide) dX2_windiest_68 rfl rfl rfl (fun z hz => (c_X7_windInAll v6 z5.2 z hz).1) (fun z hz => (c_X7_windInAll v6 z5.2 z hz).2) (fun z7 _ => ?_)
      show mk_O _ _ _ _ (.int z7.1 :: []) _ _
      refine xo_istore (by decide) (mk_p1_v rfl rfl) dX2_windiest_71 ?_
      refine xo_iload rfl dX2_windiest_73 ?_
      refine xo_iload rfl dX2_windiest_75 ?_
      refine xo_icmp_le (tgt := 99) dX2_windiest_77 rfl (fun _ => ?_) (fun _ => ?_)
      · exact mk_O.wk (o_X2_windiest_99 _ ih x0 x1 x2 x3 x4 x5 x6 z7.2) ⟨rfl, ⟨rfl, ⟨rfl, ⟨rfl, ⟨rfl, ⟨rfl, ⟨rfl, trivial⟩⟩⟩⟩⟩⟩⟩
      · refine xo_iload rfl dX2_windiest_80 ?_
        refine xo_istore (by decide) (mk_p1_v rfl (mk_rf_cat _)) dX2_windiest_82 ?_
        refine xo_aload_n rfl rfl dX2_windiest_84 ?_
        refine xo_geta dX2_windiest_85 cl_2 fl_RX2_12 rfl (fun v8 => ?_)
        refine xo_geta dX2_windiest_88 cl_9 fl_RX2_92 rfl (fun v9 => ?_)
        refine xo_geti dX2_windiest_91 cl_6 fl_RX2_121 rfl (fun v10 => ?_)
        refine xo_iload rfl dX2_windiest_94 ?_
        refine xo_iadd dX2_windiest_96 ?_
        refine xo_istore (by decide) (mk_p1_v rfl rfl) dX2_windiest_97 ?_
        exact mk_O.wk (o_X2_windiest_99 _ ih x0 x1 x2 x3 z7.1 (v10 + x6) x6 z7.2) ⟨rfl, ⟨rfl, ⟨rfl, ⟨rfl, ⟨rfl, ⟨rfl, ⟨rfl, trivial⟩⟩⟩⟩⟩⟩⟩
theorem p_X2_windiest (x0 : Nat) (x1 : Int32) (x2 : Int32) (t : mk_S) : mk_O mk_wi M_X2_windiest 0 [some (.ref x0), some (.int x1), some (.int x2), none, none, none, none, none] [] t ((mk_ga t x0 2 4).bind fun v1 => (mk_ga t x0 2 0).bind fun v2 => (mk_ga t v2 9 1).bind fun v3 => (F_X7_copyFrom v1 v3 t).bind fun z4 => (F_X2_inForce x0 z4.2).bind fun z5 => (mk_ga z5.2 x0 2 0).bind fun v6 => (mk_ga z5.2 v6 9 1).bind fun v7 => (mk_gi z5.2 v7 6 8).bind fun v8 => B_X2_windiest_37 mk_fu x0 x1 x2 z5.1 (-1 : Int32) v8 (0 : Int32) z5.2) := by
  refine xo_aload_n rfl rfl dX2_windiest_0 ?_
  refine xo_geta dX2_windiest_1 cl_2 fl_RX2_38 rfl (fun v1 => ?_)
  refine xo_aload_n rfl rfl dX2_windiest_4 ?_
  refine xo_geta dX2_windiest_5 cl_2 fl_RX2_12 rfl (fun v2 => ?_)
  refine xo_geta dX2_windiest_8 cl_9 fl_RX2_92 rfl (fun v3 => ?_)
  refine mk_O.callV (N := M_X7_copyFrom) (ci := 6) (q := (RX7, TX7, 9)) (b := v1) (As1 := [.ref v3]) (S := []) md_X7_copyFrom mv_X7_copyFrom lk_RX2_95 rfl (Nat.le_of_ble_eq_true rfl) (by decide) dX2_windiest_11 rfl rfl rfl (fun z hz => (c_X7_copyFrom v1 v3 t z hz).1) (fun z hz => (c_X7_copyFrom v1 v3 t z hz).2) (fun z4 _ => ?_)
  show mk_O _ _ _ _ [] _ _
  refine xo_aload_n rfl rfl dX2_windiest_14 ?_
  refine mk_O.callV (N := M_X2_inForce) (ci := 2) (q := (RX2, TX2, 14)) (b := x0) (As1 := []) (S := []) md_X2_inForce mv_X2_inForce lk_RX2_80 rfl (Nat.le_of_ble_eq_true rfl) (by decide) dX2_windiest_15 rfl rfl rfl (fun z hz => (c_X2_inForce x0 z4.2 z hz).1) (fun z hz => (c_X2_inForce x0 z4.2 z hz).2) (fun z5 _ => ?_)
  show mk_O _ _ _ _ (va_rf z5.1 :: []) _ _
  refine xo_astore_nq rfl (by decide) (mk_p1_v rfl rfl) dX2_windiest_18 ?_
  refine xo_iconst kc_m1 dX2_windiest_19 ?_
  refine xo_istore (by decide) (mk_p1_v rfl (mk_rf_cat _)) dX2_windiest_20 ?_
  refine xo_aload_n rfl rfl dX2_windiest_22 ?_
  refine xo_geta dX2_windiest_23 cl_2 fl_RX2_12 rfl (fun v6 => ?_)
  refine xo_geta dX2_windiest_26 cl_9 fl_RX2_92 rfl (fun v7 => ?_)
  refine xo_geti dX2_windiest_29 cl_6 fl_RX2_121 rfl (fun v8 => ?_)
  refine xo_istore (by decide) (mk_p1_v rfl rfl) dX2_windiest_32 ?_
  refine xo_iconst kc_0 dX2_windiest_34 ?_
  refine xo_istore (by decide) (mk_p1_v rfl rfl) dX2_windiest_35 ?_
  exact mk_O.wk (o_X2_windiest_37 mk_fu x0 x1 x2 z5.1 (-1 : Int32) v8 (0 : Int32) z5.2) ⟨rfl, ⟨rfl, ⟨rfl, ⟨rfl, ⟨rfl, ⟨rfl, ⟨rfl, trivial⟩⟩⟩⟩⟩⟩⟩
theorem c_X2_windiest (x0 : Nat) (x1 : Int32) (x2 : Int32) (t : mk_S) (z : Int32 × mk_S) (h : F_X2_windiest x0 x1 x2 t = some z) : mk_is t x0 2 ∧ mk_Ct M_X2_windiest [.ref x0, .int x1, .int x2] t (mk_wi z.1, z.2) :=
  ⟨(mk_gd_spec h).1, mk_ct (w := mk_wi) (by decide +kernel) (Nat.le_of_ble_eq_true rfl) (p_X2_windiest x0 x1 x2 t) z (mk_gd_spec h).2⟩
def B_X2_playTwo_47 : Nat → Nat → Int32 → Int32 → Int32 → Int32 → Option Nat → Int32 → mk_S → Option (Unit × mk_S)
  | 0, _, _, _, _, _, _, _, _ => none
  | n + 1, x0, x1, x2, x3, x4, x5, x6, t => if x4 ≤ x6 then ((mk_ga t x0 2 7).bind fun v1 => (mk_ga t x0 2 4).bind fun v2 => (mk_ga t v2 6 3).bind fun v3 => (mk_ld 100 t v3 x1).bind fun v4 => (mk_ga t x0 2 0).bind fun v5 => (mk_ga t v5 9 1).bind fun v6 => (mk_ga t v6 6 3).bind fun v7 => (mk_ld 100 t v7 x1).bind fun v8 => (mk_st 100 t v1 x3 (v4 - v8)).bind fun t9 => (mk_ga t9 x0 2 8).bind fun v10 => (mk_ga t9 x0 2 4).bind fun v11 => (mk_ga t9 v11 6 3).bind fun v12 => (mk_ld 100 t9 v12 x2).bind fun v13 => (mk_ga t9 x0 2 0).bind fun v14 => (mk_ga t9 v14 9 1).bind fun v15 => (mk_ga t9 v15 6 3).bind fun v16 => (mk_ld 100 t9 v16 x2).bind fun v17 => (mk_st 100 t9 v10 x3 (v13 - v17)).bind fun t18 => some ((), t18)) else ((mk_ga t x0 2 3).bind fun v19 => (mk_ga t x0 2 0).bind fun v20 => (mk_ga t v20 9 0).bind fun v21 => (mk_ga t x0 2 4).bind fun v22 => (F_X9_pass v19 v21 x5 v22 (-1 : Int32) t).bind fun z23 => B_X2_playTwo_47 n x0 x1 x2 x3 x4 x5 (x6 + (1 : Int32)) z23.2)
def F_X2_playTwo (x0 : Nat) (x1 : Int32) (x2 : Int32) (x3 : Int32) (x4 : Int32) (t : mk_S) : Option (Unit × mk_S) := mk_gd t x0 2 ((mk_ga t x0 2 4).bind fun v1 => (mk_ga t x0 2 0).bind fun v2 => (mk_ga t v2 9 1).bind fun v3 => (F_X7_copyFrom v1 v3 t).bind fun z4 => (mk_ga z4.2 x0 2 4).bind fun v5 => (mk_ga z4.2 v5 6 1).bind fun v6 => if (4 : Int32) = 0 then none else (mk_st 100 z4.2 v6 x1 (x3 / (4 : Int32))).bind fun t7 => (mk_ga t7 x0 2 4).bind fun v8 => (mk_ga t7 v8 6 1).bind fun v9 => if (4 : Int32) = 0 then none else (mk_st 100 t7 v9 x2 (x3 - x3 / (4 : Int32) * (4 : Int32))).bind fun t10 => (F_X2_inForce x0 t10).bind fun z11 => B_X2_playTwo_47 mk_fu x0 x1 x2 x3 x4 z11.1 (0 : Int32) z11.2)
theorem o_X2_playTwo_47 : ∀ (n : Nat) (x0 : Nat) (x1 : Int32) (x2 : Int32) (x3 : Int32) (x4 : Int32) (x5 : Option Nat) (x6 : Int32) (t : mk_S), mk_O mk_wu M_X2_playTwo 47 [some (.ref x0), some (.int x1), some (.int x2), some (.int x3), some (.int x4), some (va_rf x5), some (.int x6)] [] t (B_X2_playTwo_47 n x0 x1 x2 x3 x4 x5 x6 t) := by
  intro n
  induction n with
  | zero =>
    intro x0 x1 x2 x3 x4 x5 x6 t
    exact mk_O.none
  | succ n ih =>
    intro x0 x1 x2 x3 x4 x5 x6 t
    rw [B_X2_playTwo_47]
    refine xo_iload rfl dX2_playTwo_47 ?_
    refine xo_iload rfl dX2_playTwo_49 ?_
    refine xo_icmp_ge (tgt := 82) dX2_playTwo_51 rfl (fun _ => ?_) (fun _ => ?_)
    · refine xo_aload_n rfl rfl dX2_playTwo_82 ?_
      refine xo_geta dX2_playTwo_83 cl_2 fl_RX2_49 rfl (fun v1 => ?_)
      refine xo_iload_n rfl rfl dX2_playTwo_86 ?_
      refine xo_aload_n rfl rfl dX2_playTwo_87 ?_
      refine xo_geta dX2_playTwo_88 cl_2 fl_RX2_38 rfl (fun v2 => ?_)
      refine xo_geta dX2_playTwo_91 cl_6 fl_RX2_179 rfl (fun v3 => ?_)
      refine xo_iload_n rfl rfl dX2_playTwo_94 ?_
      refine xo_iald dX2_playTwo_95 (fun v4 => ?_)
      refine xo_aload_n rfl rfl dX2_playTwo_96 ?_
      refine xo_geta dX2_playTwo_97 cl_2 fl_RX2_12 rfl (fun v5 => ?_)
      refine xo_geta dX2_playTwo_100 cl_9 fl_RX2_92 rfl (fun v6 => ?_)
      refine xo_geta dX2_playTwo_103 cl_6 fl_RX2_179 rfl (fun v7 => ?_)
      refine xo_iload_n rfl rfl dX2_playTwo_106 ?_
      refine xo_iald dX2_playTwo_107 (fun v8 => ?_)
      refine xo_isub dX2_playTwo_108 ?_
      refine xo_iast dX2_playTwo_109 (fun t9 => ?_)
      refine xo_aload_n rfl rfl dX2_playTwo_110 ?_
      refine xo_geta dX2_playTwo_111 cl_2 fl_RX2_52 rfl (fun v10 => ?_)
      refine xo_iload_n rfl rfl dX2_playTwo_114 ?_
      refine xo_aload_n rfl rfl dX2_playTwo_115 ?_
      refine xo_geta dX2_playTwo_116 cl_2 fl_RX2_38 rfl (fun v11 => ?_)
      refine xo_geta dX2_playTwo_119 cl_6 fl_RX2_179 rfl (fun v12 => ?_)
      refine xo_iload_n rfl rfl dX2_playTwo_122 ?_
      refine xo_iald dX2_playTwo_123 (fun v13 => ?_)
      refine xo_aload_n rfl rfl dX2_playTwo_124 ?_
      refine xo_geta dX2_playTwo_125 cl_2 fl_RX2_12 rfl (fun v14 => ?_)
      refine xo_geta dX2_playTwo_128 cl_9 fl_RX2_92 rfl (fun v15 => ?_)
      refine xo_geta dX2_playTwo_131 cl_6 fl_RX2_179 rfl (fun v16 => ?_)
      refine xo_iload_n rfl rfl dX2_playTwo_134 ?_
      refine xo_iald dX2_playTwo_135 (fun v17 => ?_)
      refine xo_isub dX2_playTwo_136 ?_
      refine xo_iast dX2_playTwo_137 (fun t18 => ?_)
      exact xo_vret dX2_playTwo_138 rfl
    · refine xo_aload_n rfl rfl dX2_playTwo_54 ?_
      refine xo_geta dX2_playTwo_55 cl_2 fl_RX2_31 rfl (fun v19 => ?_)
      refine xo_aload_n rfl rfl dX2_playTwo_58 ?_
      refine xo_geta dX2_playTwo_59 cl_2 fl_RX2_12 rfl (fun v20 => ?_)
      refine xo_geta dX2_playTwo_62 cl_9 fl_RX2_84 rfl (fun v21 => ?_)
      refine xo_aloadq rfl dX2_playTwo_65 ?_
      refine xo_aload_n rfl rfl dX2_playTwo_67 ?_
      refine xo_geta dX2_playTwo_68 cl_2 fl_RX2_38 rfl (fun v22 => ?_)
      refine xo_iconst kc_m1 dX2_playTwo_71 ?_
      refine mk_O.callV (N := M_X9_pass) (ci := 8) (q := (RX9, TX9, 1)) (b := v19) (As1 := [.ref v21, va_rf x5, .ref v22, .int (-1 : Int32)]) (S := []) md_X9_pass mv_X9_pass lk_RX2_88 rfl (Nat.le_of_ble_eq_true rfl) (by decide) dX2_playTwo_72 rfl rfl rfl (fun z hz => (c_X9_pass v19 v21 x5 v22 (-1 : Int32) t z hz).1) (fun z hz => (c_X9_pass v19 v21 x5 v22 (-1 : Int32) t z hz).2) (fun z23 _ => ?_)
      show mk_O _ _ _ _ (.int z23.1 :: []) _ _
      refine xo_pop rfl dX2_playTwo_75 ?_
      refine xo_iinc rfl (congrArg _ kc_1) (by decide) (mk_p1_v rfl (mk_rf_cat _)) dX2_playTwo_76 ?_
      refine xo_goto (tgt := 47) dX2_playTwo_79 rfl ?_
      exact mk_O.wk (ih x0 x1 x2 x3 x4 x5 (x6 + (1 : Int32)) z23.2) ⟨rfl, ⟨rfl, ⟨rfl, ⟨rfl, ⟨rfl, ⟨rfl, ⟨rfl, trivial⟩⟩⟩⟩⟩⟩⟩
theorem p_X2_playTwo (x0 : Nat) (x1 : Int32) (x2 : Int32) (x3 : Int32) (x4 : Int32) (t : mk_S) : mk_O mk_wu M_X2_playTwo 0 [some (.ref x0), some (.int x1), some (.int x2), some (.int x3), some (.int x4), none, none] [] t ((mk_ga t x0 2 4).bind fun v1 => (mk_ga t x0 2 0).bind fun v2 => (mk_ga t v2 9 1).bind fun v3 => (F_X7_copyFrom v1 v3 t).bind fun z4 => (mk_ga z4.2 x0 2 4).bind fun v5 => (mk_ga z4.2 v5 6 1).bind fun v6 => if (4 : Int32) = 0 then none else (mk_st 100 z4.2 v6 x1 (x3 / (4 : Int32))).bind fun t7 => (mk_ga t7 x0 2 4).bind fun v8 => (mk_ga t7 v8 6 1).bind fun v9 => if (4 : Int32) = 0 then none else (mk_st 100 t7 v9 x2 (x3 - x3 / (4 : Int32) * (4 : Int32))).bind fun t10 => (F_X2_inForce x0 t10).bind fun z11 => B_X2_playTwo_47 mk_fu x0 x1 x2 x3 x4 z11.1 (0 : Int32) z11.2) := by
  refine xo_aload_n rfl rfl dX2_playTwo_0 ?_
  refine xo_geta dX2_playTwo_1 cl_2 fl_RX2_38 rfl (fun v1 => ?_)
  refine xo_aload_n rfl rfl dX2_playTwo_4 ?_
  refine xo_geta dX2_playTwo_5 cl_2 fl_RX2_12 rfl (fun v2 => ?_)
  refine xo_geta dX2_playTwo_8 cl_9 fl_RX2_92 rfl (fun v3 => ?_)
  refine mk_O.callV (N := M_X7_copyFrom) (ci := 6) (q := (RX7, TX7, 9)) (b := v1) (As1 := [.ref v3]) (S := []) md_X7_copyFrom mv_X7_copyFrom lk_RX2_95 rfl (Nat.le_of_ble_eq_true rfl) (by decide) dX2_playTwo_11 rfl rfl rfl (fun z hz => (c_X7_copyFrom v1 v3 t z hz).1) (fun z hz => (c_X7_copyFrom v1 v3 t z hz).2) (fun z4 _ => ?_)
  show mk_O _ _ _ _ [] _ _
  refine xo_aload_n rfl rfl dX2_playTwo_14 ?_
  refine xo_geta dX2_playTwo_15 cl_2 fl_RX2_38 rfl (fun v5 => ?_)
  refine xo_geta dX2_playTwo_18 cl_6 fl_RX2_146 rfl (fun v6 => ?_)
  refine xo_iload_n rfl rfl dX2_playTwo_21 ?_
  refine xo_iload_n rfl rfl dX2_playTwo_22 ?_
  refine xo_iconst kc_4 dX2_playTwo_23 ?_
  refine xo_idiv dX2_playTwo_24 (fun _ => ?_)
  refine xo_iast dX2_playTwo_25 (fun t7 => ?_)
  refine xo_aload_n rfl rfl dX2_playTwo_26 ?_
  refine xo_geta dX2_playTwo_27 cl_2 fl_RX2_38 rfl (fun v8 => ?_)
  refine xo_geta dX2_playTwo_30 cl_6 fl_RX2_146 rfl (fun v9 => ?_)
  refine xo_iload_n rfl rfl dX2_playTwo_33 ?_
  refine xo_iload_n rfl rfl dX2_playTwo_34 ?_
  refine xo_iconst kc_4 dX2_playTwo_35 ?_
  refine xo_irem dX2_playTwo_36 (fun _ => ?_)
  refine xo_iast dX2_playTwo_37 (fun t10 => ?_)
  refine xo_aload_n rfl rfl dX2_playTwo_38 ?_
  refine mk_O.callV (N := M_X2_inForce) (ci := 2) (q := (RX2, TX2, 14)) (b := x0) (As1 := []) (S := []) md_X2_inForce mv_X2_inForce lk_RX2_80 rfl (Nat.le_of_ble_eq_true rfl) (by decide) dX2_playTwo_39 rfl rfl rfl (fun z hz => (c_X2_inForce x0 t10 z hz).1) (fun z hz => (c_X2_inForce x0 t10 z hz).2) (fun z11 _ => ?_)
  show mk_O _ _ _ _ (va_rf z11.1 :: []) _ _
  refine xo_astoreq (by decide) (mk_p1_v rfl rfl) dX2_playTwo_42 ?_
  refine xo_iconst kc_0 dX2_playTwo_44 ?_
  refine xo_istore (by decide) (mk_p1_v rfl (mk_rf_cat _)) dX2_playTwo_45 ?_
  exact mk_O.wk (o_X2_playTwo_47 mk_fu x0 x1 x2 x3 x4 z11.1 (0 : Int32) z11.2) ⟨rfl, ⟨rfl, ⟨rfl, ⟨rfl, ⟨rfl, ⟨rfl, ⟨rfl, trivial⟩⟩⟩⟩⟩⟩⟩
theorem c_X2_playTwo (x0 : Nat) (x1 : Int32) (x2 : Int32) (x3 : Int32) (x4 : Int32) (t : mk_S) (z : Unit × mk_S) (h : F_X2_playTwo x0 x1 x2 x3 x4 t = some z) : mk_is t x0 2 ∧ mk_Ct M_X2_playTwo [.ref x0, .int x1, .int x2, .int x3, .int x4] t (mk_wu z.1, z.2) :=
  ⟨(mk_gd_spec h).1, mk_ct (w := mk_wu) (by decide +kernel) (Nat.le_of_ble_eq_true rfl) (p_X2_playTwo x0 x1 x2 x3 x4 t) z (mk_gd_spec h).2⟩
def B_X2_isRest_2 : Nat → Nat → Int32 → Int32 → mk_S → Option (Int32 × mk_S)
  | 0, _, _, _, _ => none
  | n + 1, x0, x1, x2, t => if (4 : Int32) ≤ x2 then (mk_rz (1 : Int32) t) else ((mk_ga t x0 2 7).bind fun v1 => if (4 : Int32) = 0 then none else (mk_ld 100 t v1 ((x2 * (4 : Int32)) + (x1 - x1 / (4 : Int32) * (4 : Int32)))).bind fun v2 => (mk_ga t x0 2 7).bind fun v3 => (mk_ld 100 t v3 x1).bind fun v4 => if v2 ≤ v4 then ((mk_ga t x0 2 8).bind fun v5 => if (4 : Int32) = 0 then none else (mk_ld 100 t v5 (((x1 / (4 : Int32)) * (4 : Int32)) + x2)).bind fun v6 => (mk_ga t x0 2 8).bind fun v7 => (mk_ld 100 t v7 x1).bind fun v8 => if v6 ≤ v8 then (B_X2_isRest_2 n x0 x1 (x2 + (1 : Int32)) t) else (mk_rz (0 : Int32) t)) else (mk_rz (0 : Int32) t))
def F_X2_isRest (x0 : Nat) (x1 : Int32) (t : mk_S) : Option (Int32 × mk_S) := mk_gd t x0 2 (B_X2_isRest_2 mk_fu x0 x1 (0 : Int32) t)
theorem o_X2_isRest_2 : ∀ (n : Nat) (x0 : Nat) (x1 : Int32) (x2 : Int32) (t : mk_S), mk_O mk_wi M_X2_isRest 2 [some (.ref x0), some (.int x1), some (.int x2)] [] t (B_X2_isRest_2 n x0 x1 x2 t) := by
  intro n
  induction n with
  | zero =>
    intro x0 x1 x2 t
    exact mk_O.none
  | succ n ih =>
    intro x0 x1 x2 t
    rw [B_X2_isRest_2]
    refine xo_iload_n rfl rfl dX2_isRest_2 ?_
    refine xo_iconst kc_4 dX2_isRest_3 ?_
    refine xo_icmp_ge (tgt := 59) dX2_isRest_4 rfl (fun _ => ?_) (fun _ => ?_)
    · refine xo_iconst kc_1 dX2_isRest_59 ?_
      exact xo_zret dX2_isRest_60 rfl
    · refine xo_aload_n rfl rfl dX2_isRest_7 ?_
      refine xo_geta dX2_isRest_8 cl_2 fl_RX2_49 rfl (fun v1 => ?_)
      refine xo_iload_n rfl rfl dX2_isRest_11 ?_
      refine xo_iconst kc_4 dX2_isRest_12 ?_
      refine xo_imul dX2_isRest_13 ?_
      refine xo_iload_n rfl rfl dX2_isRest_14 ?_
      refine xo_iconst kc_4 dX2_isRest_15 ?_
      refine xo_irem dX2_isRest_16 (fun _ => ?_)
      refine xo_iadd dX2_isRest_17 ?_
      refine xo_iald dX2_isRest_18 (fun v2 => ?_)
      refine xo_aload_n rfl rfl dX2_isRest_19 ?_
      refine xo_geta dX2_isRest_20 cl_2 fl_RX2_49 rfl (fun v3 => ?_)
      refine xo_iload_n rfl rfl dX2_isRest_23 ?_
      refine xo_iald dX2_isRest_24 (fun v4 => ?_)
      refine xo_icmp_le (tgt := 30) dX2_isRest_25 rfl (fun _ => ?_) (fun _ => ?_)
      · refine xo_aload_n rfl rfl dX2_isRest_30 ?_
        refine xo_geta dX2_isRest_31 cl_2 fl_RX2_52 rfl (fun v5 => ?_)
        refine xo_iload_n rfl rfl dX2_isRest_34 ?_
        refine xo_iconst kc_4 dX2_isRest_35 ?_
        refine xo_idiv dX2_isRest_36 (fun _ => ?_)
        refine xo_iconst kc_4 dX2_isRest_37 ?_
        refine xo_imul dX2_isRest_38 ?_
        refine xo_iload_n rfl rfl dX2_isRest_39 ?_
        refine xo_iadd dX2_isRest_40 ?_
        refine xo_iald dX2_isRest_41 (fun v6 => ?_)
        refine xo_aload_n rfl rfl dX2_isRest_42 ?_
        refine xo_geta dX2_isRest_43 cl_2 fl_RX2_52 rfl (fun v7 => ?_)
        refine xo_iload_n rfl rfl dX2_isRest_46 ?_
        refine xo_iald dX2_isRest_47 (fun v8 => ?_)
        refine xo_icmp_le (tgt := 53) dX2_isRest_48 rfl (fun _ => ?_) (fun _ => ?_)
        · refine xo_iinc rfl (congrArg _ kc_1) (by decide) (mk_p1_v rfl rfl) dX2_isRest_53 ?_
          refine xo_goto (tgt := 2) dX2_isRest_56 rfl ?_
          exact mk_O.wk (ih x0 x1 (x2 + (1 : Int32)) t) ⟨rfl, ⟨rfl, ⟨rfl, trivial⟩⟩⟩
        · refine xo_iconst kc_0 dX2_isRest_51 ?_
          exact xo_zret dX2_isRest_52 rfl
      · refine xo_iconst kc_0 dX2_isRest_28 ?_
        exact xo_zret dX2_isRest_29 rfl
theorem p_X2_isRest (x0 : Nat) (x1 : Int32) (t : mk_S) : mk_O mk_wi M_X2_isRest 0 [some (.ref x0), some (.int x1), none] [] t (B_X2_isRest_2 mk_fu x0 x1 (0 : Int32) t) := by
  refine xo_iconst kc_0 dX2_isRest_0 ?_
  refine xo_istore_n rfl (by decide) (mk_p1_v rfl rfl) dX2_isRest_1 ?_
  exact mk_O.wk (o_X2_isRest_2 mk_fu x0 x1 (0 : Int32) t) ⟨rfl, ⟨rfl, ⟨rfl, trivial⟩⟩⟩
theorem c_X2_isRest (x0 : Nat) (x1 : Int32) (t : mk_S) (z : Int32 × mk_S) (h : F_X2_isRest x0 x1 t = some z) : mk_is t x0 2 ∧ mk_Ct M_X2_isRest [.ref x0, .int x1] t (mk_wi z.1, z.2) :=
  ⟨(mk_gd_spec h).1, mk_ct (w := mk_wi) (by decide +kernel) (Nat.le_of_ble_eq_true rfl) (p_X2_isRest x0 x1 t) z (mk_gd_spec h).2⟩
def B_X2_restsOf_67 (k34 : Nat → Int32 → Int32 → Int32 → Int32 → mk_S → Option (Int32 × mk_S)) (x0 : Nat) (x4 : Int32) (x5 : Int32) (x6 : Int32) (x7 : Int32) (t : mk_S) : Option (Int32 × mk_S) := k34 x0 x4 x5 x6 (x7 + (1 : Int32)) t
def B_X2_restsOf_62 (k34 : Nat → Int32 → Int32 → Int32 → Int32 → mk_S → Option (Int32 × mk_S)) (x0 : Nat) (x4 : Int32) (x5 : Int32) (x7 : Int32) (s0 : Int32) (t : mk_S) : Option (Int32 × mk_S) := B_X2_restsOf_67 k34 x0 x4 (x5 + (1 : Int32)) s0 x7 t
def B_X2_restsOf_34 : Nat → Nat → Int32 → Int32 → Int32 → Int32 → mk_S → Option (Int32 × mk_S)
  | 0, _, _, _, _, _, _ => none
  | n + 1, x0, x4, x5, x6, x7, t => if (16 : Int32) ≤ x7 then (if x4 = 0 then (some (x5, t)) else (if x5 = 0 then (some ((-2 : Int32), t)) else (if x4 = (1 : Int32) then (if (4 : Int32) = 0 then none else some ((x6 / (4 : Int32)), t)) else (if (4 : Int32) = 0 then none else some ((x6 - x6 / (4 : Int32) * (4 : Int32)), t))))) else ((F_X2_isRest x0 x7 t).bind fun z1 => if z1.1 = 0 then (B_X2_restsOf_67 (B_X2_restsOf_34 n) x0 x4 x5 x6 x7 z1.2) else (if x5 = 0 then (B_X2_restsOf_62 (B_X2_restsOf_34 n) x0 x4 x5 x7 x7 z1.2) else (B_X2_restsOf_62 (B_X2_restsOf_34 n) x0 x4 x5 x7 x6 z1.2)))
def B_X2_restsOf_3 : Nat → Nat → Int32 → Int32 → Int32 → Int32 → Int32 → mk_S → Option (Int32 × mk_S)
  | 0, _, _, _, _, _, _, _ => none
  | n + 1, x0, x1, x2, x3, x4, x5, t => if (16 : Int32) ≤ x5 then (B_X2_restsOf_34 mk_fu x0 x4 (0 : Int32) (-1 : Int32) (0 : Int32) t) else ((F_X2_playTwo x0 x1 x2 x5 x3 t).bind fun z1 => B_X2_restsOf_3 n x0 x1 x2 x3 x4 (x5 + (1 : Int32)) z1.2)
def F_X2_restsOf (x0 : Nat) (x1 : Int32) (x2 : Int32) (x3 : Int32) (x4 : Int32) (t : mk_S) : Option (Int32 × mk_S) := mk_gd t x0 2 (B_X2_restsOf_3 mk_fu x0 x1 x2 x3 x4 (0 : Int32) t)
theorem o_X2_restsOf_67 (k34 : Nat → Int32 → Int32 → Int32 → Int32 → mk_S → Option (Int32 × mk_S)) (h34 : ∀ (x0 : Nat) (x4 : Int32) (x5 : Int32) (x6 : Int32) (x7 : Int32) (t : mk_S), mk_O mk_wi M_X2_restsOf 34 [some (.ref x0), none, none, none, some (.int x4), some (.int x5), some (.int x6), some (.int x7)] [] t (k34 x0 x4 x5 x6 x7 t)) (x0 : Nat) (x4 : Int32) (x5 : Int32) (x6 : Int32) (x7 : Int32) (t : mk_S) : mk_O mk_wi M_X2_restsOf 67 [some (.ref x0), none, none, none, some (.int x4), some (.int x5), some (.int x6), some (.int x7)] [] t (B_X2_restsOf_67 k34 x0 x4 x5 x6 x7 t) := by
  unfold B_X2_restsOf_67
  refine xo_iinc rfl (congrArg _ kc_1) (by decide) (mk_p1_v rfl rfl) dX2_restsOf_67 ?_
  refine xo_goto (tgt := 34) dX2_restsOf_70 rfl ?_
  exact mk_O.wk (h34 x0 x4 x5 x6 (x7 + (1 : Int32)) t) ⟨rfl, ⟨rfl, ⟨rfl, ⟨rfl, ⟨rfl, trivial⟩⟩⟩⟩⟩
theorem o_X2_restsOf_62 (k34 : Nat → Int32 → Int32 → Int32 → Int32 → mk_S → Option (Int32 × mk_S)) (h34 : ∀ (x0 : Nat) (x4 : Int32) (x5 : Int32) (x6 : Int32) (x7 : Int32) (t : mk_S), mk_O mk_wi M_X2_restsOf 34 [some (.ref x0), none, none, none, some (.int x4), some (.int x5), some (.int x6), some (.int x7)] [] t (k34 x0 x4 x5 x6 x7 t)) (x0 : Nat) (x4 : Int32) (x5 : Int32) (x7 : Int32) (s0 : Int32) (t : mk_S) : mk_O mk_wi M_X2_restsOf 62 [some (.ref x0), none, none, none, some (.int x4), some (.int x5), none, some (.int x7)] [.int s0] t (B_X2_restsOf_62 k34 x0 x4 x5 x7 s0 t) := by
  unfold B_X2_restsOf_62
  refine xo_istore (by decide) (mk_p1_v rfl rfl) dX2_restsOf_62 ?_
  refine xo_iinc rfl (congrArg _ kc_1) (by decide) (mk_p1_v rfl rfl) dX2_restsOf_64 ?_
  exact mk_O.wk (o_X2_restsOf_67 _ h34 x0 x4 (x5 + (1 : Int32)) s0 x7 t) ⟨rfl, ⟨rfl, ⟨rfl, ⟨rfl, ⟨rfl, trivial⟩⟩⟩⟩⟩
theorem o_X2_restsOf_34 : ∀ (n : Nat) (x0 : Nat) (x4 : Int32) (x5 : Int32) (x6 : Int32) (x7 : Int32) (t : mk_S), mk_O mk_wi M_X2_restsOf 34 [some (.ref x0), none, none, none, some (.int x4), some (.int x5), some (.int x6), some (.int x7)] [] t (B_X2_restsOf_34 n x0 x4 x5 x6 x7 t) := by
  intro n
  induction n with
  | zero =>
    intro x0 x4 x5 x6 x7 t
    exact mk_O.none
  | succ n ih =>
    intro x0 x4 x5 x6 x7 t
    rw [B_X2_restsOf_34]
    refine xo_iload rfl dX2_restsOf_34 ?_
    refine xo_bipush kb_16 dX2_restsOf_36 ?_
    refine xo_icmp_ge (tgt := 73) dX2_restsOf_38 rfl (fun _ => ?_) (fun _ => ?_)
    · refine xo_iload rfl dX2_restsOf_73 ?_
      refine xo_if_ne (tgt := 81) dX2_restsOf_75 rfl (fun _ => ?_) (fun _ => ?_)
      · refine xo_iload rfl dX2_restsOf_78 ?_
        exact xo_iret dX2_restsOf_80 rfl
      · refine xo_iload rfl dX2_restsOf_81 ?_
        refine xo_if_ne (tgt := 89) dX2_restsOf_83 rfl (fun _ => ?_) (fun _ => ?_)
        · refine xo_bipush kb_m2 dX2_restsOf_86 ?_
          exact xo_iret dX2_restsOf_88 rfl
        · refine xo_iload rfl dX2_restsOf_89 ?_
          refine xo_iconst kc_1 dX2_restsOf_91 ?_
          refine xo_icmp_ne (tgt := 102) dX2_restsOf_92 rfl (fun _ => ?_) (fun _ => ?_)
          · refine xo_iload rfl dX2_restsOf_95 ?_
            refine xo_iconst kc_4 dX2_restsOf_97 ?_
            refine xo_idiv dX2_restsOf_98 (fun _ => ?_)
            refine xo_goto (tgt := 106) dX2_restsOf_99 rfl ?_
            exact xo_iret dX2_restsOf_106 rfl
          · refine xo_iload rfl dX2_restsOf_102 ?_
            refine xo_iconst kc_4 dX2_restsOf_104 ?_
            refine xo_irem dX2_restsOf_105 (fun _ => ?_)
            exact xo_iret dX2_restsOf_106 rfl
    · refine xo_aload_n rfl rfl dX2_restsOf_41 ?_
      refine xo_iload rfl dX2_restsOf_42 ?_
      refine mk_O.callV (N := M_X2_isRest) (ci := 2) (q := (RX2, TX2, 14)) (b := x0) (As1 := [.int x7]) (S := []) md_X2_isRest mv_X2_isRest lk_RX2_175 rfl (Nat.le_of_ble_eq_true rfl) (by decide) dX2_restsOf_44 rfl rfl rfl (fun z hz => (c_X2_isRest x0 x7 t z hz).1) (fun z hz => (c_X2_isRest x0 x7 t z hz).2) (fun z1 _ => ?_)
      show mk_O _ _ _ _ (.int z1.1 :: []) _ _
      refine xo_if_eq (tgt := 67) dX2_restsOf_47 rfl (fun _ => ?_) (fun _ => ?_)
      · exact mk_O.wk (o_X2_restsOf_67 _ ih x0 x4 x5 x6 x7 z1.2) ⟨rfl, ⟨rfl, ⟨rfl, ⟨rfl, ⟨rfl, trivial⟩⟩⟩⟩⟩
      · refine xo_iload rfl dX2_restsOf_50 ?_
        refine xo_if_ne (tgt := 60) dX2_restsOf_52 rfl (fun _ => ?_) (fun _ => ?_)
        · refine xo_iload rfl dX2_restsOf_55 ?_
          refine xo_goto (tgt := 62) dX2_restsOf_57 rfl ?_
          exact mk_O.wk (o_X2_restsOf_62 _ ih x0 x4 x5 x7 x7 z1.2) ⟨rfl, ⟨rfl, ⟨rfl, ⟨rfl, trivial⟩⟩⟩⟩
        · refine xo_iload rfl dX2_restsOf_60 ?_
          exact mk_O.wk (o_X2_restsOf_62 _ ih x0 x4 x5 x7 x6 z1.2) ⟨rfl, ⟨rfl, ⟨rfl, ⟨rfl, trivial⟩⟩⟩⟩
theorem o_X2_restsOf_3 : ∀ (n : Nat) (x0 : Nat) (x1 : Int32) (x2 : Int32) (x3 : Int32) (x4 : Int32) (x5 : Int32) (t : mk_S), mk_O mk_wi M_X2_restsOf 3 [some (.ref x0), some (.int x1), some (.int x2), some (.int x3), some (.int x4), some (.int x5), none, none] [] t (B_X2_restsOf_3 n x0 x1 x2 x3 x4 x5 t) := by
  intro n
  induction n with
  | zero =>
    intro x0 x1 x2 x3 x4 x5 t
    exact mk_O.none
  | succ n ih =>
    intro x0 x1 x2 x3 x4 x5 t
    rw [B_X2_restsOf_3]
    refine xo_iload rfl dX2_restsOf_3 ?_
    refine xo_bipush kb_16 dX2_restsOf_5 ?_
    refine xo_icmp_ge (tgt := 25) dX2_restsOf_7 rfl (fun _ => ?_) (fun _ => ?_)
    · refine xo_iconst kc_0 dX2_restsOf_25 ?_
      refine xo_istore (by decide) (mk_p1_v rfl rfl) dX2_restsOf_26 ?_
      refine xo_iconst kc_m1 dX2_restsOf_28 ?_
      refine xo_istore (by decide) (mk_p1_v rfl rfl) dX2_restsOf_29 ?_
      refine xo_iconst kc_0 dX2_restsOf_31 ?_
      refine xo_istore (by decide) (mk_p1_v rfl rfl) dX2_restsOf_32 ?_
      exact mk_O.wk (o_X2_restsOf_34 mk_fu x0 x4 (0 : Int32) (-1 : Int32) (0 : Int32) t) ⟨rfl, ⟨rfl, ⟨rfl, ⟨rfl, ⟨rfl, trivial⟩⟩⟩⟩⟩
    · refine xo_aload_n rfl rfl dX2_restsOf_10 ?_
      refine xo_iload_n rfl rfl dX2_restsOf_11 ?_
      refine xo_iload_n rfl rfl dX2_restsOf_12 ?_
      refine xo_iload rfl dX2_restsOf_13 ?_
      refine xo_iload_n rfl rfl dX2_restsOf_15 ?_
      refine mk_O.callV (N := M_X2_playTwo) (ci := 2) (q := (RX2, TX2, 14)) (b := x0) (As1 := [.int x1, .int x2, .int x5, .int x3]) (S := []) md_X2_playTwo mv_X2_playTwo lk_RX2_171 rfl (Nat.le_of_ble_eq_true rfl) (by decide) dX2_restsOf_16 rfl rfl rfl (fun z hz => (c_X2_playTwo x0 x1 x2 x5 x3 t z hz).1) (fun z hz => (c_X2_playTwo x0 x1 x2 x5 x3 t z hz).2) (fun z1 _ => ?_)
      show mk_O _ _ _ _ [] _ _
      refine xo_iinc rfl (congrArg _ kc_1) (by decide) (mk_p1_v rfl rfl) dX2_restsOf_19 ?_
      refine xo_goto (tgt := 3) dX2_restsOf_22 rfl ?_
      exact mk_O.wk (ih x0 x1 x2 x3 x4 (x5 + (1 : Int32)) z1.2) ⟨rfl, ⟨rfl, ⟨rfl, ⟨rfl, ⟨rfl, ⟨rfl, trivial⟩⟩⟩⟩⟩⟩
theorem p_X2_restsOf (x0 : Nat) (x1 : Int32) (x2 : Int32) (x3 : Int32) (x4 : Int32) (t : mk_S) : mk_O mk_wi M_X2_restsOf 0 [some (.ref x0), some (.int x1), some (.int x2), some (.int x3), some (.int x4), none, none, none] [] t (B_X2_restsOf_3 mk_fu x0 x1 x2 x3 x4 (0 : Int32) t) := by
  refine xo_iconst kc_0 dX2_restsOf_0 ?_
  refine xo_istore (by decide) (mk_p1_v rfl rfl) dX2_restsOf_1 ?_
  exact mk_O.wk (o_X2_restsOf_3 mk_fu x0 x1 x2 x3 x4 (0 : Int32) t) ⟨rfl, ⟨rfl, ⟨rfl, ⟨rfl, ⟨rfl, ⟨rfl, trivial⟩⟩⟩⟩⟩⟩
theorem c_X2_restsOf (x0 : Nat) (x1 : Int32) (x2 : Int32) (x3 : Int32) (x4 : Int32) (t : mk_S) (z : Int32 × mk_S) (h : F_X2_restsOf x0 x1 x2 x3 x4 t = some z) : mk_is t x0 2 ∧ mk_Ct M_X2_restsOf [.ref x0, .int x1, .int x2, .int x3, .int x4] t (mk_wi z.1, z.2) :=
  ⟨(mk_gd_spec h).1, mk_ct (w := mk_wi) (by decide +kernel) (Nat.le_of_ble_eq_true rfl) (p_X2_restsOf x0 x1 x2 x3 x4 t) z (mk_gd_spec h).2⟩
def F_X7_begin (x0 : Nat) (x1 : Nat) (t : mk_S) : Option (Unit × mk_S) := mk_gd t x0 6 ((mk_ga t x1 3 5).bind fun v1 => (mk_ga t x0 6 0).bind fun v2 => (mk_cp t v1 (0 : Int32) v2 (0 : Int32) (6 : Int32)).bind fun t3 => (mk_ga t3 x1 3 7).bind fun v4 => (mk_ga t3 x0 6 1).bind fun v5 => (mk_cp t3 v4 (0 : Int32) v5 (0 : Int32) (6 : Int32)).bind fun t6 => (mk_ga t6 x0 6 2).bind fun v7 => (F_J7_fill_53178 v7 (0 : Int32) t6).bind fun z8 => (mk_ga z8.2 x0 6 3).bind fun v9 => (F_J7_fill_53178 v9 (0 : Int32) z8.2).bind fun z10 => (mk_ga z10.2 x0 6 4).bind fun v11 => (F_J7_fill_53178 v11 (99 : Int32) z10.2).bind fun z12 => (mk_ga z12.2 x0 6 5).bind fun v13 => (F_J7_fill_53178 v13 (0 : Int32) z12.2).bind fun z14 => (mk_ga z14.2 x0 6 6).bind fun v15 => (F_J7_fill_53178 v15 (0 : Int32) z14.2).bind fun z16 => (mk_pi z16.2 x0 6 7 (0 : Int32)).bind fun t17 => (mk_pi t17 x0 6 8 (0 : Int32)).bind fun t18 => some ((), t18))
theorem p_X7_begin (x0 : Nat) (x1 : Nat) (t : mk_S) : mk_O mk_wu M_X7_begin 0 [some (.ref x0), some (.ref x1)] [] t ((mk_ga t x1 3 5).bind fun v1 => (mk_ga t x0 6 0).bind fun v2 => (mk_cp t v1 (0 : Int32) v2 (0 : Int32) (6 : Int32)).bind fun t3 => (mk_ga t3 x1 3 7).bind fun v4 => (mk_ga t3 x0 6 1).bind fun v5 => (mk_cp t3 v4 (0 : Int32) v5 (0 : Int32) (6 : Int32)).bind fun t6 => (mk_ga t6 x0 6 2).bind fun v7 => (F_J7_fill_53178 v7 (0 : Int32) t6).bind fun z8 => (mk_ga z8.2 x0 6 3).bind fun v9 => (F_J7_fill_53178 v9 (0 : Int32) z8.2).bind fun z10 => (mk_ga z10.2 x0 6 4).bind fun v11 => (F_J7_fill_53178 v11 (99 : Int32) z10.2).bind fun z12 => (mk_ga z12.2 x0 6 5).bind fun v13 => (F_J7_fill_53178 v13 (0 : Int32) z12.2).bind fun z14 => (mk_ga z14.2 x0 6 6).bind fun v15 => (F_J7_fill_53178 v15 (0 : Int32) z14.2).bind fun z16 => (mk_pi z16.2 x0 6 7 (0 : Int32)).bind fun t17 => (mk_pi t17 x0 6 8 (0 : Int32)).bind fun t18 => some ((), t18)) := by
  refine xo_aload_n rfl rfl dX7_begin_0 ?_
  refine xo_geta dX7_begin_1 cl_3 fl_RX7_40 rfl (fun v1 => ?_)
  refine xo_iconst kc_0 dX7_begin_4 ?_
  refine xo_aload_n rfl rfl dX7_begin_5 ?_
  refine xo_geta dX7_begin_6 cl_6 fl_RX7_9 rfl (fun v2 => ?_)
  refine xo_iconst kc_0 dX7_begin_9 ?_
  refine xo_bipush kb_6 dX7_begin_10 ?_
  refine xo_cpy lcpy_RX7_43 (by decide) (Nat.le_of_ble_eq_true rfl) dX7_begin_12 (fun t3 => ?_)
  refine xo_aload_n rfl rfl dX7_begin_15 ?_
  refine xo_geta dX7_begin_16 cl_3 fl_RX7_49 rfl (fun v4 => ?_)
  refine xo_iconst kc_0 dX7_begin_19 ?_
  refine xo_aload_n rfl rfl dX7_begin_20 ?_
  refine xo_geta dX7_begin_21 cl_6 fl_RX7_15 rfl (fun v5 => ?_)
  refine xo_iconst kc_0 dX7_begin_24 ?_
  refine xo_bipush kb_6 dX7_begin_25 ?_
  refine xo_cpy lcpy_RX7_43 (by decide) (Nat.le_of_ble_eq_true rfl) dX7_begin_27 (fun t6 => ?_)
  refine xo_aload_n rfl rfl dX7_begin_30 ?_
  refine xo_geta dX7_begin_31 cl_6 fl_RX7_18 rfl (fun v7 => ?_)
  refine xo_iconst kc_0 dX7_begin_34 ?_
  refine mk_O.callS (N := M_J7_fill_53178) (As := [.ref v7, .int (0 : Int32)]) (S := []) md_J7_fill_53178 ms_J7_fill_53178 lk_RX7_50 rfl (Nat.le_of_ble_eq_true rfl) (by decide) dX7_begin_35 rfl (fun z hz => c_J7_fill_53178 v7 (0 : Int32) t6 z hz) (fun z8 _ => ?_)
  show mk_O _ _ _ _ [] _ _
  refine xo_aload_n rfl rfl dX7_begin_38 ?_
  refine xo_geta dX7_begin_39 cl_6 fl_RX7_21 rfl (fun v9 => ?_)
  refine xo_iconst kc_0 dX7_begin_42 ?_
  refine mk_O.callS (N := M_J7_fill_53178) (As := [.ref v9, .int (0 : Int32)]) (S := []) md_J7_fill_53178 ms_J7_fill_53178 lk_RX7_50 rfl (Nat.le_of_ble_eq_true rfl) (by decide) dX7_begin_43 rfl (fun z hz => c_J7_fill_53178 v9 (0 : Int32) z8.2 z hz) (fun z10 _ => ?_)
  show mk_O _ _ _ _ [] _ _
  refine xo_aload_n rfl rfl dX7_begin_46 ?_
  refine xo_geta dX7_begin_47 cl_6 fl_RX7_24 rfl (fun v11 => ?_)
  refine xo_bipush kb_99 dX7_begin_50 ?_
  refine mk_O.callS (N := M_J7_fill_53178) (As := [.ref v11, .int (99 : Int32)]) (S := []) md_J7_fill_53178 ms_J7_fill_53178 lk_RX7_50 rfl (Nat.le_of_ble_eq_true rfl) (by decide) dX7_begin_52 rfl (fun z hz => c_J7_fill_53178 v11 (99 : Int32) z10.2 z hz) (fun z12 _ => ?_)
  show mk_O _ _ _ _ [] _ _
  refine xo_aload_n rfl rfl dX7_begin_55 ?_
  refine xo_geta dX7_begin_56 cl_6 fl_RX7_27 rfl (fun v13 => ?_)
  refine xo_iconst kc_0 dX7_begin_59 ?_
  refine mk_O.callS (N := M_J7_fill_53178) (As := [.ref v13, .int (0 : Int32)]) (S := []) md_J7_fill_53178 ms_J7_fill_53178 lk_RX7_50 rfl (Nat.le_of_ble_eq_true rfl) (by decide) dX7_begin_60 rfl (fun z hz => c_J7_fill_53178 v13 (0 : Int32) z12.2 z hz) (fun z14 _ => ?_)
  show mk_O _ _ _ _ [] _ _
  refine xo_aload_n rfl rfl dX7_begin_63 ?_
  refine xo_geta dX7_begin_64 cl_6 fl_RX7_30 rfl (fun v15 => ?_)
  refine xo_iconst kc_0 dX7_begin_67 ?_
  refine mk_O.callS (N := M_J7_fill_53178) (As := [.ref v15, .int (0 : Int32)]) (S := []) md_J7_fill_53178 ms_J7_fill_53178 lk_RX7_50 rfl (Nat.le_of_ble_eq_true rfl) (by decide) dX7_begin_68 rfl (fun z hz => c_J7_fill_53178 v15 (0 : Int32) z14.2 z hz) (fun z16 _ => ?_)
  show mk_O _ _ _ _ [] _ _
  refine xo_aload_n rfl rfl dX7_begin_71 ?_
  refine xo_iconst kc_0 dX7_begin_72 ?_
  refine xo_puti dX7_begin_73 cl_6 fl_RX7_33 rfl ft_6_7 (fun t17 => ?_)
  refine xo_aload_n rfl rfl dX7_begin_76 ?_
  refine xo_iconst kc_0 dX7_begin_77 ?_
  refine xo_puti dX7_begin_78 cl_6 fl_RX7_37 rfl ft_6_8 (fun t18 => ?_)
  exact xo_vret dX7_begin_81 rfl
theorem c_X7_begin (x0 : Nat) (x1 : Nat) (t : mk_S) (z : Unit × mk_S) (h : F_X7_begin x0 x1 t = some z) : mk_is t x0 6 ∧ mk_Ct M_X7_begin [.ref x0, .ref x1] t (mk_wu z.1, z.2) :=
  ⟨(mk_gd_spec h).1, mk_ct (w := mk_wu) (by decide +kernel) (Nat.le_of_ble_eq_true rfl) (p_X7_begin x0 x1 t) z (mk_gd_spec h).2⟩
def B_X2_isFitting_27 : Nat → Nat → Option Nat → Int32 → Int32 → mk_S → Option (Int32 × mk_S)
  | 0, _, _, _, _, _ => none
  | n + 1, x0, x1, x2, x3, t => if x2 < x3 then (mk_rz (1 : Int32) t) else ((mk_ga t x0 2 3).bind fun v1 => (mk_ga t x0 2 0).bind fun v2 => (mk_ga t v2 9 0).bind fun v3 => (mk_ga t x0 2 4).bind fun v4 => (F_X9_pass v1 v3 x1 v4 (-1 : Int32) t).bind fun z5 => (mk_ga z5.2 x0 2 0).bind fun v6 => (mk_ga z5.2 v6 9 3).bind fun v7 => (mk_ga z5.2 x0 2 4).bind fun v8 => (F_X1_areSo v7 x3 v8 z5.2).bind fun z9 => if z9.1 = 0 then (mk_rz (0 : Int32) z9.2) else (B_X2_isFitting_27 n x0 x1 x2 (x3 + (1 : Int32)) z9.2))
def F_X2_isFitting (x0 : Nat) (x1 : Option Nat) (t : mk_S) : Option (Int32 × mk_S) := mk_gd t x0 2 ((mk_ga t x0 2 4).bind fun v1 => (mk_ga t x0 2 0).bind fun v2 => (mk_ga t v2 9 0).bind fun v3 => (F_X7_begin v1 v3 t).bind fun z4 => (mk_ga z4.2 x0 2 0).bind fun v5 => (mk_ga z4.2 v5 9 3).bind fun v6 => (F_X1_lastHour v6 z4.2).bind fun z7 => B_X2_isFitting_27 mk_fu x0 x1 z7.1 (0 : Int32) z7.2)
theorem o_X2_isFitting_27 : ∀ (n : Nat) (x0 : Nat) (x1 : Option Nat) (x2 : Int32) (x3 : Int32) (t : mk_S), mk_O mk_wi M_X2_isFitting 27 [some (.ref x0), some (va_rf x1), some (.int x2), some (.int x3)] [] t (B_X2_isFitting_27 n x0 x1 x2 x3 t) := by
  intro n
  induction n with
  | zero =>
    intro x0 x1 x2 x3 t
    exact mk_O.none
  | succ n ih =>
    intro x0 x1 x2 x3 t
    rw [B_X2_isFitting_27]
    refine xo_iload_n rfl rfl dX2_isFitting_27 ?_
    refine xo_iload_n rfl rfl dX2_isFitting_28 ?_
    refine xo_icmp_gt (tgt := 79) dX2_isFitting_29 rfl (fun _ => ?_) (fun _ => ?_)
    · refine xo_iconst kc_1 dX2_isFitting_79 ?_
      exact xo_zret dX2_isFitting_80 rfl
    · refine xo_aload_n rfl rfl dX2_isFitting_32 ?_
      refine xo_geta dX2_isFitting_33 cl_2 fl_RX2_31 rfl (fun v1 => ?_)
      refine xo_aload_n rfl rfl dX2_isFitting_36 ?_
      refine xo_geta dX2_isFitting_37 cl_2 fl_RX2_12 rfl (fun v2 => ?_)
      refine xo_geta dX2_isFitting_40 cl_9 fl_RX2_84 rfl (fun v3 => ?_)
      refine xo_aload_nq rfl rfl dX2_isFitting_43 ?_
      refine xo_aload_n rfl rfl dX2_isFitting_44 ?_
      refine xo_geta dX2_isFitting_45 cl_2 fl_RX2_38 rfl (fun v4 => ?_)
      refine xo_iconst kc_m1 dX2_isFitting_48 ?_
      refine mk_O.callV (N := M_X9_pass) (ci := 8) (q := (RX9, TX9, 1)) (b := v1) (As1 := [.ref v3, va_rf x1, .ref v4, .int (-1 : Int32)]) (S := []) md_X9_pass mv_X9_pass lk_RX2_88 rfl (Nat.le_of_ble_eq_true rfl) (by decide) dX2_isFitting_49 rfl rfl rfl (fun z hz => (c_X9_pass v1 v3 x1 v4 (-1 : Int32) t z hz).1) (fun z hz => (c_X9_pass v1 v3 x1 v4 (-1 : Int32) t z hz).2) (fun z5 _ => ?_)
      show mk_O _ _ _ _ (.int z5.1 :: []) _ _
      refine xo_pop rfl dX2_isFitting_52 ?_
      refine xo_aload_n rfl rfl dX2_isFitting_53 ?_
      refine xo_geta dX2_isFitting_54 cl_2 fl_RX2_12 rfl (fun v6 => ?_)
      refine xo_geta dX2_isFitting_57 cl_9 fl_RX2_190 rfl (fun v7 => ?_)
      refine xo_iload_n rfl rfl dX2_isFitting_60 ?_
      refine xo_aload_n rfl rfl dX2_isFitting_61 ?_
      refine xo_geta dX2_isFitting_62 cl_2 fl_RX2_38 rfl (fun v8 => ?_)
      refine mk_O.callV (N := M_X1_areSo) (ci := 1) (q := (RX1, TX1, 4)) (b := v7) (As1 := [.int x3, .ref v8]) (S := []) md_X1_areSo mv_X1_areSo lk_RX2_199 rfl (Nat.le_of_ble_eq_true rfl) (by decide) dX2_isFitting_65 rfl rfl rfl (fun z hz => (c_X1_areSo v7 x3 v8 z5.2 z hz).1) (fun z hz => (c_X1_areSo v7 x3 v8 z5.2 z hz).2) (fun z9 _ => ?_)
      show mk_O _ _ _ _ (.int z9.1 :: []) _ _
      refine xo_if_ne (tgt := 73) dX2_isFitting_68 rfl (fun _ => ?_) (fun _ => ?_)
      · refine xo_iconst kc_0 dX2_isFitting_71 ?_
        exact xo_zret dX2_isFitting_72 rfl
      · refine xo_iinc rfl (congrArg _ kc_1) (by decide) (mk_p1_v rfl rfl) dX2_isFitting_73 ?_
        refine xo_goto (tgt := 27) dX2_isFitting_76 rfl ?_
        exact mk_O.wk (ih x0 x1 x2 (x3 + (1 : Int32)) z9.2) ⟨rfl, ⟨rfl, ⟨rfl, ⟨rfl, trivial⟩⟩⟩⟩
theorem p_X2_isFitting (x0 : Nat) (x1 : Option Nat) (t : mk_S) : mk_O mk_wi M_X2_isFitting 0 [some (.ref x0), some (va_rf x1), none, none] [] t ((mk_ga t x0 2 4).bind fun v1 => (mk_ga t x0 2 0).bind fun v2 => (mk_ga t v2 9 0).bind fun v3 => (F_X7_begin v1 v3 t).bind fun z4 => (mk_ga z4.2 x0 2 0).bind fun v5 => (mk_ga z4.2 v5 9 3).bind fun v6 => (F_X1_lastHour v6 z4.2).bind fun z7 => B_X2_isFitting_27 mk_fu x0 x1 z7.1 (0 : Int32) z7.2) := by
  refine xo_aload_n rfl rfl dX2_isFitting_0 ?_
  refine xo_geta dX2_isFitting_1 cl_2 fl_RX2_38 rfl (fun v1 => ?_)
  refine xo_aload_n rfl rfl dX2_isFitting_4 ?_
  refine xo_geta dX2_isFitting_5 cl_2 fl_RX2_12 rfl (fun v2 => ?_)
  refine xo_geta dX2_isFitting_8 cl_9 fl_RX2_84 rfl (fun v3 => ?_)
  refine mk_O.callV (N := M_X7_begin) (ci := 6) (q := (RX7, TX7, 9)) (b := v1) (As1 := [.ref v3]) (S := []) md_X7_begin mv_X7_begin lk_RX2_186 rfl (Nat.le_of_ble_eq_true rfl) (by decide) dX2_isFitting_11 rfl rfl rfl (fun z hz => (c_X7_begin v1 v3 t z hz).1) (fun z hz => (c_X7_begin v1 v3 t z hz).2) (fun z4 _ => ?_)
  show mk_O _ _ _ _ [] _ _
  refine xo_aload_n rfl rfl dX2_isFitting_14 ?_
  refine xo_geta dX2_isFitting_15 cl_2 fl_RX2_12 rfl (fun v5 => ?_)
  refine xo_geta dX2_isFitting_18 cl_9 fl_RX2_190 rfl (fun v6 => ?_)
  refine mk_O.callV (N := M_X1_lastHour) (ci := 1) (q := (RX1, TX1, 4)) (b := v6) (As1 := []) (S := []) md_X1_lastHour mv_X1_lastHour lk_RX2_194 rfl (Nat.le_of_ble_eq_true rfl) (by decide) dX2_isFitting_21 rfl rfl rfl (fun z hz => (c_X1_lastHour v6 z4.2 z hz).1) (fun z hz => (c_X1_lastHour v6 z4.2 z hz).2) (fun z7 _ => ?_)
  show mk_O _ _ _ _ (.int z7.1 :: []) _ _
  refine xo_istore_n rfl (by decide) (mk_p1_v rfl (mk_rf_cat _)) dX2_isFitting_24 ?_
  refine xo_iconst kc_0 dX2_isFitting_25 ?_
  refine xo_istore_n rfl (by decide) (mk_p1_v rfl rfl) dX2_isFitting_26 ?_
  exact mk_O.wk (o_X2_isFitting_27 mk_fu x0 x1 z7.1 (0 : Int32) z7.2) ⟨rfl, ⟨rfl, ⟨rfl, ⟨rfl, trivial⟩⟩⟩⟩
theorem c_X2_isFitting (x0 : Nat) (x1 : Option Nat) (t : mk_S) (z : Int32 × mk_S) (h : F_X2_isFitting x0 x1 t = some z) : mk_is t x0 2 ∧ mk_Ct M_X2_isFitting [.ref x0, va_rf x1] t (mk_wi z.1, z.2) := by
  refine ⟨(mk_gd_spec h).1, ?_⟩
  cases x1 with
  | none => exact mk_ct (w := mk_wi) (by decide +kernel) (Nat.le_of_ble_eq_true rfl) (p_X2_isFitting x0 none t) z (mk_gd_spec h).2
  | some a => exact mk_ct (w := mk_wi) (by decide +kernel) (Nat.le_of_ble_eq_true rfl) (p_X2_isFitting x0 (some a) t) z (mk_gd_spec h).2
def B_X2_fitting_32 (k4 : Nat → Int32 → Int32 → mk_S → Option (Int32 × mk_S)) (x0 : Nat) (x1 : Int32) (x2 : Int32) (t : mk_S) : Option (Int32 × mk_S) := k4 x0 x1 (x2 + (1 : Int32)) t
def B_X2_fitting_4 : Nat → Nat → Int32 → Int32 → mk_S → Option (Int32 × mk_S)
  | 0, _, _, _, _ => none
  | n + 1, x0, x1, x2, t => (mk_gi t x0 2 2).bind fun v1 => if v1 ≤ x2 then (some (x1, t)) else ((F_X2_numbered x0 x2 t).bind fun z2 => (F_X2_isFitting x0 z2.1 z2.2).bind fun z3 => if z3.1 = 0 then (B_X2_fitting_32 (B_X2_fitting_4 n) x0 x1 x2 z3.2) else (B_X2_fitting_32 (B_X2_fitting_4 n) x0 (x1 ||| ((1 : Int32) <<< ((x2 + (1 : Int32)) &&& 31))) x2 z3.2))
def F_X2_fitting (x0 : Nat) (t : mk_S) : Option (Int32 × mk_S) := mk_gd t x0 2 (B_X2_fitting_4 mk_fu x0 (0 : Int32) (-1 : Int32) t)
theorem o_X2_fitting_32 (k4 : Nat → Int32 → Int32 → mk_S → Option (Int32 × mk_S)) (h4 : ∀ (x0 : Nat) (x1 : Int32) (x2 : Int32) (t : mk_S), mk_O mk_wi M_X2_fitting 4 [some (.ref x0), some (.int x1), some (.int x2)] [] t (k4 x0 x1 x2 t)) (x0 : Nat) (x1 : Int32) (x2 : Int32) (t : mk_S) : mk_O mk_wi M_X2_fitting 32 [some (.ref x0), some (.int x1), some (.int x2)] [] t (B_X2_fitting_32 k4 x0 x1 x2 t) := by
  unfold B_X2_fitting_32
  refine xo_iinc rfl (congrArg _ kc_1) (by decide) (mk_p1_v rfl rfl) dX2_fitting_32 ?_
  refine xo_goto (tgt := 4) dX2_fitting_35 rfl ?_
  exact mk_O.wk (h4 x0 x1 (x2 + (1 : Int32)) t) ⟨rfl, ⟨rfl, ⟨rfl, trivial⟩⟩⟩
theorem o_X2_fitting_4 : ∀ (n : Nat) (x0 : Nat) (x1 : Int32) (x2 : Int32) (t : mk_S), mk_O mk_wi M_X2_fitting 4 [some (.ref x0), some (.int x1), some (.int x2)] [] t (B_X2_fitting_4 n x0 x1 x2 t) := by
  intro n
  induction n with
  | zero =>
    intro x0 x1 x2 t
    exact mk_O.none
  | succ n ih =>
    intro x0 x1 x2 t
    rw [B_X2_fitting_4]
    refine xo_iload_n rfl rfl dX2_fitting_4 ?_
    refine xo_aload_n rfl rfl dX2_fitting_5 ?_
    refine xo_geti dX2_fitting_6 cl_2 fl_RX2_24 rfl (fun v1 => ?_)
    refine xo_icmp_ge (tgt := 38) dX2_fitting_9 rfl (fun _ => ?_) (fun _ => ?_)
    · refine xo_iload_n rfl rfl dX2_fitting_38 ?_
      exact xo_iret dX2_fitting_39 rfl
    · refine xo_aload_n rfl rfl dX2_fitting_12 ?_
      refine xo_aload_n rfl rfl dX2_fitting_13 ?_
      refine xo_iload_n rfl rfl dX2_fitting_14 ?_
      refine mk_O.callV (N := M_X2_numbered) (ci := 2) (q := (RX2, TX2, 14)) (b := x0) (As1 := [.int x2]) (S := [.ref x0]) md_X2_numbered mv_X2_numbered lk_RX2_76 rfl (Nat.le_of_ble_eq_true rfl) (by decide) dX2_fitting_15 rfl rfl rfl (fun z hz => (c_X2_numbered x0 x2 t z hz).1) (fun z hz => (c_X2_numbered x0 x2 t z hz).2) (fun z2 _ => ?_)
      show mk_O _ _ _ _ (va_rf z2.1 :: [.ref x0]) _ _
      refine mk_O.callV (N := M_X2_isFitting) (ci := 2) (q := (RX2, TX2, 14)) (b := x0) (As1 := [va_rf z2.1]) (S := []) md_X2_isFitting mv_X2_isFitting lk_RX2_182 rfl (Nat.le_of_ble_eq_true rfl) (by decide) dX2_fitting_18 rfl rfl rfl (fun z hz => (c_X2_isFitting x0 z2.1 z2.2 z hz).1) (fun z hz => (c_X2_isFitting x0 z2.1 z2.2 z hz).2) (fun z3 _ => ?_)
      show mk_O _ _ _ _ (.int z3.1 :: []) _ _
      refine xo_if_eq (tgt := 32) dX2_fitting_21 rfl (fun _ => ?_) (fun _ => ?_)
      · exact mk_O.wk (o_X2_fitting_32 _ ih x0 x1 x2 z3.2) ⟨rfl, ⟨rfl, ⟨rfl, trivial⟩⟩⟩
      · refine xo_iload_n rfl rfl dX2_fitting_24 ?_
        refine xo_iconst kc_1 dX2_fitting_25 ?_
        refine xo_iload_n rfl rfl dX2_fitting_26 ?_
        refine xo_iconst kc_1 dX2_fitting_27 ?_
        refine xo_iadd dX2_fitting_28 ?_
        refine xo_ishl dX2_fitting_29 ?_
        refine xo_ior dX2_fitting_30 ?_
        refine xo_istore_n rfl (by decide) (mk_p1_v rfl rfl) dX2_fitting_31 ?_
        exact mk_O.wk (o_X2_fitting_32 _ ih x0 (x1 ||| ((1 : Int32) <<< ((x2 + (1 : Int32)) &&& 31))) x2 z3.2) ⟨rfl, ⟨rfl, ⟨rfl, trivial⟩⟩⟩
theorem p_X2_fitting (x0 : Nat) (t : mk_S) : mk_O mk_wi M_X2_fitting 0 [some (.ref x0), none, none] [] t (B_X2_fitting_4 mk_fu x0 (0 : Int32) (-1 : Int32) t) := by
  refine xo_iconst kc_0 dX2_fitting_0 ?_
  refine xo_istore_n rfl (by decide) (mk_p1_v rfl rfl) dX2_fitting_1 ?_
  refine xo_iconst kc_m1 dX2_fitting_2 ?_
  refine xo_istore_n rfl (by decide) (mk_p1_v rfl rfl) dX2_fitting_3 ?_
  exact mk_O.wk (o_X2_fitting_4 mk_fu x0 (0 : Int32) (-1 : Int32) t) ⟨rfl, ⟨rfl, ⟨rfl, trivial⟩⟩⟩
theorem c_X2_fitting (x0 : Nat) (t : mk_S) (z : Int32 × mk_S) (h : F_X2_fitting x0 t = some z) : mk_is t x0 2 ∧ mk_Ct M_X2_fitting [.ref x0] t (mk_wi z.1, z.2) :=
  ⟨(mk_gd_spec h).1, mk_ct (w := mk_wi) (by decide +kernel) (Nat.le_of_ble_eq_true rfl) (p_X2_fitting x0 t) z (mk_gd_spec h).2⟩
def B_X2_fillWinds_92 (k2 : Nat → Int32 → Int32 → Int32 → mk_S → Option (Unit × mk_S)) (x0 : Nat) (x1 : Int32) (x2 : Int32) (x3 : Int32) (t : mk_S) : Option (Unit × mk_S) := k2 x0 x1 x2 (x3 + (1 : Int32)) t
def B_X2_fillWinds_33 (k2 : Nat → Int32 → Int32 → Int32 → mk_S → Option (Unit × mk_S)) : Nat → Nat → Int32 → Int32 → Int32 → Int32 → mk_S → Option (Unit × mk_S)
  | 0, _, _, _, _, _, _ => none
  | n + 1, x0, x1, x2, x3, x4, t => if x2 < x4 then ((mk_ga t x0 2 4).bind fun v1 => (mk_ga t v1 6 6).bind fun v2 => (mk_ga t x0 2 9).bind fun v3 => (mk_lda (100 + 7) t v3 x3).bind fun v4 => (mk_cp t v2 (0 : Int32) v4 (0 : Int32) (36 : Int32)).bind fun t5 => B_X2_fillWinds_92 k2 x0 x1 x2 x3 t5) else ((mk_ga t x0 2 3).bind fun v6 => (mk_ga t x0 2 0).bind fun v7 => (mk_ga t v7 9 0).bind fun v8 => (F_X2_numbered x0 (x3 - (1 : Int32)) t).bind fun z9 => (mk_ga z9.2 x0 2 4).bind fun v10 => (F_X9_pass v6 v8 z9.1 v10 (-1 : Int32) z9.2).bind fun z11 => B_X2_fillWinds_33 k2 n x0 x1 x2 x3 (x4 + (1 : Int32)) z11.2)
def B_X2_fillWinds_2 : Nat → Nat → Int32 → Int32 → Int32 → mk_S → Option (Unit × mk_S)
  | 0, _, _, _, _, _ => none
  | n + 1, x0, x1, x2, x3, t => if (6 : Int32) < x3 then (some ((), t)) else (if ((x1 >>> (x3 &&& 31)) &&& (1 : Int32)) = 0 then (B_X2_fillWinds_92 (B_X2_fillWinds_2 n) x0 x1 x2 x3 t) else ((mk_ga t x0 2 4).bind fun v1 => (mk_ga t x0 2 0).bind fun v2 => (mk_ga t v2 9 0).bind fun v3 => (F_X7_begin v1 v3 t).bind fun z4 => B_X2_fillWinds_33 (B_X2_fillWinds_2 n) mk_fu x0 x1 x2 x3 (0 : Int32) z4.2))
def F_X2_fillWinds (x0 : Nat) (x1 : Int32) (x2 : Int32) (t : mk_S) : Option (Unit × mk_S) := mk_gd t x0 2 (B_X2_fillWinds_2 mk_fu x0 x1 x2 (0 : Int32) t)
theorem o_X2_fillWinds_92 (k2 : Nat → Int32 → Int32 → Int32 → mk_S → Option (Unit × mk_S)) (h2 : ∀ (x0 : Nat) (x1 : Int32) (x2 : Int32) (x3 : Int32) (t : mk_S), mk_O mk_wu M_X2_fillWinds 2 [some (.ref x0), some (.int x1), some (.int x2), some (.int x3), none] [] t (k2 x0 x1 x2 x3 t)) (x0 : Nat) (x1 : Int32) (x2 : Int32) (x3 : Int32) (t : mk_S) : mk_O mk_wu M_X2_fillWinds 92 [some (.ref x0), some (.int x1), some (.int x2), some (.int x3), none] [] t (B_X2_fillWinds_92 k2 x0 x1 x2 x3 t) := by
  unfold B_X2_fillWinds_92
  refine xo_iinc rfl (congrArg _ kc_1) (by decide) (mk_p1_v rfl rfl) dX2_fillWinds_92 ?_
  refine xo_goto (tgt := 2) dX2_fillWinds_95 rfl ?_
  exact mk_O.wk (h2 x0 x1 x2 (x3 + (1 : Int32)) t) ⟨rfl, ⟨rfl, ⟨rfl, ⟨rfl, trivial⟩⟩⟩⟩
theorem o_X2_fillWinds_33 (k2 : Nat → Int32 → Int32 → Int32 → mk_S → Option (Unit × mk_S)) (h2 : ∀ (x0 : Nat) (x1 : Int32) (x2 : Int32) (x3 : Int32) (t : mk_S), mk_O mk_wu M_X2_fillWinds 2 [some (.ref x0), some (.int x1), some (.int x2), some (.int x3), none] [] t (k2 x0 x1 x2 x3 t)) : ∀ (n : Nat) (x0 : Nat) (x1 : Int32) (x2 : Int32) (x3 : Int32) (x4 : Int32) (t : mk_S), mk_O mk_wu M_X2_fillWinds 33 [some (.ref x0), some (.int x1), some (.int x2), some (.int x3), some (.int x4)] [] t (B_X2_fillWinds_33 k2 n x0 x1 x2 x3 x4 t) := by
  intro n
  induction n with
  | zero =>
    intro x0 x1 x2 x3 x4 t
    exact mk_O.none
  | succ n ih =>
    intro x0 x1 x2 x3 x4 t
    rw [B_X2_fillWinds_33]
    refine xo_iload rfl dX2_fillWinds_33 ?_
    refine xo_iload_n rfl rfl dX2_fillWinds_35 ?_
    refine xo_icmp_gt (tgt := 72) dX2_fillWinds_36 rfl (fun _ => ?_) (fun _ => ?_)
    · refine xo_aload_n rfl rfl dX2_fillWinds_72 ?_
      refine xo_geta dX2_fillWinds_73 cl_2 fl_RX2_38 rfl (fun v1 => ?_)
      refine xo_geta dX2_fillWinds_76 cl_6 fl_RX2_210 rfl (fun v2 => ?_)
      refine xo_iconst kc_0 dX2_fillWinds_79 ?_
      refine xo_aload_n rfl rfl dX2_fillWinds_80 ?_
      refine xo_geta dX2_fillWinds_81 cl_2 fl_RX2_57 rfl (fun v3 => ?_)
      refine xo_iload_n rfl rfl dX2_fillWinds_84 ?_
      refine xo_aald (j := 7) (by decide) (by decide) dX2_fillWinds_85 (fun v4 => ?_)
      refine xo_iconst kc_0 dX2_fillWinds_86 ?_
      refine xo_bipush kb_36 dX2_fillWinds_87 ?_
      refine xo_cpy lcpy_RX2_213 (by decide) (Nat.le_of_ble_eq_true rfl) dX2_fillWinds_89 (fun t5 => ?_)
      exact mk_O.wk (o_X2_fillWinds_92 _ h2 x0 x1 x2 x3 t5) ⟨rfl, ⟨rfl, ⟨rfl, ⟨rfl, trivial⟩⟩⟩⟩
    · refine xo_aload_n rfl rfl dX2_fillWinds_39 ?_
      refine xo_geta dX2_fillWinds_40 cl_2 fl_RX2_31 rfl (fun v6 => ?_)
      refine xo_aload_n rfl rfl dX2_fillWinds_43 ?_
      refine xo_geta dX2_fillWinds_44 cl_2 fl_RX2_12 rfl (fun v7 => ?_)
      refine xo_geta dX2_fillWinds_47 cl_9 fl_RX2_84 rfl (fun v8 => ?_)
      refine xo_aload_n rfl rfl dX2_fillWinds_50 ?_
      refine xo_iload_n rfl rfl dX2_fillWinds_51 ?_
      refine xo_iconst kc_1 dX2_fillWinds_52 ?_
      refine xo_isub dX2_fillWinds_53 ?_
      refine mk_O.callV (N := M_X2_numbered) (ci := 2) (q := (RX2, TX2, 14)) (b := x0) (As1 := [.int (x3 - (1 : Int32))]) (S := [.ref v8, .ref v6]) md_X2_numbered mv_X2_numbered lk_RX2_76 rfl (Nat.le_of_ble_eq_true rfl) (by decide) dX2_fillWinds_54 rfl rfl rfl (fun z hz => (c_X2_numbered x0 (x3 - (1 : Int32)) t z hz).1) (fun z hz => (c_X2_numbered x0 (x3 - (1 : Int32)) t z hz).2) (fun z9 _ => ?_)
      show mk_O _ _ _ _ (va_rf z9.1 :: [.ref v8, .ref v6]) _ _
      refine xo_aload_n rfl rfl dX2_fillWinds_57 ?_
      refine xo_geta dX2_fillWinds_58 cl_2 fl_RX2_38 rfl (fun v10 => ?_)
      refine xo_iconst kc_m1 dX2_fillWinds_61 ?_
      refine mk_O.callV (N := M_X9_pass) (ci := 8) (q := (RX9, TX9, 1)) (b := v6) (As1 := [.ref v8, va_rf z9.1, .ref v10, .int (-1 : Int32)]) (S := []) md_X9_pass mv_X9_pass lk_RX2_88 rfl (Nat.le_of_ble_eq_true rfl) (by decide) dX2_fillWinds_62 rfl rfl rfl (fun z hz => (c_X9_pass v6 v8 z9.1 v10 (-1 : Int32) z9.2 z hz).1) (fun z hz => (c_X9_pass v6 v8 z9.1 v10 (-1 : Int32) z9.2 z hz).2) (fun z11 _ => ?_)
      show mk_O _ _ _ _ (.int z11.1 :: []) _ _
      refine xo_pop rfl dX2_fillWinds_65 ?_
      refine xo_iinc rfl (congrArg _ kc_1) (by decide) (mk_p1_v rfl rfl) dX2_fillWinds_66 ?_
      refine xo_goto (tgt := 33) dX2_fillWinds_69 rfl ?_
      exact mk_O.wk (ih x0 x1 x2 x3 (x4 + (1 : Int32)) z11.2) ⟨rfl, ⟨rfl, ⟨rfl, ⟨rfl, ⟨rfl, trivial⟩⟩⟩⟩⟩
theorem o_X2_fillWinds_2 : ∀ (n : Nat) (x0 : Nat) (x1 : Int32) (x2 : Int32) (x3 : Int32) (t : mk_S), mk_O mk_wu M_X2_fillWinds 2 [some (.ref x0), some (.int x1), some (.int x2), some (.int x3), none] [] t (B_X2_fillWinds_2 n x0 x1 x2 x3 t) := by
  intro n
  induction n with
  | zero =>
    intro x0 x1 x2 x3 t
    exact mk_O.none
  | succ n ih =>
    intro x0 x1 x2 x3 t
    rw [B_X2_fillWinds_2]
    refine xo_iload_n rfl rfl dX2_fillWinds_2 ?_
    refine xo_bipush kb_6 dX2_fillWinds_3 ?_
    refine xo_icmp_gt (tgt := 98) dX2_fillWinds_5 rfl (fun _ => ?_) (fun _ => ?_)
    · exact xo_vret dX2_fillWinds_98 rfl
    · refine xo_iload_n rfl rfl dX2_fillWinds_8 ?_
      refine xo_iload_n rfl rfl dX2_fillWinds_9 ?_
      refine xo_ishr dX2_fillWinds_10 ?_
      refine xo_iconst kc_1 dX2_fillWinds_11 ?_
      refine xo_iand dX2_fillWinds_12 ?_
      refine xo_if_eq (tgt := 92) dX2_fillWinds_13 rfl (fun _ => ?_) (fun _ => ?_)
      · exact mk_O.wk (o_X2_fillWinds_92 _ ih x0 x1 x2 x3 t) ⟨rfl, ⟨rfl, ⟨rfl, ⟨rfl, trivial⟩⟩⟩⟩
      · refine xo_aload_n rfl rfl dX2_fillWinds_16 ?_
        refine xo_geta dX2_fillWinds_17 cl_2 fl_RX2_38 rfl (fun v1 => ?_)
        refine xo_aload_n rfl rfl dX2_fillWinds_20 ?_
        refine xo_geta dX2_fillWinds_21 cl_2 fl_RX2_12 rfl (fun v2 => ?_)
        refine xo_geta dX2_fillWinds_24 cl_9 fl_RX2_84 rfl (fun v3 => ?_)
        refine mk_O.callV (N := M_X7_begin) (ci := 6) (q := (RX7, TX7, 9)) (b := v1) (As1 := [.ref v3]) (S := []) md_X7_begin mv_X7_begin lk_RX2_186 rfl (Nat.le_of_ble_eq_true rfl) (by decide) dX2_fillWinds_27 rfl rfl rfl (fun z hz => (c_X7_begin v1 v3 t z hz).1) (fun z hz => (c_X7_begin v1 v3 t z hz).2) (fun z4 _ => ?_)
        show mk_O _ _ _ _ [] _ _
        refine xo_iconst kc_0 dX2_fillWinds_30 ?_
        refine xo_istore (by decide) (mk_p1_v rfl rfl) dX2_fillWinds_31 ?_
        exact mk_O.wk (o_X2_fillWinds_33 _ ih mk_fu x0 x1 x2 x3 (0 : Int32) z4.2) ⟨rfl, ⟨rfl, ⟨rfl, ⟨rfl, ⟨rfl, trivial⟩⟩⟩⟩⟩
theorem p_X2_fillWinds (x0 : Nat) (x1 : Int32) (x2 : Int32) (t : mk_S) : mk_O mk_wu M_X2_fillWinds 0 [some (.ref x0), some (.int x1), some (.int x2), none, none] [] t (B_X2_fillWinds_2 mk_fu x0 x1 x2 (0 : Int32) t) := by
  refine xo_iconst kc_0 dX2_fillWinds_0 ?_
  refine xo_istore_n rfl (by decide) (mk_p1_v rfl rfl) dX2_fillWinds_1 ?_
  exact mk_O.wk (o_X2_fillWinds_2 mk_fu x0 x1 x2 (0 : Int32) t) ⟨rfl, ⟨rfl, ⟨rfl, ⟨rfl, trivial⟩⟩⟩⟩
theorem c_X2_fillWinds (x0 : Nat) (x1 : Int32) (x2 : Int32) (t : mk_S) (z : Unit × mk_S) (h : F_X2_fillWinds x0 x1 x2 t = some z) : mk_is t x0 2 ∧ mk_Ct M_X2_fillWinds [.ref x0, .int x1, .int x2] t (mk_wu z.1, z.2) :=
  ⟨(mk_gd_spec h).1, mk_ct (w := mk_wu) (by decide +kernel) (Nat.le_of_ble_eq_true rfl) (p_X2_fillWinds x0 x1 x2 t) z (mk_gd_spec h).2⟩
def B_X2_mostAlike_75 (k5 : Nat → Int32 → Int32 → Int32 → Int32 → mk_S → Option (Int32 × mk_S)) (k18 : Nat → Int32 → Int32 → Int32 → Int32 → Int32 → Int32 → mk_S → Option (Int32 × mk_S)) (x0 : Nat) (x1 : Int32) (x2 : Int32) (x3 : Int32) (x4 : Int32) (x5 : Int32) (x6 : Int32) (t : mk_S) : Option (Int32 × mk_S) := k18 x0 x1 x2 x3 x4 x5 (x6 + (1 : Int32)) t
def B_X2_mostAlike_44 (k5 : Nat → Int32 → Int32 → Int32 → Int32 → mk_S → Option (Int32 × mk_S)) (k18 : Nat → Int32 → Int32 → Int32 → Int32 → Int32 → Int32 → mk_S → Option (Int32 × mk_S)) (x0 : Nat) (x1 : Int32) (x2 : Int32) (x3 : Int32) (x4 : Int32) (x5 : Int32) (x6 : Int32) (s0 : Int32) (t : mk_S) : Option (Int32 × mk_S) := if s0 = 0 then (B_X2_mostAlike_75 k5 k18 x0 x1 x2 x3 x4 x5 x6 t) else ((mk_ga t x0 2 9).bind fun v1 => (mk_lda (100 + 7) t v1 x4).bind fun v2 => (mk_ld 100 t v2 x2).bind fun v3 => (mk_ga t x0 2 9).bind fun v4 => (mk_lda (100 + 7) t v4 x6).bind fun v5 => (mk_ld 100 t v5 x2).bind fun v6 => if v3 = v6 then (B_X2_mostAlike_75 k5 k18 x0 x1 x2 x3 x4 (x5 + (1 : Int32)) x6 t) else (B_X2_mostAlike_75 k5 k18 x0 x1 x2 x3 x4 x5 x6 t))
def B_X2_mostAlike_18 (k5 : Nat → Int32 → Int32 → Int32 → Int32 → mk_S → Option (Int32 × mk_S)) : Nat → Nat → Int32 → Int32 → Int32 → Int32 → Int32 → Int32 → mk_S → Option (Int32 × mk_S)
  | 0, _, _, _, _, _, _, _, _ => none
  | n + 1, x0, x1, x2, x3, x4, x5, x6, t => if (6 : Int32) < x6 then (k5 x0 x1 x2 (if x3 < x5 then x5 else x3) (x4 + (1 : Int32)) t) else (if (((x1 >>> (x4 &&& 31)) &&& (x1 >>> (x6 &&& 31))) &&& (1 : Int32)) = 0 then (B_X2_mostAlike_44 k5 (B_X2_mostAlike_18 k5 n) x0 x1 x2 x3 x4 x5 x6 (0 : Int32) t) else (B_X2_mostAlike_44 k5 (B_X2_mostAlike_18 k5 n) x0 x1 x2 x3 x4 x5 x6 (1 : Int32) t))
def B_X2_mostAlike_5 : Nat → Nat → Int32 → Int32 → Int32 → Int32 → mk_S → Option (Int32 × mk_S)
  | 0, _, _, _, _, _, _ => none
  | n + 1, x0, x1, x2, x3, x4, t => if (6 : Int32) < x4 then (some (x3, t)) else (B_X2_mostAlike_18 (B_X2_mostAlike_5 n) mk_fu x0 x1 x2 x3 x4 (0 : Int32) (0 : Int32) t)
def F_X2_mostAlike (x0 : Nat) (x1 : Int32) (x2 : Int32) (t : mk_S) : Option (Int32 × mk_S) := mk_gd t x0 2 (B_X2_mostAlike_5 mk_fu x0 x1 x2 (0 : Int32) (0 : Int32) t)
theorem o_X2_mostAlike_75 (k5 : Nat → Int32 → Int32 → Int32 → Int32 → mk_S → Option (Int32 × mk_S)) (k18 : Nat → Int32 → Int32 → Int32 → Int32 → Int32 → Int32 → mk_S → Option (Int32 × mk_S)) (h5 : ∀ (x0 : Nat) (x1 : Int32) (x2 : Int32) (x3 : Int32) (x4 : Int32) (t : mk_S), mk_O mk_wi M_X2_mostAlike 5 [some (.ref x0), some (.int x1), some (.int x2), some (.int x3), some (.int x4), none, none, none] [] t (k5 x0 x1 x2 x3 x4 t)) (h18 : ∀ (x0 : Nat) (x1 : Int32) (x2 : Int32) (x3 : Int32) (x4 : Int32) (x5 : Int32) (x6 : Int32) (t : mk_S), mk_O mk_wi M_X2_mostAlike 18 [some (.ref x0), some (.int x1), some (.int x2), some (.int x3), some (.int x4), some (.int x5), some (.int x6), none] [] t (k18 x0 x1 x2 x3 x4 x5 x6 t)) (x0 : Nat) (x1 : Int32) (x2 : Int32) (x3 : Int32) (x4 : Int32) (x5 : Int32) (x6 : Int32) (t : mk_S) : mk_O mk_wi M_X2_mostAlike 75 [some (.ref x0), some (.int x1), some (.int x2), some (.int x3), some (.int x4), some (.int x5), some (.int x6), none] [] t (B_X2_mostAlike_75 k5 k18 x0 x1 x2 x3 x4 x5 x6 t) := by
  unfold B_X2_mostAlike_75
  refine xo_iinc rfl (congrArg _ kc_1) (by decide) (mk_p1_v rfl rfl) dX2_mostAlike_75 ?_
  refine xo_goto (tgt := 18) dX2_mostAlike_78 rfl ?_
  exact mk_O.wk (h18 x0 x1 x2 x3 x4 x5 (x6 + (1 : Int32)) t) ⟨rfl, ⟨rfl, ⟨rfl, ⟨rfl, ⟨rfl, ⟨rfl, ⟨rfl, trivial⟩⟩⟩⟩⟩⟩⟩
theorem o_X2_mostAlike_44 (k5 : Nat → Int32 → Int32 → Int32 → Int32 → mk_S → Option (Int32 × mk_S)) (k18 : Nat → Int32 → Int32 → Int32 → Int32 → Int32 → Int32 → mk_S → Option (Int32 × mk_S)) (h5 : ∀ (x0 : Nat) (x1 : Int32) (x2 : Int32) (x3 : Int32) (x4 : Int32) (t : mk_S), mk_O mk_wi M_X2_mostAlike 5 [some (.ref x0), some (.int x1), some (.int x2), some (.int x3), some (.int x4), none, none, none] [] t (k5 x0 x1 x2 x3 x4 t)) (h18 : ∀ (x0 : Nat) (x1 : Int32) (x2 : Int32) (x3 : Int32) (x4 : Int32) (x5 : Int32) (x6 : Int32) (t : mk_S), mk_O mk_wi M_X2_mostAlike 18 [some (.ref x0), some (.int x1), some (.int x2), some (.int x3), some (.int x4), some (.int x5), some (.int x6), none] [] t (k18 x0 x1 x2 x3 x4 x5 x6 t)) (x0 : Nat) (x1 : Int32) (x2 : Int32) (x3 : Int32) (x4 : Int32) (x5 : Int32) (x6 : Int32) (s0 : Int32) (t : mk_S) : mk_O mk_wi M_X2_mostAlike 44 [some (.ref x0), some (.int x1), some (.int x2), some (.int x3), some (.int x4), some (.int x5), some (.int x6), none] [.int s0] t (B_X2_mostAlike_44 k5 k18 x0 x1 x2 x3 x4 x5 x6 s0 t) := by
  unfold B_X2_mostAlike_44
  refine xo_istore (by decide) (mk_p1_v rfl rfl) dX2_mostAlike_44 ?_
  refine xo_iload rfl dX2_mostAlike_46 ?_
  refine xo_if_eq (tgt := 75) dX2_mostAlike_48 rfl (fun _ => ?_) (fun _ => ?_)
  · exact mk_O.wk (o_X2_mostAlike_75 _ _ h5 h18 x0 x1 x2 x3 x4 x5 x6 t) ⟨rfl, ⟨rfl, ⟨rfl, ⟨rfl, ⟨rfl, ⟨rfl, ⟨rfl, trivial⟩⟩⟩⟩⟩⟩⟩
  · refine xo_aload_n rfl rfl dX2_mostAlike_51 ?_
    refine xo_geta dX2_mostAlike_52 cl_2 fl_RX2_57 rfl (fun v1 => ?_)
    refine xo_iload rfl dX2_mostAlike_55 ?_
    refine xo_aald (j := 7) (by decide) (by decide) dX2_mostAlike_57 (fun v2 => ?_)
    refine xo_iload_n rfl rfl dX2_mostAlike_58 ?_
    refine xo_iald dX2_mostAlike_59 (fun v3 => ?_)
    refine xo_aload_n rfl rfl dX2_mostAlike_60 ?_
    refine xo_geta dX2_mostAlike_61 cl_2 fl_RX2_57 rfl (fun v4 => ?_)
    refine xo_iload rfl dX2_mostAlike_64 ?_
    refine xo_aald (j := 7) (by decide) (by decide) dX2_mostAlike_66 (fun v5 => ?_)
    refine xo_iload_n rfl rfl dX2_mostAlike_67 ?_
    refine xo_iald dX2_mostAlike_68 (fun v6 => ?_)
    refine xo_icmp_ne (tgt := 75) dX2_mostAlike_69 rfl (fun _ => ?_) (fun _ => ?_)
    · refine xo_iinc rfl (congrArg _ kc_1) (by decide) (mk_p1_v rfl rfl) dX2_mostAlike_72 ?_
      exact mk_O.wk (o_X2_mostAlike_75 _ _ h5 h18 x0 x1 x2 x3 x4 (x5 + (1 : Int32)) x6 t) ⟨rfl, ⟨rfl, ⟨rfl, ⟨rfl, ⟨rfl, ⟨rfl, ⟨rfl, trivial⟩⟩⟩⟩⟩⟩⟩
    · exact mk_O.wk (o_X2_mostAlike_75 _ _ h5 h18 x0 x1 x2 x3 x4 x5 x6 t) ⟨rfl, ⟨rfl, ⟨rfl, ⟨rfl, ⟨rfl, ⟨rfl, ⟨rfl, trivial⟩⟩⟩⟩⟩⟩⟩
theorem o_X2_mostAlike_18 (k5 : Nat → Int32 → Int32 → Int32 → Int32 → mk_S → Option (Int32 × mk_S)) (h5 : ∀ (x0 : Nat) (x1 : Int32) (x2 : Int32) (x3 : Int32) (x4 : Int32) (t : mk_S), mk_O mk_wi M_X2_mostAlike 5 [some (.ref x0), some (.int x1), some (.int x2), some (.int x3), some (.int x4), none, none, none] [] t (k5 x0 x1 x2 x3 x4 t)) : ∀ (n : Nat) (x0 : Nat) (x1 : Int32) (x2 : Int32) (x3 : Int32) (x4 : Int32) (x5 : Int32) (x6 : Int32) (t : mk_S), mk_O mk_wi M_X2_mostAlike 18 [some (.ref x0), some (.int x1), some (.int x2), some (.int x3), some (.int x4), some (.int x5), some (.int x6), none] [] t (B_X2_mostAlike_18 k5 n x0 x1 x2 x3 x4 x5 x6 t) := by
  intro n
  induction n with
  | zero =>
    intro x0 x1 x2 x3 x4 x5 x6 t
    exact mk_O.none
  | succ n ih =>
    intro x0 x1 x2 x3 x4 x5 x6 t
    rw [B_X2_mostAlike_18]
    refine xo_iload rfl dX2_mostAlike_18 ?_
    refine xo_bipush kb_6 dX2_mostAlike_20 ?_
    refine xo_icmp_gt (tgt := 81) dX2_mostAlike_22 rfl (fun _ => ?_) (fun _ => ?_)
    · refine xo_iload_n rfl rfl dX2_mostAlike_81 ?_
      refine xo_iload rfl dX2_mostAlike_82 ?_
      refine xo_max lmax_RX2_219 (by decide) (Nat.le_of_ble_eq_true rfl) dX2_mostAlike_84 ?_
      refine xo_istore_n rfl (by decide) (mk_p1_v rfl rfl) dX2_mostAlike_87 ?_
      refine xo_iinc rfl (congrArg _ kc_1) (by decide) (mk_p1_v rfl rfl) dX2_mostAlike_88 ?_
      refine xo_goto (tgt := 5) dX2_mostAlike_91 rfl ?_
      exact mk_O.wk (h5 x0 x1 x2 (if x3 < x5 then x5 else x3) (x4 + (1 : Int32)) t) ⟨rfl, ⟨rfl, ⟨rfl, ⟨rfl, ⟨rfl, trivial⟩⟩⟩⟩⟩
    · refine xo_iload_n rfl rfl dX2_mostAlike_25 ?_
      refine xo_iload rfl dX2_mostAlike_26 ?_
      refine xo_ishr dX2_mostAlike_28 ?_
      refine xo_iload_n rfl rfl dX2_mostAlike_29 ?_
      refine xo_iload rfl dX2_mostAlike_30 ?_
      refine xo_ishr dX2_mostAlike_32 ?_
      refine xo_iand dX2_mostAlike_33 ?_
      refine xo_iconst kc_1 dX2_mostAlike_34 ?_
      refine xo_iand dX2_mostAlike_35 ?_
      refine xo_if_eq (tgt := 43) dX2_mostAlike_36 rfl (fun _ => ?_) (fun _ => ?_)
      · refine xo_iconst kc_0 dX2_mostAlike_43 ?_
        exact mk_O.wk (o_X2_mostAlike_44 _ _ h5 ih x0 x1 x2 x3 x4 x5 x6 (0 : Int32) t) ⟨rfl, ⟨rfl, ⟨rfl, ⟨rfl, ⟨rfl, ⟨rfl, ⟨rfl, trivial⟩⟩⟩⟩⟩⟩⟩
      · refine xo_iconst kc_1 dX2_mostAlike_39 ?_
        refine xo_goto (tgt := 44) dX2_mostAlike_40 rfl ?_
        exact mk_O.wk (o_X2_mostAlike_44 _ _ h5 ih x0 x1 x2 x3 x4 x5 x6 (1 : Int32) t) ⟨rfl, ⟨rfl, ⟨rfl, ⟨rfl, ⟨rfl, ⟨rfl, ⟨rfl, trivial⟩⟩⟩⟩⟩⟩⟩
theorem o_X2_mostAlike_5 : ∀ (n : Nat) (x0 : Nat) (x1 : Int32) (x2 : Int32) (x3 : Int32) (x4 : Int32) (t : mk_S), mk_O mk_wi M_X2_mostAlike 5 [some (.ref x0), some (.int x1), some (.int x2), some (.int x3), some (.int x4), none, none, none] [] t (B_X2_mostAlike_5 n x0 x1 x2 x3 x4 t) := by
  intro n
  induction n with
  | zero =>
    intro x0 x1 x2 x3 x4 t
    exact mk_O.none
  | succ n ih =>
    intro x0 x1 x2 x3 x4 t
    rw [B_X2_mostAlike_5]
    refine xo_iload rfl dX2_mostAlike_5 ?_
    refine xo_bipush kb_6 dX2_mostAlike_7 ?_
    refine xo_icmp_gt (tgt := 94) dX2_mostAlike_9 rfl (fun _ => ?_) (fun _ => ?_)
    · refine xo_iload_n rfl rfl dX2_mostAlike_94 ?_
      exact xo_iret dX2_mostAlike_95 rfl
    · refine xo_iconst kc_0 dX2_mostAlike_12 ?_
      refine xo_istore (by decide) (mk_p1_v rfl rfl) dX2_mostAlike_13 ?_
      refine xo_iconst kc_0 dX2_mostAlike_15 ?_
      refine xo_istore (by decide) (mk_p1_v rfl rfl) dX2_mostAlike_16 ?_
      exact mk_O.wk (o_X2_mostAlike_18 _ ih mk_fu x0 x1 x2 x3 x4 (0 : Int32) (0 : Int32) t) ⟨rfl, ⟨rfl, ⟨rfl, ⟨rfl, ⟨rfl, ⟨rfl, ⟨rfl, trivial⟩⟩⟩⟩⟩⟩⟩
theorem p_X2_mostAlike (x0 : Nat) (x1 : Int32) (x2 : Int32) (t : mk_S) : mk_O mk_wi M_X2_mostAlike 0 [some (.ref x0), some (.int x1), some (.int x2), none, none, none, none, none] [] t (B_X2_mostAlike_5 mk_fu x0 x1 x2 (0 : Int32) (0 : Int32) t) := by
  refine xo_iconst kc_0 dX2_mostAlike_0 ?_
  refine xo_istore_n rfl (by decide) (mk_p1_v rfl rfl) dX2_mostAlike_1 ?_
  refine xo_iconst kc_0 dX2_mostAlike_2 ?_
  refine xo_istore (by decide) (mk_p1_v rfl rfl) dX2_mostAlike_3 ?_
  exact mk_O.wk (o_X2_mostAlike_5 mk_fu x0 x1 x2 (0 : Int32) (0 : Int32) t) ⟨rfl, ⟨rfl, ⟨rfl, ⟨rfl, ⟨rfl, trivial⟩⟩⟩⟩⟩
theorem c_X2_mostAlike (x0 : Nat) (x1 : Int32) (x2 : Int32) (t : mk_S) (z : Int32 × mk_S) (h : F_X2_mostAlike x0 x1 x2 t = some z) : mk_is t x0 2 ∧ mk_Ct M_X2_mostAlike [.ref x0, .int x1, .int x2] t (mk_wi z.1, z.2) :=
  ⟨(mk_gd_spec h).1, mk_ct (w := mk_wi) (by decide +kernel) (Nat.le_of_ble_eq_true rfl) (p_X2_mostAlike x0 x1 x2 t) z (mk_gd_spec h).2⟩
def B_X2_bestLook_55 (k16 : Nat → Int32 → Int32 → Int32 → Int32 → Int32 → mk_S → Option (Int32 × mk_S)) (x0 : Nat) (x1 : Int32) (x3 : Int32) (x4 : Int32) (x5 : Int32) (x6 : Int32) (t : mk_S) : Option (Int32 × mk_S) := k16 x0 x1 x3 x4 x5 (x6 + (1 : Int32)) t
def B_X2_bestLook_16 : Nat → Nat → Int32 → Int32 → Int32 → Int32 → Int32 → mk_S → Option (Int32 × mk_S)
  | 0, _, _, _, _, _, _, _ => none
  | n + 1, x0, x1, x3, x4, x5, x6, t => (mk_ga t x0 2 0).bind fun v1 => (mk_ga t v1 9 0).bind fun v2 => (F_X3_cells v2 t).bind fun z3 => if z3.1 ≤ x6 then (if x3 = 0 then (some (x4, z3.2)) else (some (x5, z3.2))) else ((F_X2_mostAlike x0 x1 x6 z3.2).bind fun z4 => if x5 ≤ z4.1 then (B_X2_bestLook_55 (B_X2_bestLook_16 n) x0 x1 x3 x4 x5 x6 z4.2) else (B_X2_bestLook_55 (B_X2_bestLook_16 n) x0 x1 x3 x6 z4.1 x6 z4.2))
def F_X2_bestLook (x0 : Nat) (x1 : Int32) (x2 : Int32) (x3 : Int32) (t : mk_S) : Option (Int32 × mk_S) := mk_gd t x0 2 ((F_X2_fillWinds x0 x1 x2 t).bind fun z1 => B_X2_bestLook_16 mk_fu x0 x1 x3 (-1 : Int32) (8 : Int32) (0 : Int32) z1.2)
theorem o_X2_bestLook_55 (k16 : Nat → Int32 → Int32 → Int32 → Int32 → Int32 → mk_S → Option (Int32 × mk_S)) (h16 : ∀ (x0 : Nat) (x1 : Int32) (x3 : Int32) (x4 : Int32) (x5 : Int32) (x6 : Int32) (t : mk_S), mk_O mk_wi M_X2_bestLook 16 [some (.ref x0), some (.int x1), none, some (.int x3), some (.int x4), some (.int x5), some (.int x6), none] [] t (k16 x0 x1 x3 x4 x5 x6 t)) (x0 : Nat) (x1 : Int32) (x3 : Int32) (x4 : Int32) (x5 : Int32) (x6 : Int32) (t : mk_S) : mk_O mk_wi M_X2_bestLook 55 [some (.ref x0), some (.int x1), none, some (.int x3), some (.int x4), some (.int x5), some (.int x6), none] [] t (B_X2_bestLook_55 k16 x0 x1 x3 x4 x5 x6 t) := by
  unfold B_X2_bestLook_55
  refine xo_iinc rfl (congrArg _ kc_1) (by decide) (mk_p1_v rfl rfl) dX2_bestLook_55 ?_
  refine xo_goto (tgt := 16) dX2_bestLook_58 rfl ?_
  exact mk_O.wk (h16 x0 x1 x3 x4 x5 (x6 + (1 : Int32)) t) ⟨rfl, ⟨rfl, ⟨rfl, ⟨rfl, ⟨rfl, ⟨rfl, trivial⟩⟩⟩⟩⟩⟩
theorem o_X2_bestLook_16 : ∀ (n : Nat) (x0 : Nat) (x1 : Int32) (x3 : Int32) (x4 : Int32) (x5 : Int32) (x6 : Int32) (t : mk_S), mk_O mk_wi M_X2_bestLook 16 [some (.ref x0), some (.int x1), none, some (.int x3), some (.int x4), some (.int x5), some (.int x6), none] [] t (B_X2_bestLook_16 n x0 x1 x3 x4 x5 x6 t) := by
  intro n
  induction n with
  | zero =>
    intro x0 x1 x3 x4 x5 x6 t
    exact mk_O.none
  | succ n ih =>
    intro x0 x1 x3 x4 x5 x6 t
    rw [B_X2_bestLook_16]
    refine xo_iload rfl dX2_bestLook_16 ?_
    refine xo_aload_n rfl rfl dX2_bestLook_18 ?_
    refine xo_geta dX2_bestLook_19 cl_2 fl_RX2_12 rfl (fun v1 => ?_)
    refine xo_geta dX2_bestLook_22 cl_9 fl_RX2_84 rfl (fun v2 => ?_)
    refine mk_O.callV (N := M_X3_cells) (ci := 3) (q := (RX3, TX3, 12)) (b := v2) (As1 := []) (S := [.int x6]) md_X3_cells mv_X3_cells lk_RX2_131 rfl (Nat.le_of_ble_eq_true rfl) (by decide) dX2_bestLook_25 rfl rfl rfl (fun z hz => (c_X3_cells v2 t z hz).1) (fun z hz => (c_X3_cells v2 t z hz).2) (fun z3 _ => ?_)
    show mk_O _ _ _ _ (.int z3.1 :: [.int x6]) _ _
    refine xo_icmp_ge (tgt := 61) dX2_bestLook_28 rfl (fun _ => ?_) (fun _ => ?_)
    · refine xo_iload_n rfl rfl dX2_bestLook_61 ?_
      refine xo_if_ne (tgt := 70) dX2_bestLook_62 rfl (fun _ => ?_) (fun _ => ?_)
      · refine xo_iload rfl dX2_bestLook_65 ?_
        refine xo_goto (tgt := 72) dX2_bestLook_67 rfl ?_
        exact xo_iret dX2_bestLook_72 rfl
      · refine xo_iload rfl dX2_bestLook_70 ?_
        exact xo_iret dX2_bestLook_72 rfl
    · refine xo_aload_n rfl rfl dX2_bestLook_31 ?_
      refine xo_iload_n rfl rfl dX2_bestLook_32 ?_
      refine xo_iload rfl dX2_bestLook_33 ?_
      refine mk_O.callV (N := M_X2_mostAlike) (ci := 2) (q := (RX2, TX2, 14)) (b := x0) (As1 := [.int x1, .int x6]) (S := []) md_X2_mostAlike mv_X2_mostAlike lk_RX2_206 rfl (Nat.le_of_ble_eq_true rfl) (by decide) dX2_bestLook_35 rfl rfl rfl (fun z hz => (c_X2_mostAlike x0 x1 x6 z3.2 z hz).1) (fun z hz => (c_X2_mostAlike x0 x1 x6 z3.2 z hz).2) (fun z4 _ => ?_)
      show mk_O _ _ _ _ (.int z4.1 :: []) _ _
      refine xo_istore (by decide) (mk_p1_v rfl rfl) dX2_bestLook_38 ?_
      refine xo_iload rfl dX2_bestLook_40 ?_
      refine xo_iload rfl dX2_bestLook_42 ?_
      refine xo_icmp_ge (tgt := 55) dX2_bestLook_44 rfl (fun _ => ?_) (fun _ => ?_)
      · exact mk_O.wk (o_X2_bestLook_55 _ ih x0 x1 x3 x4 x5 x6 z4.2) ⟨rfl, ⟨rfl, ⟨rfl, ⟨rfl, ⟨rfl, ⟨rfl, trivial⟩⟩⟩⟩⟩⟩
      · refine xo_iload rfl dX2_bestLook_47 ?_
        refine xo_istore (by decide) (mk_p1_v rfl rfl) dX2_bestLook_49 ?_
        refine xo_iload rfl dX2_bestLook_51 ?_
        refine xo_istore (by decide) (mk_p1_v rfl rfl) dX2_bestLook_53 ?_
        exact mk_O.wk (o_X2_bestLook_55 _ ih x0 x1 x3 x6 z4.1 x6 z4.2) ⟨rfl, ⟨rfl, ⟨rfl, ⟨rfl, ⟨rfl, ⟨rfl, trivial⟩⟩⟩⟩⟩⟩
theorem p_X2_bestLook (x0 : Nat) (x1 : Int32) (x2 : Int32) (x3 : Int32) (t : mk_S) : mk_O mk_wi M_X2_bestLook 0 [some (.ref x0), some (.int x1), some (.int x2), some (.int x3), none, none, none, none] [] t ((F_X2_fillWinds x0 x1 x2 t).bind fun z1 => B_X2_bestLook_16 mk_fu x0 x1 x3 (-1 : Int32) (8 : Int32) (0 : Int32) z1.2) := by
  refine xo_aload_n rfl rfl dX2_bestLook_0 ?_
  refine xo_iload_n rfl rfl dX2_bestLook_1 ?_
  refine xo_iload_n rfl rfl dX2_bestLook_2 ?_
  refine mk_O.callV (N := M_X2_fillWinds) (ci := 2) (q := (RX2, TX2, 14)) (b := x0) (As1 := [.int x1, .int x2]) (S := []) md_X2_fillWinds mv_X2_fillWinds lk_RX2_203 rfl (Nat.le_of_ble_eq_true rfl) (by decide) dX2_bestLook_3 rfl rfl rfl (fun z hz => (c_X2_fillWinds x0 x1 x2 t z hz).1) (fun z hz => (c_X2_fillWinds x0 x1 x2 t z hz).2) (fun z1 _ => ?_)
  show mk_O _ _ _ _ [] _ _
  refine xo_iconst kc_m1 dX2_bestLook_6 ?_
  refine xo_istore (by decide) (mk_p1_v rfl rfl) dX2_bestLook_7 ?_
  refine xo_bipush kb_8 dX2_bestLook_9 ?_
  refine xo_istore (by decide) (mk_p1_v rfl rfl) dX2_bestLook_11 ?_
  refine xo_iconst kc_0 dX2_bestLook_13 ?_
  refine xo_istore (by decide) (mk_p1_v rfl rfl) dX2_bestLook_14 ?_
  exact mk_O.wk (o_X2_bestLook_16 mk_fu x0 x1 x3 (-1 : Int32) (8 : Int32) (0 : Int32) z1.2) ⟨rfl, ⟨rfl, ⟨rfl, ⟨rfl, ⟨rfl, ⟨rfl, trivial⟩⟩⟩⟩⟩⟩
theorem c_X2_bestLook (x0 : Nat) (x1 : Int32) (x2 : Int32) (x3 : Int32) (t : mk_S) (z : Int32 × mk_S) (h : F_X2_bestLook x0 x1 x2 x3 t = some z) : mk_is t x0 2 ∧ mk_Ct M_X2_bestLook [.ref x0, .int x1, .int x2, .int x3] t (mk_wi z.1, z.2) :=
  ⟨(mk_gd_spec h).1, mk_ct (w := mk_wi) (by decide +kernel) (Nat.le_of_ble_eq_true rfl) (p_X2_bestLook x0 x1 x2 x3 t) z (mk_gd_spec h).2⟩
def F_X2_draw (x0 : Nat) (t : mk_S) : Option (Int32 × mk_S) := mk_gd t x0 2 ((mk_gi t x0 2 13).bind fun v1 => (mk_pi t x0 2 13 (((((((v1).toInt64) * (1103515245 : Int64)) + (12345 : Int64)) &&& (2147483647 : Int64))).toInt32)).bind fun t2 => (mk_gi t2 x0 2 13).bind fun v3 => if (65536 : Int32) = 0 then none else some ((v3 / (65536 : Int32)), t2))
theorem p_X2_draw (x0 : Nat) (t : mk_S) : mk_O mk_wi M_X2_draw 0 [some (.ref x0)] [] t ((mk_gi t x0 2 13).bind fun v1 => (mk_pi t x0 2 13 (((((((v1).toInt64) * (1103515245 : Int64)) + (12345 : Int64)) &&& (2147483647 : Int64))).toInt32)).bind fun t2 => (mk_gi t2 x0 2 13).bind fun v3 => if (65536 : Int32) = 0 then none else some ((v3 / (65536 : Int32)), t2)) := by
  refine xo_aload_n rfl rfl dX2_draw_0 ?_
  refine xo_aload_n rfl rfl dX2_draw_1 ?_
  refine xo_geti dX2_draw_2 cl_2 fl_RX2_69 rfl (fun v1 => ?_)
  refine xo_i2l dX2_draw_5 ?_
  refine xo_ldc2 (v := 1103515245) (mk_w5 (i := 136) rfl rfl) dX2_draw_6 ?_
  refine xo_lmul dX2_draw_9 ?_
  refine xo_ldc2 (v := 12345) (mk_w5 (i := 137) rfl rfl) dX2_draw_10 ?_
  refine xo_ladd dX2_draw_13 ?_
  refine xo_ldc2 (v := 2147483647) (mk_w5 (i := 138) rfl rfl) dX2_draw_14 ?_
  refine xo_land dX2_draw_17 ?_
  refine xo_l2i dX2_draw_18 ?_
  refine xo_puti dX2_draw_19 cl_2 fl_RX2_69 rfl ft_2_13 (fun t2 => ?_)
  refine xo_aload_n rfl rfl dX2_draw_22 ?_
  refine xo_geti dX2_draw_23 cl_2 fl_RX2_69 rfl (fun v3 => ?_)
  refine xo_ldc (v := 65536) (mk_w5 (i := 139) rfl rfl) dX2_draw_26 ?_
  refine xo_idiv dX2_draw_28 (fun _ => ?_)
  exact xo_iret dX2_draw_29 rfl
theorem c_X2_draw (x0 : Nat) (t : mk_S) (z : Int32 × mk_S) (h : F_X2_draw x0 t = some z) : mk_is t x0 2 ∧ mk_Ct M_X2_draw [.ref x0] t (mk_wi z.1, z.2) :=
  ⟨(mk_gd_spec h).1, mk_ct (w := mk_wi) (by decide +kernel) (Nat.le_of_ble_eq_true rfl) (p_X2_draw x0 t) z (mk_gd_spec h).2⟩
def B_X2_goThroughNotions_72 (k34 : Nat → Int32 → Int32 → Option Nat → Int32 → Int32 → mk_S → Option (Unit × mk_S)) (x0 : Nat) (x1 : Int32) (x2 : Int32) (x3 : Option Nat) (x4 : Int32) (x5 : Int32) (t : mk_S) : Option (Unit × mk_S) := (mk_ga t x0 2 3).bind fun v1 => (mk_ga t x0 2 0).bind fun v2 => (mk_ga t v2 9 0).bind fun v3 => (mk_ga t x0 2 4).bind fun v4 => (F_X9_pass v1 v3 x3 v4 (-1 : Int32) t).bind fun z5 => k34 x0 x1 x2 x3 x4 (x5 + (1 : Int32)) z5.2
def B_X2_goThroughNotions_34 : Nat → Nat → Int32 → Int32 → Option Nat → Int32 → Int32 → mk_S → Option (Unit × mk_S)
  | 0, _, _, _, _, _, _, _ => none
  | n + 1, x0, x1, x2, x3, x4, x5, t => if x1 ≤ x5 then (some ((), t)) else ((F_X2_draw x0 t).bind fun z1 => if (100 : Int32) = 0 then none else if x2 ≤ (z1.1 - z1.1 / (100 : Int32) * (100 : Int32)) then (B_X2_goThroughNotions_72 (B_X2_goThroughNotions_34 n) x0 x1 x2 x3 x4 x5 z1.2) else (if x4 ≤ 0 then (B_X2_goThroughNotions_72 (B_X2_goThroughNotions_34 n) x0 x1 x2 x3 x4 x5 z1.2) else ((mk_ga z1.2 x0 2 4).bind fun v2 => (F_X2_draw x0 z1.2).bind fun z3 => if x4 = 0 then none else (F_X7_urgeOn v2 (z3.1 - z3.1 / x4 * x4) (9 : Int32) z3.2).bind fun z4 => B_X2_goThroughNotions_72 (B_X2_goThroughNotions_34 n) x0 x1 x2 x3 x4 x5 z4.2)))
def F_X2_goThroughNotions (x0 : Nat) (x1 : Int32) (x2 : Int32) (t : mk_S) : Option (Unit × mk_S) := mk_gd t x0 2 ((mk_ga t x0 2 4).bind fun v1 => (mk_ga t x0 2 0).bind fun v2 => (mk_ga t v2 9 1).bind fun v3 => (F_X7_copyFrom v1 v3 t).bind fun z4 => (F_X2_inForce x0 z4.2).bind fun z5 => (mk_ga z5.2 x0 2 0).bind fun v6 => (mk_ga z5.2 v6 9 0).bind fun v7 => (mk_gi z5.2 v7 3 2).bind fun v8 => B_X2_goThroughNotions_34 mk_fu x0 x1 x2 z5.1 v8 (0 : Int32) z5.2)
theorem o_X2_goThroughNotions_72 (k34 : Nat → Int32 → Int32 → Option Nat → Int32 → Int32 → mk_S → Option (Unit × mk_S)) (h34 : ∀ (x0 : Nat) (x1 : Int32) (x2 : Int32) (x3 : Option Nat) (x4 : Int32) (x5 : Int32) (t : mk_S), mk_O mk_wu M_X2_goThroughNotions 34 [some (.ref x0), some (.int x1), some (.int x2), some (va_rf x3), some (.int x4), some (.int x5)] [] t (k34 x0 x1 x2 x3 x4 x5 t)) (x0 : Nat) (x1 : Int32) (x2 : Int32) (x3 : Option Nat) (x4 : Int32) (x5 : Int32) (t : mk_S) : mk_O mk_wu M_X2_goThroughNotions 72 [some (.ref x0), some (.int x1), some (.int x2), some (va_rf x3), some (.int x4), some (.int x5)] [] t (B_X2_goThroughNotions_72 k34 x0 x1 x2 x3 x4 x5 t) := by
  unfold B_X2_goThroughNotions_72
  refine xo_aload_n rfl rfl dX2_goThroughNotions_72 ?_
  refine xo_geta dX2_goThroughNotions_73 cl_2 fl_RX2_31 rfl (fun v1 => ?_)
  refine xo_aload_n rfl rfl dX2_goThroughNotions_76 ?_
  refine xo_geta dX2_goThroughNotions_77 cl_2 fl_RX2_12 rfl (fun v2 => ?_)
  refine xo_geta dX2_goThroughNotions_80 cl_9 fl_RX2_84 rfl (fun v3 => ?_)
  refine xo_aload_nq rfl rfl dX2_goThroughNotions_83 ?_
  refine xo_aload_n rfl rfl dX2_goThroughNotions_84 ?_
  refine xo_geta dX2_goThroughNotions_85 cl_2 fl_RX2_38 rfl (fun v4 => ?_)
  refine xo_iconst kc_m1 dX2_goThroughNotions_88 ?_
  refine mk_O.callV (N := M_X9_pass) (ci := 8) (q := (RX9, TX9, 1)) (b := v1) (As1 := [.ref v3, va_rf x3, .ref v4, .int (-1 : Int32)]) (S := []) md_X9_pass mv_X9_pass lk_RX2_88 rfl (Nat.le_of_ble_eq_true rfl) (by decide) dX2_goThroughNotions_89 rfl rfl rfl (fun z hz => (c_X9_pass v1 v3 x3 v4 (-1 : Int32) t z hz).1) (fun z hz => (c_X9_pass v1 v3 x3 v4 (-1 : Int32) t z hz).2) (fun z5 _ => ?_)
  show mk_O _ _ _ _ (.int z5.1 :: []) _ _
  refine xo_pop rfl dX2_goThroughNotions_92 ?_
  refine xo_iinc rfl (congrArg _ kc_1) (by decide) (mk_p1_v rfl rfl) dX2_goThroughNotions_93 ?_
  refine xo_goto (tgt := 34) dX2_goThroughNotions_96 rfl ?_
  exact mk_O.wk (h34 x0 x1 x2 x3 x4 (x5 + (1 : Int32)) z5.2) ⟨rfl, ⟨rfl, ⟨rfl, ⟨rfl, ⟨rfl, ⟨rfl, trivial⟩⟩⟩⟩⟩⟩
theorem o_X2_goThroughNotions_34 : ∀ (n : Nat) (x0 : Nat) (x1 : Int32) (x2 : Int32) (x3 : Option Nat) (x4 : Int32) (x5 : Int32) (t : mk_S), mk_O mk_wu M_X2_goThroughNotions 34 [some (.ref x0), some (.int x1), some (.int x2), some (va_rf x3), some (.int x4), some (.int x5)] [] t (B_X2_goThroughNotions_34 n x0 x1 x2 x3 x4 x5 t) := by
  intro n
  induction n with
  | zero =>
    intro x0 x1 x2 x3 x4 x5 t
    exact mk_O.none
  | succ n ih =>
    intro x0 x1 x2 x3 x4 x5 t
    rw [B_X2_goThroughNotions_34]
    refine xo_iload rfl dX2_goThroughNotions_34 ?_
    refine xo_iload_n rfl rfl dX2_goThroughNotions_36 ?_
    refine xo_icmp_ge (tgt := 99) dX2_goThroughNotions_37 rfl (fun _ => ?_) (fun _ => ?_)
    · exact xo_vret dX2_goThroughNotions_99 rfl
    · refine xo_aload_n rfl rfl dX2_goThroughNotions_40 ?_
      refine mk_O.callV (N := M_X2_draw) (ci := 2) (q := (RX2, TX2, 14)) (b := x0) (As1 := []) (S := []) md_X2_draw mv_X2_draw lk_RX2_230 rfl (Nat.le_of_ble_eq_true rfl) (by decide) dX2_goThroughNotions_41 rfl rfl rfl (fun z hz => (c_X2_draw x0 t z hz).1) (fun z hz => (c_X2_draw x0 t z hz).2) (fun z1 _ => ?_)
      show mk_O _ _ _ _ (.int z1.1 :: []) _ _
      refine xo_bipush kb_100 dX2_goThroughNotions_44 ?_
      refine xo_irem dX2_goThroughNotions_46 (fun _ => ?_)
      refine xo_iload_n rfl rfl dX2_goThroughNotions_47 ?_
      refine xo_icmp_ge (tgt := 72) dX2_goThroughNotions_48 rfl (fun _ => ?_) (fun _ => ?_)
      · exact mk_O.wk (o_X2_goThroughNotions_72 _ ih x0 x1 x2 x3 x4 x5 z1.2) ⟨rfl, ⟨rfl, ⟨rfl, ⟨rfl, ⟨rfl, ⟨rfl, trivial⟩⟩⟩⟩⟩⟩
      · refine xo_iload rfl dX2_goThroughNotions_51 ?_
        refine xo_if_le (tgt := 72) dX2_goThroughNotions_53 rfl (fun _ => ?_) (fun _ => ?_)
        · exact mk_O.wk (o_X2_goThroughNotions_72 _ ih x0 x1 x2 x3 x4 x5 z1.2) ⟨rfl, ⟨rfl, ⟨rfl, ⟨rfl, ⟨rfl, ⟨rfl, trivial⟩⟩⟩⟩⟩⟩
        · refine xo_aload_n rfl rfl dX2_goThroughNotions_56 ?_
          refine xo_geta dX2_goThroughNotions_57 cl_2 fl_RX2_38 rfl (fun v2 => ?_)
          refine xo_aload_n rfl rfl dX2_goThroughNotions_60 ?_
          refine mk_O.callV (N := M_X2_draw) (ci := 2) (q := (RX2, TX2, 14)) (b := x0) (As1 := []) (S := [.ref v2]) md_X2_draw mv_X2_draw lk_RX2_230 rfl (Nat.le_of_ble_eq_true rfl) (by decide) dX2_goThroughNotions_61 rfl rfl rfl (fun z hz => (c_X2_draw x0 z1.2 z hz).1) (fun z hz => (c_X2_draw x0 z1.2 z hz).2) (fun z3 _ => ?_)
          show mk_O _ _ _ _ (.int z3.1 :: [.ref v2]) _ _
          refine xo_iload rfl dX2_goThroughNotions_64 ?_
          refine xo_irem dX2_goThroughNotions_66 (fun _ => ?_)
          refine xo_bipush kb_9 dX2_goThroughNotions_67 ?_
          refine mk_O.callV (N := M_X7_urgeOn) (ci := 6) (q := (RX7, TX7, 9)) (b := v2) (As1 := [.int (z3.1 - z3.1 / x4 * x4), .int (9 : Int32)]) (S := []) md_X7_urgeOn mv_X7_urgeOn lk_RX2_152 rfl (Nat.le_of_ble_eq_true rfl) (by decide) dX2_goThroughNotions_69 rfl rfl rfl (fun z hz => (c_X7_urgeOn v2 (z3.1 - z3.1 / x4 * x4) (9 : Int32) z3.2 z hz).1) (fun z hz => (c_X7_urgeOn v2 (z3.1 - z3.1 / x4 * x4) (9 : Int32) z3.2 z hz).2) (fun z4 _ => ?_)
          show mk_O _ _ _ _ [] _ _
          exact mk_O.wk (o_X2_goThroughNotions_72 _ ih x0 x1 x2 x3 x4 x5 z4.2) ⟨rfl, ⟨rfl, ⟨rfl, ⟨rfl, ⟨rfl, ⟨rfl, trivial⟩⟩⟩⟩⟩⟩
theorem p_X2_goThroughNotions (x0 : Nat) (x1 : Int32) (x2 : Int32) (t : mk_S) : mk_O mk_wu M_X2_goThroughNotions 0 [some (.ref x0), some (.int x1), some (.int x2), none, none, none] [] t ((mk_ga t x0 2 4).bind fun v1 => (mk_ga t x0 2 0).bind fun v2 => (mk_ga t v2 9 1).bind fun v3 => (F_X7_copyFrom v1 v3 t).bind fun z4 => (F_X2_inForce x0 z4.2).bind fun z5 => (mk_ga z5.2 x0 2 0).bind fun v6 => (mk_ga z5.2 v6 9 0).bind fun v7 => (mk_gi z5.2 v7 3 2).bind fun v8 => B_X2_goThroughNotions_34 mk_fu x0 x1 x2 z5.1 v8 (0 : Int32) z5.2) := by
  refine xo_aload_n rfl rfl dX2_goThroughNotions_0 ?_
  refine xo_geta dX2_goThroughNotions_1 cl_2 fl_RX2_38 rfl (fun v1 => ?_)
  refine xo_aload_n rfl rfl dX2_goThroughNotions_4 ?_
  refine xo_geta dX2_goThroughNotions_5 cl_2 fl_RX2_12 rfl (fun v2 => ?_)
  refine xo_geta dX2_goThroughNotions_8 cl_9 fl_RX2_92 rfl (fun v3 => ?_)
  refine mk_O.callV (N := M_X7_copyFrom) (ci := 6) (q := (RX7, TX7, 9)) (b := v1) (As1 := [.ref v3]) (S := []) md_X7_copyFrom mv_X7_copyFrom lk_RX2_95 rfl (Nat.le_of_ble_eq_true rfl) (by decide) dX2_goThroughNotions_11 rfl rfl rfl (fun z hz => (c_X7_copyFrom v1 v3 t z hz).1) (fun z hz => (c_X7_copyFrom v1 v3 t z hz).2) (fun z4 _ => ?_)
  show mk_O _ _ _ _ [] _ _
  refine xo_aload_n rfl rfl dX2_goThroughNotions_14 ?_
  refine mk_O.callV (N := M_X2_inForce) (ci := 2) (q := (RX2, TX2, 14)) (b := x0) (As1 := []) (S := []) md_X2_inForce mv_X2_inForce lk_RX2_80 rfl (Nat.le_of_ble_eq_true rfl) (by decide) dX2_goThroughNotions_15 rfl rfl rfl (fun z hz => (c_X2_inForce x0 z4.2 z hz).1) (fun z hz => (c_X2_inForce x0 z4.2 z hz).2) (fun z5 _ => ?_)
  show mk_O _ _ _ _ (va_rf z5.1 :: []) _ _
  refine xo_astore_nq rfl (by decide) (mk_p1_v rfl rfl) dX2_goThroughNotions_18 ?_
  refine xo_aload_n rfl rfl dX2_goThroughNotions_19 ?_
  refine xo_geta dX2_goThroughNotions_20 cl_2 fl_RX2_12 rfl (fun v6 => ?_)
  refine xo_geta dX2_goThroughNotions_23 cl_9 fl_RX2_84 rfl (fun v7 => ?_)
  refine xo_geti dX2_goThroughNotions_26 cl_3 fl_RX2_149 rfl (fun v8 => ?_)
  refine xo_istore (by decide) (mk_p1_v rfl (mk_rf_cat _)) dX2_goThroughNotions_29 ?_
  refine xo_iconst kc_0 dX2_goThroughNotions_31 ?_
  refine xo_istore (by decide) (mk_p1_v rfl rfl) dX2_goThroughNotions_32 ?_
  exact mk_O.wk (o_X2_goThroughNotions_34 mk_fu x0 x1 x2 z5.1 v8 (0 : Int32) z5.2) ⟨rfl, ⟨rfl, ⟨rfl, ⟨rfl, ⟨rfl, ⟨rfl, trivial⟩⟩⟩⟩⟩⟩
theorem c_X2_goThroughNotions (x0 : Nat) (x1 : Int32) (x2 : Int32) (t : mk_S) (z : Unit × mk_S) (h : F_X2_goThroughNotions x0 x1 x2 t = some z) : mk_is t x0 2 ∧ mk_Ct M_X2_goThroughNotions [.ref x0, .int x1, .int x2] t (mk_wu z.1, z.2) :=
  ⟨(mk_gd_spec h).1, mk_ct (w := mk_wu) (by decide +kernel) (Nat.le_of_ble_eq_true rfl) (p_X2_goThroughNotions x0 x1 x2 t) z (mk_gd_spec h).2⟩
def B_X2_yearsOfNotions_20 : Nat → Nat → Int32 → Int32 → Int32 → Int32 → Int32 → Int32 → Int32 → mk_S → Option (Int32 × mk_S)
  | 0, _, _, _, _, _, _, _, _, _ => none
  | n + 1, x0, x1, x2, x3, x4, x5, x6, x7, t => if x1 ≤ x7 then (if x4 = 0 then (some (x5, t)) else (some (x6, t))) else ((F_X2_goThroughNotions x0 x2 x3 t).bind fun z1 => (mk_ga z1.2 x0 2 4).bind fun v2 => (F_X7_groundInAll v2 z1.2).bind fun z3 => (mk_ga z3.2 x0 2 0).bind fun v4 => (mk_ga z3.2 v4 9 1).bind fun v5 => (F_X7_groundInAll v5 z3.2).bind fun z6 => (mk_ga z6.2 x0 2 4).bind fun v7 => (mk_gi z6.2 v7 6 7).bind fun v8 => (F_J6_bitCount_0f7a4 v8 z6.2).bind fun z9 => B_X2_yearsOfNotions_20 n x0 x1 x2 x3 x4 (x5 + (z3.1 - z6.1)) (x6 + z9.1) (x7 + (1 : Int32)) z9.2)
def F_X2_yearsOfNotions (x0 : Nat) (x1 : Int32) (x2 : Int32) (x3 : Int32) (x4 : Int32) (t : mk_S) : Option (Int32 × mk_S) := mk_gd t x0 2 ((mk_ga t x0 2 0).bind fun v1 => (mk_gi t v1 9 5).bind fun v2 => (mk_pi t x0 2 13 v2).bind fun t3 => B_X2_yearsOfNotions_20 mk_fu x0 x1 x2 x3 x4 (0 : Int32) (0 : Int32) (0 : Int32) t3)
theorem o_X2_yearsOfNotions_20 : ∀ (n : Nat) (x0 : Nat) (x1 : Int32) (x2 : Int32) (x3 : Int32) (x4 : Int32) (x5 : Int32) (x6 : Int32) (x7 : Int32) (t : mk_S), mk_O mk_wi M_X2_yearsOfNotions 20 [some (.ref x0), some (.int x1), some (.int x2), some (.int x3), some (.int x4), some (.int x5), some (.int x6), some (.int x7)] [] t (B_X2_yearsOfNotions_20 n x0 x1 x2 x3 x4 x5 x6 x7 t) := by
  intro n
  induction n with
  | zero =>
    intro x0 x1 x2 x3 x4 x5 x6 x7 t
    exact mk_O.none
  | succ n ih =>
    intro x0 x1 x2 x3 x4 x5 x6 x7 t
    rw [B_X2_yearsOfNotions_20]
    refine xo_iload rfl dX2_yearsOfNotions_20 ?_
    refine xo_iload_n rfl rfl dX2_yearsOfNotions_22 ?_
    refine xo_icmp_ge (tgt := 76) dX2_yearsOfNotions_23 rfl (fun _ => ?_) (fun _ => ?_)
    · refine xo_iload rfl dX2_yearsOfNotions_76 ?_
      refine xo_if_ne (tgt := 86) dX2_yearsOfNotions_78 rfl (fun _ => ?_) (fun _ => ?_)
      · refine xo_iload rfl dX2_yearsOfNotions_81 ?_
        refine xo_goto (tgt := 88) dX2_yearsOfNotions_83 rfl ?_
        exact xo_iret dX2_yearsOfNotions_88 rfl
      · refine xo_iload rfl dX2_yearsOfNotions_86 ?_
        exact xo_iret dX2_yearsOfNotions_88 rfl
    · refine xo_aload_n rfl rfl dX2_yearsOfNotions_26 ?_
      refine xo_iload_n rfl rfl dX2_yearsOfNotions_27 ?_
      refine xo_iload_n rfl rfl dX2_yearsOfNotions_28 ?_
      refine mk_O.callV (N := M_X2_goThroughNotions) (ci := 2) (q := (RX2, TX2, 14)) (b := x0) (As1 := [.int x2, .int x3]) (S := []) md_X2_goThroughNotions mv_X2_goThroughNotions lk_RX2_227 rfl (Nat.le_of_ble_eq_true rfl) (by decide) dX2_yearsOfNotions_29 rfl rfl rfl (fun z hz => (c_X2_goThroughNotions x0 x2 x3 t z hz).1) (fun z hz => (c_X2_goThroughNotions x0 x2 x3 t z hz).2) (fun z1 _ => ?_)
      show mk_O _ _ _ _ [] _ _
      refine xo_iload rfl dX2_yearsOfNotions_32 ?_
      refine xo_aload_n rfl rfl dX2_yearsOfNotions_34 ?_
      refine xo_geta dX2_yearsOfNotions_35 cl_2 fl_RX2_38 rfl (fun v2 => ?_)
      refine mk_O.callV (N := M_X7_groundInAll) (ci := 6) (q := (RX7, TX7, 9)) (b := v2) (As1 := []) (S := [.int x5]) md_X7_groundInAll mv_X7_groundInAll lk_RX2_124 rfl (Nat.le_of_ble_eq_true rfl) (by decide) dX2_yearsOfNotions_38 rfl rfl rfl (fun z hz => (c_X7_groundInAll v2 z1.2 z hz).1) (fun z hz => (c_X7_groundInAll v2 z1.2 z hz).2) (fun z3 _ => ?_)
      show mk_O _ _ _ _ (.int z3.1 :: [.int x5]) _ _
      refine xo_aload_n rfl rfl dX2_yearsOfNotions_41 ?_
      refine xo_geta dX2_yearsOfNotions_42 cl_2 fl_RX2_12 rfl (fun v4 => ?_)
      refine xo_geta dX2_yearsOfNotions_45 cl_9 fl_RX2_92 rfl (fun v5 => ?_)
      refine mk_O.callV (N := M_X7_groundInAll) (ci := 6) (q := (RX7, TX7, 9)) (b := v5) (As1 := []) (S := [.int z3.1, .int x5]) md_X7_groundInAll mv_X7_groundInAll lk_RX2_124 rfl (Nat.le_of_ble_eq_true rfl) (by decide) dX2_yearsOfNotions_48 rfl rfl rfl (fun z hz => (c_X7_groundInAll v5 z3.2 z hz).1) (fun z hz => (c_X7_groundInAll v5 z3.2 z hz).2) (fun z6 _ => ?_)
      show mk_O _ _ _ _ (.int z6.1 :: [.int z3.1, .int x5]) _ _
      refine xo_isub dX2_yearsOfNotions_51 ?_
      refine xo_iadd dX2_yearsOfNotions_52 ?_
      refine xo_istore (by decide) (mk_p1_v rfl rfl) dX2_yearsOfNotions_53 ?_
      refine xo_iload rfl dX2_yearsOfNotions_55 ?_
      refine xo_aload_n rfl rfl dX2_yearsOfNotions_57 ?_
      refine xo_geta dX2_yearsOfNotions_58 cl_2 fl_RX2_38 rfl (fun v7 => ?_)
      refine xo_geti dX2_yearsOfNotions_61 cl_6 fl_RX2_113 rfl (fun v8 => ?_)
      refine mk_O.callS (N := M_J6_bitCount_0f7a4) (As := [.int v8]) (S := [.int x6]) md_J6_bitCount_0f7a4 ms_J6_bitCount_0f7a4 lk_RX2_116 rfl (Nat.le_of_ble_eq_true rfl) (by decide) dX2_yearsOfNotions_64 rfl (fun z hz => c_J6_bitCount_0f7a4 v8 z6.2 z hz) (fun z9 _ => ?_)
      show mk_O _ _ _ _ (.int z9.1 :: [.int x6]) _ _
      refine xo_iadd dX2_yearsOfNotions_67 ?_
      refine xo_istore (by decide) (mk_p1_v rfl rfl) dX2_yearsOfNotions_68 ?_
      refine xo_iinc rfl (congrArg _ kc_1) (by decide) (mk_p1_v rfl rfl) dX2_yearsOfNotions_70 ?_
      refine xo_goto (tgt := 20) dX2_yearsOfNotions_73 rfl ?_
      exact mk_O.wk (ih x0 x1 x2 x3 x4 (x5 + (z3.1 - z6.1)) (x6 + z9.1) (x7 + (1 : Int32)) z9.2) ⟨rfl, ⟨rfl, ⟨rfl, ⟨rfl, ⟨rfl, ⟨rfl, ⟨rfl, ⟨rfl, trivial⟩⟩⟩⟩⟩⟩⟩⟩
theorem p_X2_yearsOfNotions (x0 : Nat) (x1 : Int32) (x2 : Int32) (x3 : Int32) (x4 : Int32) (t : mk_S) : mk_O mk_wi M_X2_yearsOfNotions 0 [some (.ref x0), some (.int x1), some (.int x2), some (.int x3), some (.int x4), none, none, none] [] t ((mk_ga t x0 2 0).bind fun v1 => (mk_gi t v1 9 5).bind fun v2 => (mk_pi t x0 2 13 v2).bind fun t3 => B_X2_yearsOfNotions_20 mk_fu x0 x1 x2 x3 x4 (0 : Int32) (0 : Int32) (0 : Int32) t3) := by
  refine xo_aload_n rfl rfl dX2_yearsOfNotions_0 ?_
  refine xo_aload_n rfl rfl dX2_yearsOfNotions_1 ?_
  refine xo_geta dX2_yearsOfNotions_2 cl_2 fl_RX2_12 rfl (fun v1 => ?_)
  refine xo_geti dX2_yearsOfNotions_5 cl_9 fl_RX2_224 rfl (fun v2 => ?_)
  refine xo_puti dX2_yearsOfNotions_8 cl_2 fl_RX2_69 rfl ft_2_13 (fun t3 => ?_)
  refine xo_iconst kc_0 dX2_yearsOfNotions_11 ?_
  refine xo_istore (by decide) (mk_p1_v rfl rfl) dX2_yearsOfNotions_12 ?_
  refine xo_iconst kc_0 dX2_yearsOfNotions_14 ?_
  refine xo_istore (by decide) (mk_p1_v rfl rfl) dX2_yearsOfNotions_15 ?_
  refine xo_iconst kc_0 dX2_yearsOfNotions_17 ?_
  refine xo_istore (by decide) (mk_p1_v rfl rfl) dX2_yearsOfNotions_18 ?_
  exact mk_O.wk (o_X2_yearsOfNotions_20 mk_fu x0 x1 x2 x3 x4 (0 : Int32) (0 : Int32) (0 : Int32) t3) ⟨rfl, ⟨rfl, ⟨rfl, ⟨rfl, ⟨rfl, ⟨rfl, ⟨rfl, ⟨rfl, trivial⟩⟩⟩⟩⟩⟩⟩⟩
theorem c_X2_yearsOfNotions (x0 : Nat) (x1 : Int32) (x2 : Int32) (x3 : Int32) (x4 : Int32) (t : mk_S) (z : Int32 × mk_S) (h : F_X2_yearsOfNotions x0 x1 x2 x3 x4 t = some z) : mk_is t x0 2 ∧ mk_Ct M_X2_yearsOfNotions [.ref x0, .int x1, .int x2, .int x3, .int x4] t (mk_wi z.1, z.2) :=
  ⟨(mk_gd_spec h).1, mk_ct (w := mk_wi) (by decide +kernel) (Nat.le_of_ble_eq_true rfl) (p_X2_yearsOfNotions x0 x1 x2 x3 x4 t) z (mk_gd_spec h).2⟩
def F_X3_isThere (x0 : Nat) (t : mk_S) : Option (Int32 × mk_S) := mk_gd t x0 3 ((mk_gi t x0 3 0).bind fun v1 => if v1 ≤ 0 then (mk_rz (0 : Int32) t) else (mk_rz (1 : Int32) t))
theorem p_X3_isThere (x0 : Nat) (t : mk_S) : mk_O mk_wi M_X3_isThere 0 [some (.ref x0)] [] t ((mk_gi t x0 3 0).bind fun v1 => if v1 ≤ 0 then (mk_rz (0 : Int32) t) else (mk_rz (1 : Int32) t)) := by
  refine xo_aload_n rfl rfl dX3_isThere_0 ?_
  refine xo_geti dX3_isThere_1 cl_3 fl_RX3_9 rfl (fun v1 => ?_)
  refine xo_if_le (tgt := 11) dX3_isThere_4 rfl (fun _ => ?_) (fun _ => ?_)
  · refine xo_iconst kc_0 dX3_isThere_11 ?_
    exact xo_zret dX3_isThere_12 rfl
  · refine xo_iconst kc_1 dX3_isThere_7 ?_
    refine xo_goto (tgt := 12) dX3_isThere_8 rfl ?_
    exact xo_zret dX3_isThere_12 rfl
theorem c_X3_isThere (x0 : Nat) (t : mk_S) (z : Int32 × mk_S) (h : F_X3_isThere x0 t = some z) : mk_is t x0 3 ∧ mk_Ct M_X3_isThere [.ref x0] t (mk_wi z.1, z.2) :=
  ⟨(mk_gd_spec h).1, mk_ct (w := mk_wi) (by decide +kernel) (Nat.le_of_ble_eq_true rfl) (p_X3_isThere x0 t) z (mk_gd_spec h).2⟩
def F_X3_clear (x0 : Nat) (t : mk_S) : Option (Unit × mk_S) := mk_gd t x0 3 ((mk_pi t x0 3 0 (0 : Int32)).bind fun t1 => (mk_pi t1 x0 3 1 (0 : Int32)).bind fun t2 => (mk_pi t2 x0 3 2 (0 : Int32)).bind fun t3 => (mk_pi t3 x0 3 3 (0 : Int32)).bind fun t4 => (mk_pi t4 x0 3 4 (0 : Int32)).bind fun t5 => some ((), t5))
theorem p_X3_clear (x0 : Nat) (t : mk_S) : mk_O mk_wu M_X3_clear 0 [some (.ref x0)] [] t ((mk_pi t x0 3 0 (0 : Int32)).bind fun t1 => (mk_pi t1 x0 3 1 (0 : Int32)).bind fun t2 => (mk_pi t2 x0 3 2 (0 : Int32)).bind fun t3 => (mk_pi t3 x0 3 3 (0 : Int32)).bind fun t4 => (mk_pi t4 x0 3 4 (0 : Int32)).bind fun t5 => some ((), t5)) := by
  refine xo_aload_n rfl rfl dX3_clear_0 ?_
  refine xo_iconst kc_0 dX3_clear_1 ?_
  refine xo_puti dX3_clear_2 cl_3 fl_RX3_9 rfl ft_3_0 (fun t1 => ?_)
  refine xo_aload_n rfl rfl dX3_clear_5 ?_
  refine xo_iconst kc_0 dX3_clear_6 ?_
  refine xo_puti dX3_clear_7 cl_3 fl_RX3_15 rfl ft_3_1 (fun t2 => ?_)
  refine xo_aload_n rfl rfl dX3_clear_10 ?_
  refine xo_iconst kc_0 dX3_clear_11 ?_
  refine xo_puti dX3_clear_12 cl_3 fl_RX3_18 rfl ft_3_2 (fun t3 => ?_)
  refine xo_aload_n rfl rfl dX3_clear_15 ?_
  refine xo_iconst kc_0 dX3_clear_16 ?_
  refine xo_puti dX3_clear_17 cl_3 fl_RX3_21 rfl ft_3_3 (fun t4 => ?_)
  refine xo_aload_n rfl rfl dX3_clear_20 ?_
  refine xo_iconst kc_0 dX3_clear_21 ?_
  refine xo_puti dX3_clear_22 cl_3 fl_RX3_24 rfl ft_3_4 (fun t5 => ?_)
  exact xo_vret dX3_clear_25 rfl
theorem c_X3_clear (x0 : Nat) (t : mk_S) (z : Unit × mk_S) (h : F_X3_clear x0 t = some z) : mk_is t x0 3 ∧ mk_Ct M_X3_clear [.ref x0] t (mk_wu z.1, z.2) :=
  ⟨(mk_gd_spec h).1, mk_ct (w := mk_wu) (by decide +kernel) (Nat.le_of_ble_eq_true rfl) (p_X3_clear x0 t) z (mk_gd_spec h).2⟩
def F_X3_copyFrom (x0 : Nat) (x1 : Nat) (t : mk_S) : Option (Unit × mk_S) := mk_gd t x0 3 ((mk_gi t x1 3 0).bind fun v1 => (mk_pi t x0 3 0 v1).bind fun t2 => (mk_gi t2 x1 3 1).bind fun v3 => (mk_pi t2 x0 3 1 v3).bind fun t4 => (mk_gi t4 x1 3 2).bind fun v5 => (mk_pi t4 x0 3 2 v5).bind fun t6 => (mk_gi t6 x1 3 3).bind fun v7 => (mk_pi t6 x0 3 3 v7).bind fun t8 => (mk_gi t8 x1 3 4).bind fun v9 => (mk_pi t8 x0 3 4 v9).bind fun t10 => (mk_ga t10 x1 3 5).bind fun v11 => (mk_ga t10 x0 3 5).bind fun v12 => (mk_cp t10 v11 (0 : Int32) v12 (0 : Int32) (6 : Int32)).bind fun t13 => (mk_ga t13 x1 3 6).bind fun v14 => (mk_ga t13 x0 3 6).bind fun v15 => (mk_cp t13 v14 (0 : Int32) v15 (0 : Int32) (6 : Int32)).bind fun t16 => (mk_ga t16 x1 3 7).bind fun v17 => (mk_ga t16 x0 3 7).bind fun v18 => (mk_cp t16 v17 (0 : Int32) v18 (0 : Int32) (6 : Int32)).bind fun t19 => (mk_ga t19 x1 3 8).bind fun v20 => (mk_ga t19 x0 3 8).bind fun v21 => (mk_cp t19 v20 (0 : Int32) v21 (0 : Int32) (4 : Int32)).bind fun t22 => (mk_ga t22 x1 3 9).bind fun v23 => (mk_ga t22 x0 3 9).bind fun v24 => (mk_cp t22 v23 (0 : Int32) v24 (0 : Int32) (4 : Int32)).bind fun t25 => (mk_ga t25 x1 3 10).bind fun v26 => (mk_ga t25 x0 3 10).bind fun v27 => (mk_cp t25 v26 (0 : Int32) v27 (0 : Int32) (4 : Int32)).bind fun t28 => (mk_ga t28 x1 3 11).bind fun v29 => (mk_ga t28 x0 3 11).bind fun v30 => (mk_cp t28 v29 (0 : Int32) v30 (0 : Int32) (4 : Int32)).bind fun t31 => some ((), t31))
theorem p_X3_copyFrom (x0 : Nat) (x1 : Nat) (t : mk_S) : mk_O mk_wu M_X3_copyFrom 0 [some (.ref x0), some (.ref x1)] [] t ((mk_gi t x1 3 0).bind fun v1 => (mk_pi t x0 3 0 v1).bind fun t2 => (mk_gi t2 x1 3 1).bind fun v3 => (mk_pi t2 x0 3 1 v3).bind fun t4 => (mk_gi t4 x1 3 2).bind fun v5 => (mk_pi t4 x0 3 2 v5).bind fun t6 => (mk_gi t6 x1 3 3).bind fun v7 => (mk_pi t6 x0 3 3 v7).bind fun t8 => (mk_gi t8 x1 3 4).bind fun v9 => (mk_pi t8 x0 3 4 v9).bind fun t10 => (mk_ga t10 x1 3 5).bind fun v11 => (mk_ga t10 x0 3 5).bind fun v12 => (mk_cp t10 v11 (0 : Int32) v12 (0 : Int32) (6 : Int32)).bind fun t13 => (mk_ga t13 x1 3 6).bind fun v14 => (mk_ga t13 x0 3 6).bind fun v15 => (mk_cp t13 v14 (0 : Int32) v15 (0 : Int32) (6 : Int32)).bind fun t16 => (mk_ga t16 x1 3 7).bind fun v17 => (mk_ga t16 x0 3 7).bind fun v18 => (mk_cp t16 v17 (0 : Int32) v18 (0 : Int32) (6 : Int32)).bind fun t19 => (mk_ga t19 x1 3 8).bind fun v20 => (mk_ga t19 x0 3 8).bind fun v21 => (mk_cp t19 v20 (0 : Int32) v21 (0 : Int32) (4 : Int32)).bind fun t22 => (mk_ga t22 x1 3 9).bind fun v23 => (mk_ga t22 x0 3 9).bind fun v24 => (mk_cp t22 v23 (0 : Int32) v24 (0 : Int32) (4 : Int32)).bind fun t25 => (mk_ga t25 x1 3 10).bind fun v26 => (mk_ga t25 x0 3 10).bind fun v27 => (mk_cp t25 v26 (0 : Int32) v27 (0 : Int32) (4 : Int32)).bind fun t28 => (mk_ga t28 x1 3 11).bind fun v29 => (mk_ga t28 x0 3 11).bind fun v30 => (mk_cp t28 v29 (0 : Int32) v30 (0 : Int32) (4 : Int32)).bind fun t31 => some ((), t31)) := by
  refine xo_aload_n rfl rfl dX3_copyFrom_0 ?_
  refine xo_aload_n rfl rfl dX3_copyFrom_1 ?_
  refine xo_geti dX3_copyFrom_2 cl_3 fl_RX3_9 rfl (fun v1 => ?_)
  refine xo_puti dX3_copyFrom_5 cl_3 fl_RX3_9 rfl ft_3_0 (fun t2 => ?_)
  refine xo_aload_n rfl rfl dX3_copyFrom_8 ?_
  refine xo_aload_n rfl rfl dX3_copyFrom_9 ?_
  refine xo_geti dX3_copyFrom_10 cl_3 fl_RX3_15 rfl (fun v3 => ?_)
  refine xo_puti dX3_copyFrom_13 cl_3 fl_RX3_15 rfl ft_3_1 (fun t4 => ?_)
  refine xo_aload_n rfl rfl dX3_copyFrom_16 ?_
  refine xo_aload_n rfl rfl dX3_copyFrom_17 ?_
  refine xo_geti dX3_copyFrom_18 cl_3 fl_RX3_18 rfl (fun v5 => ?_)
  refine xo_puti dX3_copyFrom_21 cl_3 fl_RX3_18 rfl ft_3_2 (fun t6 => ?_)
  refine xo_aload_n rfl rfl dX3_copyFrom_24 ?_
  refine xo_aload_n rfl rfl dX3_copyFrom_25 ?_
  refine xo_geti dX3_copyFrom_26 cl_3 fl_RX3_21 rfl (fun v7 => ?_)
  refine xo_puti dX3_copyFrom_29 cl_3 fl_RX3_21 rfl ft_3_3 (fun t8 => ?_)
  refine xo_aload_n rfl rfl dX3_copyFrom_32 ?_
  refine xo_aload_n rfl rfl dX3_copyFrom_33 ?_
  refine xo_geti dX3_copyFrom_34 cl_3 fl_RX3_24 rfl (fun v9 => ?_)
  refine xo_puti dX3_copyFrom_37 cl_3 fl_RX3_24 rfl ft_3_4 (fun t10 => ?_)
  refine xo_aload_n rfl rfl dX3_copyFrom_40 ?_
  refine xo_geta dX3_copyFrom_41 cl_3 fl_RX3_27 rfl (fun v11 => ?_)
  refine xo_iconst kc_0 dX3_copyFrom_44 ?_
  refine xo_aload_n rfl rfl dX3_copyFrom_45 ?_
  refine xo_geta dX3_copyFrom_46 cl_3 fl_RX3_27 rfl (fun v12 => ?_)
  refine xo_iconst kc_0 dX3_copyFrom_49 ?_
  refine xo_bipush kb_6 dX3_copyFrom_50 ?_
  refine xo_cpy lcpy_RX3_49 (by decide) (Nat.le_of_ble_eq_true rfl) dX3_copyFrom_52 (fun t13 => ?_)
  refine xo_aload_n rfl rfl dX3_copyFrom_55 ?_
  refine xo_geta dX3_copyFrom_56 cl_3 fl_RX3_31 rfl (fun v14 => ?_)
  refine xo_iconst kc_0 dX3_copyFrom_59 ?_
  refine xo_aload_n rfl rfl dX3_copyFrom_60 ?_
  refine xo_geta dX3_copyFrom_61 cl_3 fl_RX3_31 rfl (fun v15 => ?_)
  refine xo_iconst kc_0 dX3_copyFrom_64 ?_
  refine xo_bipush kb_6 dX3_copyFrom_65 ?_
  refine xo_cpy lcpy_RX3_49 (by decide) (Nat.le_of_ble_eq_true rfl) dX3_copyFrom_67 (fun t16 => ?_)
  refine xo_aload_n rfl rfl dX3_copyFrom_70 ?_
  refine xo_geta dX3_copyFrom_71 cl_3 fl_RX3_34 rfl (fun v17 => ?_)
  refine xo_iconst kc_0 dX3_copyFrom_74 ?_
  refine xo_aload_n rfl rfl dX3_copyFrom_75 ?_
  refine xo_geta dX3_copyFrom_76 cl_3 fl_RX3_34 rfl (fun v18 => ?_)
  refine xo_iconst kc_0 dX3_copyFrom_79 ?_
  refine xo_bipush kb_6 dX3_copyFrom_80 ?_
  refine xo_cpy lcpy_RX3_49 (by decide) (Nat.le_of_ble_eq_true rfl) dX3_copyFrom_82 (fun t19 => ?_)
  refine xo_aload_n rfl rfl dX3_copyFrom_85 ?_
  refine xo_geta dX3_copyFrom_86 cl_3 fl_RX3_37 rfl (fun v20 => ?_)
  refine xo_iconst kc_0 dX3_copyFrom_89 ?_
  refine xo_aload_n rfl rfl dX3_copyFrom_90 ?_
  refine xo_geta dX3_copyFrom_91 cl_3 fl_RX3_37 rfl (fun v21 => ?_)
  refine xo_iconst kc_0 dX3_copyFrom_94 ?_
  refine xo_iconst kc_4 dX3_copyFrom_95 ?_
  refine xo_cpy lcpy_RX3_49 (by decide) (Nat.le_of_ble_eq_true rfl) dX3_copyFrom_96 (fun t22 => ?_)
  refine xo_aload_n rfl rfl dX3_copyFrom_99 ?_
  refine xo_geta dX3_copyFrom_100 cl_3 fl_RX3_40 rfl (fun v23 => ?_)
  refine xo_iconst kc_0 dX3_copyFrom_103 ?_
  refine xo_aload_n rfl rfl dX3_copyFrom_104 ?_
  refine xo_geta dX3_copyFrom_105 cl_3 fl_RX3_40 rfl (fun v24 => ?_)
  refine xo_iconst kc_0 dX3_copyFrom_108 ?_
  refine xo_iconst kc_4 dX3_copyFrom_109 ?_
  refine xo_cpy lcpy_RX3_49 (by decide) (Nat.le_of_ble_eq_true rfl) dX3_copyFrom_110 (fun t25 => ?_)
  refine xo_aload_n rfl rfl dX3_copyFrom_113 ?_
  refine xo_geta dX3_copyFrom_114 cl_3 fl_RX3_43 rfl (fun v26 => ?_)
  refine xo_iconst kc_0 dX3_copyFrom_117 ?_
  refine xo_aload_n rfl rfl dX3_copyFrom_118 ?_
  refine xo_geta dX3_copyFrom_119 cl_3 fl_RX3_43 rfl (fun v27 => ?_)
  refine xo_iconst kc_0 dX3_copyFrom_122 ?_
  refine xo_iconst kc_4 dX3_copyFrom_123 ?_
  refine xo_cpy lcpy_RX3_49 (by decide) (Nat.le_of_ble_eq_true rfl) dX3_copyFrom_124 (fun t28 => ?_)
  refine xo_aload_n rfl rfl dX3_copyFrom_127 ?_
  refine xo_geta dX3_copyFrom_128 cl_3 fl_RX3_46 rfl (fun v29 => ?_)
  refine xo_iconst kc_0 dX3_copyFrom_131 ?_
  refine xo_aload_n rfl rfl dX3_copyFrom_132 ?_
  refine xo_geta dX3_copyFrom_133 cl_3 fl_RX3_46 rfl (fun v30 => ?_)
  refine xo_iconst kc_0 dX3_copyFrom_136 ?_
  refine xo_iconst kc_4 dX3_copyFrom_137 ?_
  refine xo_cpy lcpy_RX3_49 (by decide) (Nat.le_of_ble_eq_true rfl) dX3_copyFrom_138 (fun t31 => ?_)
  exact xo_vret dX3_copyFrom_141 rfl
theorem c_X3_copyFrom (x0 : Nat) (x1 : Nat) (t : mk_S) (z : Unit × mk_S) (h : F_X3_copyFrom x0 x1 t = some z) : mk_is t x0 3 ∧ mk_Ct M_X3_copyFrom [.ref x0, .ref x1] t (mk_wu z.1, z.2) :=
  ⟨(mk_gd_spec h).1, mk_ct (w := mk_wu) (by decide +kernel) (Nat.le_of_ble_eq_true rfl) (p_X3_copyFrom x0 x1 t) z (mk_gd_spec h).2⟩
def F_X8_open (x0 : Nat) (t : mk_S) : Option (Unit × mk_S) := mk_gd t x0 7 ((mk_pi t x0 7 2 (0 : Int32)).bind fun t1 => (mk_pi t1 x0 7 3 (0 : Int32)).bind fun t2 => some ((), t2))
theorem p_X8_open (x0 : Nat) (t : mk_S) : mk_O mk_wu M_X8_open 0 [some (.ref x0)] [] t ((mk_pi t x0 7 2 (0 : Int32)).bind fun t1 => (mk_pi t1 x0 7 3 (0 : Int32)).bind fun t2 => some ((), t2)) := by
  refine xo_aload_n rfl rfl dX8_open_0 ?_
  refine xo_iconst kc_0 dX8_open_1 ?_
  refine xo_puti dX8_open_2 cl_7 fl_RX8_19 rfl ft_7_2 (fun t1 => ?_)
  refine xo_aload_n rfl rfl dX8_open_5 ?_
  refine xo_iconst kc_0 dX8_open_6 ?_
  refine xo_puti dX8_open_7 cl_7 fl_RX8_22 rfl ft_7_3 (fun t2 => ?_)
  exact xo_vret dX8_open_10 rfl
theorem c_X8_open (x0 : Nat) (t : mk_S) (z : Unit × mk_S) (h : F_X8_open x0 t = some z) : mk_is t x0 7 ∧ mk_Ct M_X8_open [.ref x0] t (mk_wu z.1, z.2) :=
  ⟨(mk_gd_spec h).1, mk_ct (w := mk_wu) (by decide +kernel) (Nat.le_of_ble_eq_true rfl) (p_X8_open x0 t) z (mk_gd_spec h).2⟩
