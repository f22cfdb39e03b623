def F_X12_plateauWord (x0 : Int32) (t : mk_S) : Option (Nat × mk_S) := if x0 = (0 : Int32) then (some (1000036, t)) else (if x0 = (1 : Int32) then (some (1000021, t)) else (if x0 = (2 : Int32) then (some (1000037, t)) else (some (1000038, t))))
theorem p_X12_plateauWord (x0 : Int32) (t : mk_S) : mk_O mk_wn M_X12_plateauWord 0 [some (.int x0)] [] t (if x0 = (0 : Int32) then (some (1000036, t)) else (if x0 = (1 : Int32) then (some (1000021, t)) else (if x0 = (2 : Int32) then (some (1000037, t)) else (some (1000038, t))))) := by
  refine xo_iload_n rfl rfl dX12_plateauWord_0 ?_
  refine mk_O.cs (fun n0 => ?_) (fun n0 => ?_)
  · refine xo_tab (kx := 0) (j := 0) n0 dX12_plateauWord_1 (by decide) (by decide) (by decide) rfl rfl ?_
    refine xo_strw (i := 36) (by decide) rfl rfl dX12_plateauWord_28 ?_
    exact xo_aret dX12_plateauWord_31 rfl
  · refine mk_O.cs (fun n1 => ?_) (fun n1 => ?_)
    · refine xo_tab (kx := 1) (j := 1) n1 dX12_plateauWord_1 (by decide) (by decide) (by decide) rfl rfl ?_
      refine xo_str (i := 21) (by decide) rfl rfl dX12_plateauWord_32 ?_
      exact xo_aret dX12_plateauWord_34 rfl
    · refine mk_O.cs (fun n2 => ?_) (fun n2 => ?_)
      · refine xo_tab (kx := 2) (j := 2) n2 dX12_plateauWord_1 (by decide) (by decide) (by decide) rfl rfl ?_
        refine xo_strw (i := 37) (by decide) rfl rfl dX12_plateauWord_35 ?_
        exact xo_aret dX12_plateauWord_38 rfl
      · refine xo_tabo dX12_plateauWord_1 (by have q0 := lv_neT (a := 0) n0 (by decide); have q1 := lv_neT (a := 1) n1 (by decide); have q2 := lv_neT (a := 2) n2 (by decide); omega) rfl ?_
        refine xo_strw (i := 38) (by decide) rfl rfl dX12_plateauWord_39 ?_
        exact xo_aret dX12_plateauWord_42 rfl
theorem c_X12_plateauWord (x0 : Int32) (t : mk_S) (z : Nat × mk_S) (h : F_X12_plateauWord x0 t = some z) : mk_Ct M_X12_plateauWord [.int x0] t (mk_wn z.1, z.2) :=
  mk_ct (w := mk_wn) (by decide +kernel) (Nat.le_of_ble_eq_true rfl) (p_X12_plateauWord x0 t) z h
def F_X12_plateauPart (x0 : Nat) (x1 : Int32) (t : mk_S) : Option (Unit × mk_S) := mk_gd t x0 11 ((mk_ga t x0 11 19).bind fun v1 => (mk_ld 100 t v1 (0 : Int32)).bind fun v2 => (mk_ga t x0 11 19).bind fun v3 => (mk_ld 100 t v3 (0 : Int32)).bind fun v4 => if x1 = (0 : Int32) then ((F_X12_amount x0 (2 : Int32) (6 : Int32) t).bind fun z5 => (mk_ga z5.2 x0 11 19).bind fun v6 => (F_X12_amount x0 (1 : Int32) (9 : Int32) z5.2).bind fun z7 => (mk_st 100 z7.2 v6 (1 : Int32) z7.1).bind fun t8 => (mk_ga t8 x0 11 19).bind fun v9 => (mk_st 100 t8 v9 (0 : Int32) z5.1).bind fun t10 => some ((), t10)) else (if x1 = (1 : Int32) then ((mk_ga t x0 11 19).bind fun v11 => (mk_ld 100 t v11 (2 : Int32)).bind fun v12 => (mk_ga t x0 11 20).bind fun v13 => (F_X12_amount x0 (0 : Int32) ((v2 * v4) - (1 : Int32)) t).bind fun z14 => (mk_st 100 z14.2 v13 v12 z14.1).bind fun t15 => (mk_ga t15 x0 11 22).bind fun v16 => (F_X12_amount x0 (0 : Int32) (20 : Int32) t15).bind fun z17 => (mk_st 100 z17.2 v16 v12 z17.1).bind fun t18 => (mk_ga t18 x0 11 21).bind fun v19 => (F_X12_amount x0 (0 : Int32) (3 : Int32) t18).bind fun z20 => (mk_st 100 z20.2 v19 v12 z20.1).bind fun t21 => (mk_ga t21 x0 11 19).bind fun v22 => (mk_ld 100 t21 v22 (2 : Int32)).bind fun v23 => (mk_st 100 t21 v22 (2 : Int32) (v23 + (1 : Int32))).bind fun t24 => some ((), t24)) else (if x1 = (2 : Int32) then ((mk_ga t x0 11 23).bind fun v25 => (mk_ga t x0 11 19).bind fun v26 => (mk_ld 100 t v26 (3 : Int32)).bind fun v27 => (F_X12_amount x0 (0 : Int32) ((v2 * v4) - (1 : Int32)) t).bind fun z28 => (mk_st 100 z28.2 v25 v27 z28.1).bind fun t29 => (mk_ga t29 x0 11 24).bind fun v30 => (mk_ga t29 x0 11 19).bind fun v31 => (mk_ld 100 t29 v31 (3 : Int32)).bind fun v32 => (F_X12_amount x0 (1 : Int32) (20 : Int32) t29).bind fun z33 => (mk_st 100 z33.2 v30 v32 z33.1).bind fun t34 => (mk_ga t34 x0 11 19).bind fun v35 => (mk_ld 100 t34 v35 (3 : Int32)).bind fun v36 => (mk_st 100 t34 v35 (3 : Int32) (v36 + (1 : Int32))).bind fun t37 => some ((), t37)) else ((mk_ga t x0 11 25).bind fun v38 => (mk_ga t x0 11 19).bind fun v39 => (mk_ld 100 t v39 (4 : Int32)).bind fun v40 => (F_X12_amount x0 (0 : Int32) ((v2 * v4) - (1 : Int32)) t).bind fun z41 => (mk_st 100 z41.2 v38 v40 z41.1).bind fun t42 => (mk_ga t42 x0 11 26).bind fun v43 => (mk_ga t42 x0 11 19).bind fun v44 => (mk_ld 100 t42 v44 (4 : Int32)).bind fun v45 => (F_X12_amount x0 (0 : Int32) (40 : Int32) t42).bind fun z46 => (mk_st 100 z46.2 v43 v45 z46.1).bind fun t47 => (mk_ga t47 x0 11 19).bind fun v48 => (mk_ld 100 t47 v48 (4 : Int32)).bind fun v49 => (mk_st 100 t47 v48 (4 : Int32) (v49 + (1 : Int32))).bind fun t50 => some ((), t50)))))
theorem p_X12_plateauPart (x0 : Nat) (x1 : Int32) (t : mk_S) : mk_O mk_wu M_X12_plateauPart 0 [some (.ref x0), some (.int x1), none, none] [] t ((mk_ga t x0 11 19).bind fun v1 => (mk_ld 100 t v1 (0 : Int32)).bind fun v2 => (mk_ga t x0 11 19).bind fun v3 => (mk_ld 100 t v3 (0 : Int32)).bind fun v4 => if x1 = (0 : Int32) then ((F_X12_amount x0 (2 : Int32) (6 : Int32) t).bind fun z5 => (mk_ga z5.2 x0 11 19).bind fun v6 => (F_X12_amount x0 (1 : Int32) (9 : Int32) z5.2).bind fun z7 => (mk_st 100 z7.2 v6 (1 : Int32) z7.1).bind fun t8 => (mk_ga t8 x0 11 19).bind fun v9 => (mk_st 100 t8 v9 (0 : Int32) z5.1).bind fun t10 => some ((), t10)) else (if x1 = (1 : Int32) then ((mk_ga t x0 11 19).bind fun v11 => (mk_ld 100 t v11 (2 : Int32)).bind fun v12 => (mk_ga t x0 11 20).bind fun v13 => (F_X12_amount x0 (0 : Int32) ((v2 * v4) - (1 : Int32)) t).bind fun z14 => (mk_st 100 z14.2 v13 v12 z14.1).bind fun t15 => (mk_ga t15 x0 11 22).bind fun v16 => (F_X12_amount x0 (0 : Int32) (20 : Int32) t15).bind fun z17 => (mk_st 100 z17.2 v16 v12 z17.1).bind fun t18 => (mk_ga t18 x0 11 21).bind fun v19 => (F_X12_amount x0 (0 : Int32) (3 : Int32) t18).bind fun z20 => (mk_st 100 z20.2 v19 v12 z20.1).bind fun t21 => (mk_ga t21 x0 11 19).bind fun v22 => (mk_ld 100 t21 v22 (2 : Int32)).bind fun v23 => (mk_st 100 t21 v22 (2 : Int32) (v23 + (1 : Int32))).bind fun t24 => some ((), t24)) else (if x1 = (2 : Int32) then ((mk_ga t x0 11 23).bind fun v25 => (mk_ga t x0 11 19).bind fun v26 => (mk_ld 100 t v26 (3 : Int32)).bind fun v27 => (F_X12_amount x0 (0 : Int32) ((v2 * v4) - (1 : Int32)) t).bind fun z28 => (mk_st 100 z28.2 v25 v27 z28.1).bind fun t29 => (mk_ga t29 x0 11 24).bind fun v30 => (mk_ga t29 x0 11 19).bind fun v31 => (mk_ld 100 t29 v31 (3 : Int32)).bind fun v32 => (F_X12_amount x0 (1 : Int32) (20 : Int32) t29).bind fun z33 => (mk_st 100 z33.2 v30 v32 z33.1).bind fun t34 => (mk_ga t34 x0 11 19).bind fun v35 => (mk_ld 100 t34 v35 (3 : Int32)).bind fun v36 => (mk_st 100 t34 v35 (3 : Int32) (v36 + (1 : Int32))).bind fun t37 => some ((), t37)) else ((mk_ga t x0 11 25).bind fun v38 => (mk_ga t x0 11 19).bind fun v39 => (mk_ld 100 t v39 (4 : Int32)).bind fun v40 => (F_X12_amount x0 (0 : Int32) ((v2 * v4) - (1 : Int32)) t).bind fun z41 => (mk_st 100 z41.2 v38 v40 z41.1).bind fun t42 => (mk_ga t42 x0 11 26).bind fun v43 => (mk_ga t42 x0 11 19).bind fun v44 => (mk_ld 100 t42 v44 (4 : Int32)).bind fun v45 => (F_X12_amount x0 (0 : Int32) (40 : Int32) t42).bind fun z46 => (mk_st 100 z46.2 v43 v45 z46.1).bind fun t47 => (mk_ga t47 x0 11 19).bind fun v48 => (mk_ld 100 t47 v48 (4 : Int32)).bind fun v49 => (mk_st 100 t47 v48 (4 : Int32) (v49 + (1 : Int32))).bind fun t50 => some ((), t50))))) := by
  refine xo_aload_n rfl rfl dX12_plateauPart_0 ?_
  refine xo_geta dX12_plateauPart_1 cl_11 fl_RX12_64 rfl (fun v1 => ?_)
  refine xo_iconst kc_0 dX12_plateauPart_4 ?_
  refine xo_iald dX12_plateauPart_5 (fun v2 => ?_)
  refine xo_aload_n rfl rfl dX12_plateauPart_6 ?_
  refine xo_geta dX12_plateauPart_7 cl_11 fl_RX12_64 rfl (fun v3 => ?_)
  refine xo_iconst kc_0 dX12_plateauPart_10 ?_
  refine xo_iald dX12_plateauPart_11 (fun v4 => ?_)
  refine xo_imul dX12_plateauPart_12 ?_
  refine xo_iconst kc_1 dX12_plateauPart_13 ?_
  refine xo_isub dX12_plateauPart_14 ?_
  refine xo_istore_n rfl (by decide) (mk_p1_v rfl rfl) dX12_plateauPart_15 ?_
  refine xo_iload_n rfl rfl dX12_plateauPart_16 ?_
  refine mk_O.cs (fun n0 => ?_) (fun n0 => ?_)
  · refine xo_tab (kx := 0) (j := 0) n0 dX12_plateauPart_17 (by decide) (by decide) (by decide) rfl rfl ?_
    refine xo_aload_n rfl rfl dX12_plateauPart_44 ?_
    refine xo_iconst kc_2 dX12_plateauPart_45 ?_
    refine xo_bipush kb_6 dX12_plateauPart_46 ?_
    refine mk_O.callV (N := M_X12_amount) (ci := 11) (q := (RX12, TX12, 64)) (b := x0) (As1 := [.int (2 : Int32), .int (6 : Int32)]) (S := []) md_X12_amount mv_X12_amount lk_RX12_292 rfl (Nat.le_of_ble_eq_true rfl) (by decide) dX12_plateauPart_48 rfl rfl rfl (fun z hz => (c_X12_amount x0 (2 : Int32) (6 : Int32) t z hz).1) (fun z hz => (c_X12_amount x0 (2 : Int32) (6 : Int32) t z hz).2) (fun z5 _ => ?_)
    show mk_O _ _ _ _ (.int z5.1 :: []) _ _
    refine xo_istore_n rfl (by decide) (mk_p1_v rfl rfl) dX12_plateauPart_51 ?_
    refine xo_aload_n rfl rfl dX12_plateauPart_52 ?_
    refine xo_geta dX12_plateauPart_53 cl_11 fl_RX12_64 rfl (fun v6 => ?_)
    refine xo_iconst kc_1 dX12_plateauPart_56 ?_
    refine xo_aload_n rfl rfl dX12_plateauPart_57 ?_
    refine xo_iconst kc_1 dX12_plateauPart_58 ?_
    refine xo_bipush kb_9 dX12_plateauPart_59 ?_
    refine mk_O.callV (N := M_X12_amount) (ci := 11) (q := (RX12, TX12, 64)) (b := x0) (As1 := [.int (1 : Int32), .int (9 : Int32)]) (S := [.int (1 : Int32), .ref v6]) md_X12_amount mv_X12_amount lk_RX12_292 rfl (Nat.le_of_ble_eq_true rfl) (by decide) dX12_plateauPart_61 rfl rfl rfl (fun z hz => (c_X12_amount x0 (1 : Int32) (9 : Int32) z5.2 z hz).1) (fun z hz => (c_X12_amount x0 (1 : Int32) (9 : Int32) z5.2 z hz).2) (fun z7 _ => ?_)
    show mk_O _ _ _ _ (.int z7.1 :: [.int (1 : Int32), .ref v6]) _ _
    refine xo_iast dX12_plateauPart_64 (fun t8 => ?_)
    refine xo_aload_n rfl rfl dX12_plateauPart_65 ?_
    refine xo_geta dX12_plateauPart_66 cl_11 fl_RX12_64 rfl (fun v9 => ?_)
    refine xo_iconst kc_0 dX12_plateauPart_69 ?_
    refine xo_iload_n rfl rfl dX12_plateauPart_70 ?_
    refine xo_iast dX12_plateauPart_71 (fun t10 => ?_)
    refine xo_goto (tgt := 225) dX12_plateauPart_72 rfl ?_
    exact xo_vret dX12_plateauPart_225 rfl
  · refine mk_O.cs (fun n1 => ?_) (fun n1 => ?_)
    · refine xo_tab (kx := 1) (j := 1) n1 dX12_plateauPart_17 (by decide) (by decide) (by decide) rfl rfl ?_
      refine xo_aload_n rfl rfl dX12_plateauPart_75 ?_
      refine xo_geta dX12_plateauPart_76 cl_11 fl_RX12_64 rfl (fun v11 => ?_)
      refine xo_iconst kc_2 dX12_plateauPart_79 ?_
      refine xo_iald dX12_plateauPart_80 (fun v12 => ?_)
      refine xo_istore_n rfl (by decide) (mk_p1_v rfl rfl) dX12_plateauPart_81 ?_
      refine xo_aload_n rfl rfl dX12_plateauPart_82 ?_
      refine xo_geta dX12_plateauPart_83 cl_11 fl_RX12_67 rfl (fun v13 => ?_)
      refine xo_iload_n rfl rfl dX12_plateauPart_86 ?_
      refine xo_aload_n rfl rfl dX12_plateauPart_87 ?_
      refine xo_iconst kc_0 dX12_plateauPart_88 ?_
      refine xo_iload_n rfl rfl dX12_plateauPart_89 ?_
      refine mk_O.callV (N := M_X12_amount) (ci := 11) (q := (RX12, TX12, 64)) (b := x0) (As1 := [.int (0 : Int32), .int ((v2 * v4) - (1 : Int32))]) (S := [.int v12, .ref v13]) md_X12_amount mv_X12_amount lk_RX12_292 rfl (Nat.le_of_ble_eq_true rfl) (by decide) dX12_plateauPart_90 rfl rfl rfl (fun z hz => (c_X12_amount x0 (0 : Int32) ((v2 * v4) - (1 : Int32)) t z hz).1) (fun z hz => (c_X12_amount x0 (0 : Int32) ((v2 * v4) - (1 : Int32)) t z hz).2) (fun z14 _ => ?_)
      show mk_O _ _ _ _ (.int z14.1 :: [.int v12, .ref v13]) _ _
      refine xo_iast dX12_plateauPart_93 (fun t15 => ?_)
      refine xo_aload_n rfl rfl dX12_plateauPart_94 ?_
      refine xo_geta dX12_plateauPart_95 cl_11 fl_RX12_73 rfl (fun v16 => ?_)
      refine xo_iload_n rfl rfl dX12_plateauPart_98 ?_
      refine xo_aload_n rfl rfl dX12_plateauPart_99 ?_
      refine xo_iconst kc_0 dX12_plateauPart_100 ?_
      refine xo_bipush kb_20 dX12_plateauPart_101 ?_
      refine mk_O.callV (N := M_X12_amount) (ci := 11) (q := (RX12, TX12, 64)) (b := x0) (As1 := [.int (0 : Int32), .int (20 : Int32)]) (S := [.int v12, .ref v16]) md_X12_amount mv_X12_amount lk_RX12_292 rfl (Nat.le_of_ble_eq_true rfl) (by decide) dX12_plateauPart_103 rfl rfl rfl (fun z hz => (c_X12_amount x0 (0 : Int32) (20 : Int32) t15 z hz).1) (fun z hz => (c_X12_amount x0 (0 : Int32) (20 : Int32) t15 z hz).2) (fun z17 _ => ?_)
      show mk_O _ _ _ _ (.int z17.1 :: [.int v12, .ref v16]) _ _
      refine xo_iast dX12_plateauPart_106 (fun t18 => ?_)
      refine xo_aload_n rfl rfl dX12_plateauPart_107 ?_
      refine xo_geta dX12_plateauPart_108 cl_11 fl_RX12_70 rfl (fun v19 => ?_)
      refine xo_iload_n rfl rfl dX12_plateauPart_111 ?_
      refine xo_aload_n rfl rfl dX12_plateauPart_112 ?_
      refine xo_iconst kc_0 dX12_plateauPart_113 ?_
      refine xo_iconst kc_3 dX12_plateauPart_114 ?_
      refine mk_O.callV (N := M_X12_amount) (ci := 11) (q := (RX12, TX12, 64)) (b := x0) (As1 := [.int (0 : Int32), .int (3 : Int32)]) (S := [.int v12, .ref v19]) md_X12_amount mv_X12_amount lk_RX12_292 rfl (Nat.le_of_ble_eq_true rfl) (by decide) dX12_plateauPart_115 rfl rfl rfl (fun z hz => (c_X12_amount x0 (0 : Int32) (3 : Int32) t18 z hz).1) (fun z hz => (c_X12_amount x0 (0 : Int32) (3 : Int32) t18 z hz).2) (fun z20 _ => ?_)
      show mk_O _ _ _ _ (.int z20.1 :: [.int v12, .ref v19]) _ _
      refine xo_iast dX12_plateauPart_118 (fun t21 => ?_)
      refine xo_aload_n rfl rfl dX12_plateauPart_119 ?_
      refine xo_geta dX12_plateauPart_120 cl_11 fl_RX12_64 rfl (fun v22 => ?_)
      refine xo_iconst kc_2 dX12_plateauPart_123 ?_
      refine xo_dup2 rfl rfl dX12_plateauPart_124 ?_
      refine xo_iald dX12_plateauPart_125 (fun v23 => ?_)
      refine xo_iconst kc_1 dX12_plateauPart_126 ?_
      refine xo_iadd dX12_plateauPart_127 ?_
      refine xo_iast dX12_plateauPart_128 (fun t24 => ?_)
      refine xo_goto (tgt := 225) dX12_plateauPart_129 rfl ?_
      exact xo_vret dX12_plateauPart_225 rfl
    · refine mk_O.cs (fun n2 => ?_) (fun n2 => ?_)
      · refine xo_tab (kx := 2) (j := 2) n2 dX12_plateauPart_17 (by decide) (by decide) (by decide) rfl rfl ?_
        refine xo_aload_n rfl rfl dX12_plateauPart_132 ?_
        refine xo_geta dX12_plateauPart_133 cl_11 fl_RX12_76 rfl (fun v25 => ?_)
        refine xo_aload_n rfl rfl dX12_plateauPart_136 ?_
        refine xo_geta dX12_plateauPart_137 cl_11 fl_RX12_64 rfl (fun v26 => ?_)
        refine xo_iconst kc_3 dX12_plateauPart_140 ?_
        refine xo_iald dX12_plateauPart_141 (fun v27 => ?_)
        refine xo_aload_n rfl rfl dX12_plateauPart_142 ?_
        refine xo_iconst kc_0 dX12_plateauPart_143 ?_
        refine xo_iload_n rfl rfl dX12_plateauPart_144 ?_
        refine mk_O.callV (N := M_X12_amount) (ci := 11) (q := (RX12, TX12, 64)) (b := x0) (As1 := [.int (0 : Int32), .int ((v2 * v4) - (1 : Int32))]) (S := [.int v27, .ref v25]) md_X12_amount mv_X12_amount lk_RX12_292 rfl (Nat.le_of_ble_eq_true rfl) (by decide) dX12_plateauPart_145 rfl rfl rfl (fun z hz => (c_X12_amount x0 (0 : Int32) ((v2 * v4) - (1 : Int32)) t z hz).1) (fun z hz => (c_X12_amount x0 (0 : Int32) ((v2 * v4) - (1 : Int32)) t z hz).2) (fun z28 _ => ?_)
        show mk_O _ _ _ _ (.int z28.1 :: [.int v27, .ref v25]) _ _
        refine xo_iast dX12_plateauPart_148 (fun t29 => ?_)
        refine xo_aload_n rfl rfl dX12_plateauPart_149 ?_
        refine xo_geta dX12_plateauPart_150 cl_11 fl_RX12_79 rfl (fun v30 => ?_)
        refine xo_aload_n rfl rfl dX12_plateauPart_153 ?_
        refine xo_geta dX12_plateauPart_154 cl_11 fl_RX12_64 rfl (fun v31 => ?_)
        refine xo_iconst kc_3 dX12_plateauPart_157 ?_
        refine xo_iald dX12_plateauPart_158 (fun v32 => ?_)
        refine xo_aload_n rfl rfl dX12_plateauPart_159 ?_
        refine xo_iconst kc_1 dX12_plateauPart_160 ?_
        refine xo_bipush kb_20 dX12_plateauPart_161 ?_
        refine mk_O.callV (N := M_X12_amount) (ci := 11) (q := (RX12, TX12, 64)) (b := x0) (As1 := [.int (1 : Int32), .int (20 : Int32)]) (S := [.int v32, .ref v30]) md_X12_amount mv_X12_amount lk_RX12_292 rfl (Nat.le_of_ble_eq_true rfl) (by decide) dX12_plateauPart_163 rfl rfl rfl (fun z hz => (c_X12_amount x0 (1 : Int32) (20 : Int32) t29 z hz).1) (fun z hz => (c_X12_amount x0 (1 : Int32) (20 : Int32) t29 z hz).2) (fun z33 _ => ?_)
        show mk_O _ _ _ _ (.int z33.1 :: [.int v32, .ref v30]) _ _
        refine xo_iast dX12_plateauPart_166 (fun t34 => ?_)
        refine xo_aload_n rfl rfl dX12_plateauPart_167 ?_
        refine xo_geta dX12_plateauPart_168 cl_11 fl_RX12_64 rfl (fun v35 => ?_)
        refine xo_iconst kc_3 dX12_plateauPart_171 ?_
        refine xo_dup2 rfl rfl dX12_plateauPart_172 ?_
        refine xo_iald dX12_plateauPart_173 (fun v36 => ?_)
        refine xo_iconst kc_1 dX12_plateauPart_174 ?_
        refine xo_iadd dX12_plateauPart_175 ?_
        refine xo_iast dX12_plateauPart_176 (fun t37 => ?_)
        refine xo_goto (tgt := 225) dX12_plateauPart_177 rfl ?_
        exact xo_vret dX12_plateauPart_225 rfl
      · refine xo_tabo dX12_plateauPart_17 (by have q0 := lv_neT (a := 0) n0 (by decide); have q1 := lv_neT (a := 1) n1 (by decide); have q2 := lv_neT (a := 2) n2 (by decide); omega) rfl ?_
        refine xo_aload_n rfl rfl dX12_plateauPart_180 ?_
        refine xo_geta dX12_plateauPart_181 cl_11 fl_RX12_82 rfl (fun v38 => ?_)
        refine xo_aload_n rfl rfl dX12_plateauPart_184 ?_
        refine xo_geta dX12_plateauPart_185 cl_11 fl_RX12_64 rfl (fun v39 => ?_)
        refine xo_iconst kc_4 dX12_plateauPart_188 ?_
        refine xo_iald dX12_plateauPart_189 (fun v40 => ?_)
        refine xo_aload_n rfl rfl dX12_plateauPart_190 ?_
        refine xo_iconst kc_0 dX12_plateauPart_191 ?_
        refine xo_iload_n rfl rfl dX12_plateauPart_192 ?_
        refine mk_O.callV (N := M_X12_amount) (ci := 11) (q := (RX12, TX12, 64)) (b := x0) (As1 := [.int (0 : Int32), .int ((v2 * v4) - (1 : Int32))]) (S := [.int v40, .ref v38]) md_X12_amount mv_X12_amount lk_RX12_292 rfl (Nat.le_of_ble_eq_true rfl) (by decide) dX12_plateauPart_193 rfl rfl rfl (fun z hz => (c_X12_amount x0 (0 : Int32) ((v2 * v4) - (1 : Int32)) t z hz).1) (fun z hz => (c_X12_amount x0 (0 : Int32) ((v2 * v4) - (1 : Int32)) t z hz).2) (fun z41 _ => ?_)
        show mk_O _ _ _ _ (.int z41.1 :: [.int v40, .ref v38]) _ _
        refine xo_iast dX12_plateauPart_196 (fun t42 => ?_)
        refine xo_aload_n rfl rfl dX12_plateauPart_197 ?_
        refine xo_geta dX12_plateauPart_198 cl_11 fl_RX12_85 rfl (fun v43 => ?_)
        refine xo_aload_n rfl rfl dX12_plateauPart_201 ?_
        refine xo_geta dX12_plateauPart_202 cl_11 fl_RX12_64 rfl (fun v44 => ?_)
        refine xo_iconst kc_4 dX12_plateauPart_205 ?_
        refine xo_iald dX12_plateauPart_206 (fun v45 => ?_)
        refine xo_aload_n rfl rfl dX12_plateauPart_207 ?_
        refine xo_iconst kc_0 dX12_plateauPart_208 ?_
        refine xo_bipush kb_40 dX12_plateauPart_209 ?_
        refine mk_O.callV (N := M_X12_amount) (ci := 11) (q := (RX12, TX12, 64)) (b := x0) (As1 := [.int (0 : Int32), .int (40 : Int32)]) (S := [.int v45, .ref v43]) md_X12_amount mv_X12_amount lk_RX12_292 rfl (Nat.le_of_ble_eq_true rfl) (by decide) dX12_plateauPart_211 rfl rfl rfl (fun z hz => (c_X12_amount x0 (0 : Int32) (40 : Int32) t42 z hz).1) (fun z hz => (c_X12_amount x0 (0 : Int32) (40 : Int32) t42 z hz).2) (fun z46 _ => ?_)
        show mk_O _ _ _ _ (.int z46.1 :: [.int v45, .ref v43]) _ _
        refine xo_iast dX12_plateauPart_214 (fun t47 => ?_)
        refine xo_aload_n rfl rfl dX12_plateauPart_215 ?_
        refine xo_geta dX12_plateauPart_216 cl_11 fl_RX12_64 rfl (fun v48 => ?_)
        refine xo_iconst kc_4 dX12_plateauPart_219 ?_
        refine xo_dup2 rfl rfl dX12_plateauPart_220 ?_
        refine xo_iald dX12_plateauPart_221 (fun v49 => ?_)
        refine xo_iconst kc_1 dX12_plateauPart_222 ?_
        refine xo_iadd dX12_plateauPart_223 ?_
        refine xo_iast dX12_plateauPart_224 (fun t50 => ?_)
        exact xo_vret dX12_plateauPart_225 rfl
theorem c_X12_plateauPart (x0 : Nat) (x1 : Int32) (t : mk_S) (z : Unit × mk_S) (h : F_X12_plateauPart x0 x1 t = some z) : mk_is t x0 11 ∧ mk_Ct M_X12_plateauPart [.ref x0, .int x1] t (mk_wu z.1, z.2) :=
  ⟨(mk_gd_spec h).1, mk_ct (w := mk_wu) (by decide +kernel) (Nat.le_of_ble_eq_true rfl) (p_X12_plateauPart x0 x1 t) z (mk_gd_spec h).2⟩
def B_X12_isFull_75 (t : mk_S) : Option (Int32 × mk_S) := mk_rz (1 : Int32) t
def B_X12_isFull_79 (t : mk_S) : Option (Int32 × mk_S) := mk_rz (0 : Int32) t
def B_X12_isFull_60 (x0 : Nat) (x1 : Int32) (t : mk_S) : Option (Int32 × mk_S) := if x1 = (3 : Int32) then ((mk_ga t x0 11 19).bind fun v1 => (mk_ld 100 t v1 (4 : Int32)).bind fun v2 => if v2 = (4 : Int32) then (B_X12_isFull_75 t) else (B_X12_isFull_79 t)) else (B_X12_isFull_79 t)
def B_X12_isFull_45 (x0 : Nat) (x1 : Int32) (t : mk_S) : Option (Int32 × mk_S) := if x1 = (2 : Int32) then ((mk_ga t x0 11 19).bind fun v1 => (mk_ld 100 t v1 (3 : Int32)).bind fun v2 => if v2 = (4 : Int32) then (B_X12_isFull_75 t) else (B_X12_isFull_60 x0 x1 t)) else (B_X12_isFull_60 x0 x1 t)
def B_X12_isFull_24 (x0 : Nat) (x1 : Int32) (s0 : Int32) (s1 : Int32) (t : mk_S) : Option (Int32 × mk_S) := if s0 = s1 then (if x1 = (1 : Int32) then ((mk_ga t x0 11 19).bind fun v1 => (mk_ld 100 t v1 (2 : Int32)).bind fun v2 => if v2 = (6 : Int32) then (B_X12_isFull_75 t) else (B_X12_isFull_45 x0 x1 t)) else (B_X12_isFull_45 x0 x1 t)) else (mk_rz (1 : Int32) t)
def B_X12_isFull_15 (x0 : Nat) (x1 : Int32) (x2 : Int32) (s0 : Int32) (t : mk_S) : Option (Int32 × mk_S) := if x2 = 0 then (B_X12_isFull_24 x0 x1 s0 (1 : Int32) t) else (B_X12_isFull_24 x0 x1 s0 (0 : Int32) t)
def F_X12_isFull (x0 : Nat) (x1 : Int32) (x2 : Int32) (t : mk_S) : Option (Int32 × mk_S) := mk_gd t x0 11 (if x2 = (40 : Int32) then (mk_rz (1 : Int32) t) else (if x1 = 0 then (B_X12_isFull_15 x0 x1 x2 (1 : Int32) t) else (B_X12_isFull_15 x0 x1 x2 (0 : Int32) t)))
theorem o_X12_isFull_75 (t : mk_S) : mk_O mk_wi M_X12_isFull 75 [none, none, none] [] t (B_X12_isFull_75  t) := by
  unfold B_X12_isFull_75
  refine xo_iconst kc_1 dX12_isFull_75 ?_
  refine xo_goto (tgt := 80) dX12_isFull_76 rfl ?_
  exact xo_zret dX12_isFull_80 rfl
theorem o_X12_isFull_79 (t : mk_S) : mk_O mk_wi M_X12_isFull 79 [none, none, none] [] t (B_X12_isFull_79  t) := by
  unfold B_X12_isFull_79
  refine xo_iconst kc_0 dX12_isFull_79 ?_
  exact xo_zret dX12_isFull_80 rfl
theorem o_X12_isFull_60 (x0 : Nat) (x1 : Int32) (t : mk_S) : mk_O mk_wi M_X12_isFull 60 [some (.ref x0), some (.int x1), none] [] t (B_X12_isFull_60 x0 x1 t) := by
  unfold B_X12_isFull_60
  refine xo_iload_n rfl rfl dX12_isFull_60 ?_
  refine xo_iconst kc_3 dX12_isFull_61 ?_
  refine xo_icmp_ne (tgt := 79) dX12_isFull_62 rfl (fun _ => ?_) (fun _ => ?_)
  · refine xo_aload_n rfl rfl dX12_isFull_65 ?_
    refine xo_geta dX12_isFull_66 cl_11 fl_RX12_64 rfl (fun v1 => ?_)
    refine xo_iconst kc_4 dX12_isFull_69 ?_
    refine xo_iald dX12_isFull_70 (fun v2 => ?_)
    refine xo_iconst kc_4 dX12_isFull_71 ?_
    refine xo_icmp_ne (tgt := 79) dX12_isFull_72 rfl (fun _ => ?_) (fun _ => ?_)
    · exact mk_O.wk (o_X12_isFull_75 t) trivial
    · exact mk_O.wk (o_X12_isFull_79 t) trivial
  · exact mk_O.wk (o_X12_isFull_79 t) trivial
theorem o_X12_isFull_45 (x0 : Nat) (x1 : Int32) (t : mk_S) : mk_O mk_wi M_X12_isFull 45 [some (.ref x0), some (.int x1), none] [] t (B_X12_isFull_45 x0 x1 t) := by
  unfold B_X12_isFull_45
  refine xo_iload_n rfl rfl dX12_isFull_45 ?_
  refine xo_iconst kc_2 dX12_isFull_46 ?_
  refine xo_icmp_ne (tgt := 60) dX12_isFull_47 rfl (fun _ => ?_) (fun _ => ?_)
  · refine xo_aload_n rfl rfl dX12_isFull_50 ?_
    refine xo_geta dX12_isFull_51 cl_11 fl_RX12_64 rfl (fun v1 => ?_)
    refine xo_iconst kc_3 dX12_isFull_54 ?_
    refine xo_iald dX12_isFull_55 (fun v2 => ?_)
    refine xo_iconst kc_4 dX12_isFull_56 ?_
    refine xo_icmp_eq (tgt := 75) dX12_isFull_57 rfl (fun _ => ?_) (fun _ => ?_)
    · exact mk_O.wk (o_X12_isFull_75 t) trivial
    · exact mk_O.wk (o_X12_isFull_60 x0 x1 t) ⟨rfl, ⟨rfl, trivial⟩⟩
  · exact mk_O.wk (o_X12_isFull_60 x0 x1 t) ⟨rfl, ⟨rfl, trivial⟩⟩
theorem o_X12_isFull_24 (x0 : Nat) (x1 : Int32) (s0 : Int32) (s1 : Int32) (t : mk_S) : mk_O mk_wi M_X12_isFull 24 [some (.ref x0), some (.int x1), none] [.int s1, .int s0] t (B_X12_isFull_24 x0 x1 s0 s1 t) := by
  unfold B_X12_isFull_24
  refine xo_icmp_eq (tgt := 29) dX12_isFull_24 rfl (fun _ => ?_) (fun _ => ?_)
  · refine xo_iload_n rfl rfl dX12_isFull_29 ?_
    refine xo_iconst kc_1 dX12_isFull_30 ?_
    refine xo_icmp_ne (tgt := 45) dX12_isFull_31 rfl (fun _ => ?_) (fun _ => ?_)
    · refine xo_aload_n rfl rfl dX12_isFull_34 ?_
      refine xo_geta dX12_isFull_35 cl_11 fl_RX12_64 rfl (fun v1 => ?_)
      refine xo_iconst kc_2 dX12_isFull_38 ?_
      refine xo_iald dX12_isFull_39 (fun v2 => ?_)
      refine xo_bipush kb_6 dX12_isFull_40 ?_
      refine xo_icmp_eq (tgt := 75) dX12_isFull_42 rfl (fun _ => ?_) (fun _ => ?_)
      · exact mk_O.wk (o_X12_isFull_75 t) trivial
      · exact mk_O.wk (o_X12_isFull_45 x0 x1 t) ⟨rfl, ⟨rfl, trivial⟩⟩
    · exact mk_O.wk (o_X12_isFull_45 x0 x1 t) ⟨rfl, ⟨rfl, trivial⟩⟩
  · refine xo_iconst kc_1 dX12_isFull_27 ?_
    exact xo_zret dX12_isFull_28 rfl
theorem o_X12_isFull_15 (x0 : Nat) (x1 : Int32) (x2 : Int32) (s0 : Int32) (t : mk_S) : mk_O mk_wi M_X12_isFull 15 [some (.ref x0), some (.int x1), some (.int x2)] [.int s0] t (B_X12_isFull_15 x0 x1 x2 s0 t) := by
  unfold B_X12_isFull_15
  refine xo_iload_n rfl rfl dX12_isFull_15 ?_
  refine xo_if_ne (tgt := 23) dX12_isFull_16 rfl (fun _ => ?_) (fun _ => ?_)
  · refine xo_iconst kc_1 dX12_isFull_19 ?_
    refine xo_goto (tgt := 24) dX12_isFull_20 rfl ?_
    exact mk_O.wk (o_X12_isFull_24 x0 x1 s0 (1 : Int32) t) ⟨rfl, ⟨rfl, trivial⟩⟩
  · refine xo_iconst kc_0 dX12_isFull_23 ?_
    exact mk_O.wk (o_X12_isFull_24 x0 x1 s0 (0 : Int32) t) ⟨rfl, ⟨rfl, trivial⟩⟩
theorem p_X12_isFull (x0 : Nat) (x1 : Int32) (x2 : Int32) (t : mk_S) : mk_O mk_wi M_X12_isFull 0 [some (.ref x0), some (.int x1), some (.int x2)] [] t (if x2 = (40 : Int32) then (mk_rz (1 : Int32) t) else (if x1 = 0 then (B_X12_isFull_15 x0 x1 x2 (1 : Int32) t) else (B_X12_isFull_15 x0 x1 x2 (0 : Int32) t))) := by
  refine xo_iload_n rfl rfl dX12_isFull_0 ?_
  refine xo_bipush kb_40 dX12_isFull_1 ?_
  refine xo_icmp_eq (tgt := 27) dX12_isFull_3 rfl (fun _ => ?_) (fun _ => ?_)
  · refine xo_iconst kc_1 dX12_isFull_27 ?_
    exact xo_zret dX12_isFull_28 rfl
  · refine xo_iload_n rfl rfl dX12_isFull_6 ?_
    refine xo_if_ne (tgt := 14) dX12_isFull_7 rfl (fun _ => ?_) (fun _ => ?_)
    · refine xo_iconst kc_1 dX12_isFull_10 ?_
      refine xo_goto (tgt := 15) dX12_isFull_11 rfl ?_
      exact mk_O.wk (o_X12_isFull_15 x0 x1 x2 (1 : Int32) t) ⟨rfl, ⟨rfl, ⟨rfl, trivial⟩⟩⟩
    · refine xo_iconst kc_0 dX12_isFull_14 ?_
      exact mk_O.wk (o_X12_isFull_15 x0 x1 x2 (0 : Int32) t) ⟨rfl, ⟨rfl, ⟨rfl, trivial⟩⟩⟩
theorem c_X12_isFull (x0 : Nat) (x1 : Int32) (x2 : Int32) (t : mk_S) (z : Int32 × mk_S) (h : F_X12_isFull x0 x1 x2 t = some z) : mk_is t x0 11 ∧ mk_Ct M_X12_isFull [.ref x0, .int x1, .int x2] t (mk_wi z.1, z.2) :=
  ⟨(mk_gd_spec h).1, mk_ct (w := mk_wi) (by decide +kernel) (Nat.le_of_ble_eq_true rfl) (p_X12_isFull x0 x1 x2 t) z (mk_gd_spec h).2⟩
def B_X12_plateauClause_33 (x0 : Nat) (x1 : Int32) (x2 : Int32) (x3 : Int32) (t : mk_S) : Option (Unit × mk_S) := if x3 = (4 : Int32) then ((F_X12_fails x0 (0 : Int32) x2 t).bind fun z1 => some ((), z1.2)) else ((F_X12_isFull x0 x3 x1 t).bind fun z2 => if z2.1 = 0 then ((mk_gi z2.2 x0 11 28).bind fun v3 => (F_X12_plateauWord x3 z2.2).bind fun z4 => (mk_sln z4.1 z4.2).bind fun z5 => (mk_pi z5.2 x0 11 28 (v3 + z5.1)).bind fun t6 => (F_X12_plateauPart x0 x3 t6).bind fun z7 => some ((), z7.2)) else ((F_X12_fails x0 (4 : Int32) x2 z2.2).bind fun z8 => some ((), z8.2)))
def B_X12_plateauClause_11 : Nat → Nat → Int32 → Int32 → Int32 → mk_S → Option (Unit × mk_S)
  | 0, _, _, _, _, _ => none
  | n + 1, x0, x1, x2, x3, t => if (4 : Int32) ≤ x3 then (B_X12_plateauClause_33 x0 x1 x2 x3 t) else ((F_X12_plateauWord x3 t).bind fun z1 => (F_X12_stood x0 z1.1 z1.2).bind fun z2 => if z2.1 = 0 then (B_X12_plateauClause_11 n x0 x1 x2 (x3 + (1 : Int32)) z2.2) else (B_X12_plateauClause_33 x0 x1 x2 x3 z2.2))
def F_X12_plateauClause (x0 : Nat) (x1 : Int32) (t : mk_S) : Option (Unit × mk_S) := mk_gd t x0 11 ((F_X12_blanks x0 t).bind fun z1 => (mk_gi z1.2 x0 11 28).bind fun v2 => B_X12_plateauClause_11 mk_fu x0 x1 v2 (0 : Int32) z1.2)
theorem o_X12_plateauClause_33 (x0 : Nat) (x1 : Int32) (x2 : Int32) (x3 : Int32) (t : mk_S) : mk_O mk_wu M_X12_plateauClause 33 [some (.ref x0), some (.int x1), some (.int x2), some (.int x3)] [] t (B_X12_plateauClause_33 x0 x1 x2 x3 t) := by
  unfold B_X12_plateauClause_33
  refine xo_iload_n rfl rfl dX12_plateauClause_33 ?_
  refine xo_iconst kc_4 dX12_plateauClause_34 ?_
  refine xo_icmp_ne (tgt := 45) dX12_plateauClause_35 rfl (fun _ => ?_) (fun _ => ?_)
  · refine xo_aload_n rfl rfl dX12_plateauClause_38 ?_
    refine xo_iconst kc_0 dX12_plateauClause_39 ?_
    refine xo_iload_n rfl rfl dX12_plateauClause_40 ?_
    refine mk_O.callV (N := M_X12_fails) (ci := 11) (q := (RX12, TX12, 64)) (b := x0) (As1 := [.int (0 : Int32), .int x2]) (S := []) md_X12_fails mv_X12_fails lk_RX12_227 rfl (Nat.le_of_ble_eq_true rfl) (by decide) dX12_plateauClause_41 rfl rfl rfl (fun z hz => (c_X12_fails x0 (0 : Int32) x2 t z hz).1) (fun z hz => (c_X12_fails x0 (0 : Int32) x2 t z hz).2) (fun z1 _ => ?_)
    show mk_O _ _ _ _ [] _ _
    exact xo_vret dX12_plateauClause_44 rfl
  · refine xo_aload_n rfl rfl dX12_plateauClause_45 ?_
    refine xo_iload_n rfl rfl dX12_plateauClause_46 ?_
    refine xo_iload_n rfl rfl dX12_plateauClause_47 ?_
    refine mk_O.callV (N := M_X12_isFull) (ci := 11) (q := (RX12, TX12, 64)) (b := x0) (As1 := [.int x3, .int x1]) (S := []) md_X12_isFull mv_X12_isFull lk_RX12_299 rfl (Nat.le_of_ble_eq_true rfl) (by decide) dX12_plateauClause_48 rfl rfl rfl (fun z hz => (c_X12_isFull x0 x3 x1 t z hz).1) (fun z hz => (c_X12_isFull x0 x3 x1 t z hz).2) (fun z2 _ => ?_)
    show mk_O _ _ _ _ (.int z2.1 :: []) _ _
    refine xo_if_eq (tgt := 61) dX12_plateauClause_51 rfl (fun _ => ?_) (fun _ => ?_)
    · refine xo_aload_n rfl rfl dX12_plateauClause_61 ?_
      refine xo_dup rfl dX12_plateauClause_62 ?_
      refine xo_geti dX12_plateauClause_63 cl_11 fl_RX12_192 rfl (fun v3 => ?_)
      refine xo_iload_n rfl rfl dX12_plateauClause_66 ?_
      refine mk_O.callS (N := M_X12_plateauWord) (As := [.int x3]) (S := [.int v3, .ref x0]) md_X12_plateauWord ms_X12_plateauWord lk_RX12_296 rfl (Nat.le_of_ble_eq_true rfl) (by decide) dX12_plateauClause_67 rfl (fun z hz => c_X12_plateauWord x3 z2.2 z hz) (fun z4 _ => ?_)
      show mk_O _ _ _ _ (.ref z4.1 :: [.int v3, .ref x0]) _ _
      refine xo_sln (mk_w6 (i := 167) rfl rfl) (Nat.le_of_ble_eq_true rfl) (by decide) dX12_plateauClause_70 (fun z5 _ => ?_)
      refine xo_iadd dX12_plateauClause_73 ?_
      refine xo_puti dX12_plateauClause_74 cl_11 fl_RX12_192 rfl ft_11_28 (fun t6 => ?_)
      refine xo_aload_n rfl rfl dX12_plateauClause_77 ?_
      refine xo_iload_n rfl rfl dX12_plateauClause_78 ?_
      refine mk_O.callV (N := M_X12_plateauPart) (ci := 11) (q := (RX12, TX12, 64)) (b := x0) (As1 := [.int x3]) (S := []) md_X12_plateauPart mv_X12_plateauPart lk_RX12_303 rfl (Nat.le_of_ble_eq_true rfl) (by decide) dX12_plateauClause_79 rfl rfl rfl (fun z hz => (c_X12_plateauPart x0 x3 t6 z hz).1) (fun z hz => (c_X12_plateauPart x0 x3 t6 z hz).2) (fun z7 _ => ?_)
      show mk_O _ _ _ _ [] _ _
      exact xo_vret dX12_plateauClause_82 rfl
    · refine xo_aload_n rfl rfl dX12_plateauClause_54 ?_
      refine xo_iconst kc_4 dX12_plateauClause_55 ?_
      refine xo_iload_n rfl rfl dX12_plateauClause_56 ?_
      refine mk_O.callV (N := M_X12_fails) (ci := 11) (q := (RX12, TX12, 64)) (b := x0) (As1 := [.int (4 : Int32), .int x2]) (S := []) md_X12_fails mv_X12_fails lk_RX12_227 rfl (Nat.le_of_ble_eq_true rfl) (by decide) dX12_plateauClause_57 rfl rfl rfl (fun z hz => (c_X12_fails x0 (4 : Int32) x2 z2.2 z hz).1) (fun z hz => (c_X12_fails x0 (4 : Int32) x2 z2.2 z hz).2) (fun z8 _ => ?_)
      show mk_O _ _ _ _ [] _ _
      exact xo_vret dX12_plateauClause_60 rfl
theorem o_X12_plateauClause_11 : ∀ (n : Nat) (x0 : Nat) (x1 : Int32) (x2 : Int32) (x3 : Int32) (t : mk_S), mk_O mk_wu M_X12_plateauClause 11 [some (.ref x0), some (.int x1), some (.int x2), some (.int x3)] [] t (B_X12_plateauClause_11 n x0 x1 x2 x3 t) := by
  intro n
  induction n with
  | zero =>
    intro x0 x1 x2 x3 t
    exact mk_O.none
  | succ n ih =>
    intro x0 x1 x2 x3 t
    rw [B_X12_plateauClause_11]
    refine xo_iload_n rfl rfl dX12_plateauClause_11 ?_
    refine xo_iconst kc_4 dX12_plateauClause_12 ?_
    refine xo_icmp_ge (tgt := 33) dX12_plateauClause_13 rfl (fun _ => ?_) (fun _ => ?_)
    · exact mk_O.wk (o_X12_plateauClause_33 x0 x1 x2 x3 t) ⟨rfl, ⟨rfl, ⟨rfl, ⟨rfl, trivial⟩⟩⟩⟩
    · refine xo_aload_n rfl rfl dX12_plateauClause_16 ?_
      refine xo_iload_n rfl rfl dX12_plateauClause_17 ?_
      refine mk_O.callS (N := M_X12_plateauWord) (As := [.int x3]) (S := [.ref x0]) md_X12_plateauWord ms_X12_plateauWord lk_RX12_296 rfl (Nat.le_of_ble_eq_true rfl) (by decide) dX12_plateauClause_18 rfl (fun z hz => c_X12_plateauWord x3 t z hz) (fun z1 _ => ?_)
      show mk_O _ _ _ _ (.ref z1.1 :: [.ref x0]) _ _
      refine mk_O.callV (N := M_X12_stood) (ci := 11) (q := (RX12, TX12, 64)) (b := x0) (As1 := [.ref z1.1]) (S := []) md_X12_stood mv_X12_stood lk_RX12_214 rfl (Nat.le_of_ble_eq_true rfl) (by decide) dX12_plateauClause_21 rfl rfl rfl (fun z hz => (c_X12_stood x0 z1.1 z1.2 z hz).1) (fun z hz => (c_X12_stood x0 z1.1 z1.2 z hz).2) (fun z2 _ => ?_)
      show mk_O _ _ _ _ (.int z2.1 :: []) _ _
      refine xo_if_ne (tgt := 33) dX12_plateauClause_24 rfl (fun _ => ?_) (fun _ => ?_)
      · refine xo_iinc rfl (congrArg _ kc_1) (by decide) (mk_p1_v rfl rfl) dX12_plateauClause_27 ?_
        refine xo_goto (tgt := 11) dX12_plateauClause_30 rfl ?_
        exact mk_O.wk (ih x0 x1 x2 (x3 + (1 : Int32)) z2.2) ⟨rfl, ⟨rfl, ⟨rfl, ⟨rfl, trivial⟩⟩⟩⟩
      · exact mk_O.wk (o_X12_plateauClause_33 x0 x1 x2 x3 z2.2) ⟨rfl, ⟨rfl, ⟨rfl, ⟨rfl, trivial⟩⟩⟩⟩
theorem p_X12_plateauClause (x0 : Nat) (x1 : Int32) (t : mk_S) : mk_O mk_wu M_X12_plateauClause 0 [some (.ref x0), some (.int x1), none, none] [] t ((F_X12_blanks x0 t).bind fun z1 => (mk_gi z1.2 x0 11 28).bind fun v2 => B_X12_plateauClause_11 mk_fu x0 x1 v2 (0 : Int32) z1.2) := by
  refine xo_aload_n rfl rfl dX12_plateauClause_0 ?_
  refine mk_O.callV (N := M_X12_blanks) (ci := 11) (q := (RX12, TX12, 64)) (b := x0) (As1 := []) (S := []) md_X12_blanks mv_X12_blanks lk_RX12_211 rfl (Nat.le_of_ble_eq_true rfl) (by decide) dX12_plateauClause_1 rfl rfl rfl (fun z hz => (c_X12_blanks x0 t z hz).1) (fun z hz => (c_X12_blanks x0 t z hz).2) (fun z1 _ => ?_)
  show mk_O _ _ _ _ [] _ _
  refine xo_aload_n rfl rfl dX12_plateauClause_4 ?_
  refine xo_geti dX12_plateauClause_5 cl_11 fl_RX12_192 rfl (fun v2 => ?_)
  refine xo_istore_n rfl (by decide) (mk_p1_v rfl rfl) dX12_plateauClause_8 ?_
  refine xo_iconst kc_0 dX12_plateauClause_9 ?_
  refine xo_istore_n rfl (by decide) (mk_p1_v rfl rfl) dX12_plateauClause_10 ?_
  exact mk_O.wk (o_X12_plateauClause_11 mk_fu x0 x1 v2 (0 : Int32) z1.2) ⟨rfl, ⟨rfl, ⟨rfl, ⟨rfl, trivial⟩⟩⟩⟩
theorem c_X12_plateauClause (x0 : Nat) (x1 : Int32) (t : mk_S) (z : Unit × mk_S) (h : F_X12_plateauClause x0 x1 t = some z) : mk_is t x0 11 ∧ mk_Ct M_X12_plateauClause [.ref x0, .int x1] t (mk_wu z.1, z.2) :=
  ⟨(mk_gd_spec h).1, mk_ct (w := mk_wu) (by decide +kernel) (Nat.le_of_ble_eq_true rfl) (p_X12_plateauClause x0 x1 t) z (mk_gd_spec h).2⟩
def B_X12_copies_2 : Nat → Nat → Nat → Int32 → mk_S → Option (Unit × mk_S)
  | 0, _, _, _, _ => none
  | n + 1, x0, x1, x2, t => (mk_len t x0).bind fun v1 => if v1 ≤ x2 then (some ((), t)) else ((mk_ld 100 t x0 x2).bind fun v2 => (mk_st 100 t x1 x2 v2).bind fun t3 => B_X12_copies_2 n x0 x1 (x2 + (1 : Int32)) t3)
def F_X12_copies (x0 : Nat) (x1 : Nat) (t : mk_S) : Option (Unit × mk_S) := B_X12_copies_2 mk_fu x0 x1 (0 : Int32) t
theorem o_X12_copies_2 : ∀ (n : Nat) (x0 : Nat) (x1 : Nat) (x2 : Int32) (t : mk_S), mk_O mk_wu M_X12_copies 2 [some (.ref x0), some (.ref x1), some (.int x2)] [] t (B_X12_copies_2 n x0 x1 x2 t) := by
  intro n
  induction n with
  | zero =>
    intro x0 x1 x2 t
    exact mk_O.none
  | succ n ih =>
    intro x0 x1 x2 t
    rw [B_X12_copies_2]
    refine xo_iload_n rfl rfl dX12_copies_2 ?_
    refine xo_aload_n rfl rfl dX12_copies_3 ?_
    refine xo_alen dX12_copies_4 (fun v1 => ?_)
    refine xo_icmp_ge (tgt := 20) dX12_copies_5 rfl (fun _ => ?_) (fun _ => ?_)
    · exact xo_vret dX12_copies_20 rfl
    · refine xo_aload_n rfl rfl dX12_copies_8 ?_
      refine xo_iload_n rfl rfl dX12_copies_9 ?_
      refine xo_aload_n rfl rfl dX12_copies_10 ?_
      refine xo_iload_n rfl rfl dX12_copies_11 ?_
      refine xo_iald dX12_copies_12 (fun v2 => ?_)
      refine xo_iast dX12_copies_13 (fun t3 => ?_)
      refine xo_iinc rfl (congrArg _ kc_1) (by decide) (mk_p1_v rfl rfl) dX12_copies_14 ?_
      refine xo_goto (tgt := 2) dX12_copies_17 rfl ?_
      exact mk_O.wk (ih x0 x1 (x2 + (1 : Int32)) t3) ⟨rfl, ⟨rfl, ⟨rfl, trivial⟩⟩⟩
theorem p_X12_copies (x0 : Nat) (x1 : Nat) (t : mk_S) : mk_O mk_wu M_X12_copies 0 [some (.ref x0), some (.ref x1), none] [] t (B_X12_copies_2 mk_fu x0 x1 (0 : Int32) t) := by
  refine xo_iconst kc_0 dX12_copies_0 ?_
  refine xo_istore_n rfl (by decide) (mk_p1_v rfl rfl) dX12_copies_1 ?_
  exact mk_O.wk (o_X12_copies_2 mk_fu x0 x1 (0 : Int32) t) ⟨rfl, ⟨rfl, ⟨rfl, trivial⟩⟩⟩
theorem c_X12_copies (x0 : Nat) (x1 : Nat) (t : mk_S) (z : Unit × mk_S) (h : F_X12_copies x0 x1 t = some z) : mk_Ct M_X12_copies [.ref x0, .ref x1] t (mk_wu z.1, z.2) :=
  mk_ct (w := mk_wu) (by decide +kernel) (Nat.le_of_ble_eq_true rfl) (p_X12_copies x0 x1 t) z h
def B_X12_goesOn_63 (x0 : Nat) (s0 : Int32) (t : mk_S) : Option (Int32 × mk_S) := (mk_gi t x0 11 28).bind fun v1 => (mk_pi t x0 11 28 (v1 + (1 : Int32))).bind fun t2 => mk_rz s0 t2
def B_X12_goesOn_62 (x0 : Nat) (t : mk_S) : Option (Int32 × mk_S) := B_X12_goesOn_63 x0 (0 : Int32) t
def B_X12_goesOn_40 (x0 : Nat) (t : mk_S) : Option (Int32 × mk_S) := (mk_gi t x0 11 29).bind fun v1 => if v1 = 0 then ((mk_gi t x0 11 28).bind fun v2 => (mk_gi t x0 11 27).bind fun v3 => if v3 ≤ v2 then (B_X12_goesOn_62 x0 t) else (B_X12_goesOn_63 x0 (1 : Int32) t)) else (B_X12_goesOn_62 x0 t)
def F_X12_goesOn (x0 : Nat) (t : mk_S) : Option (Int32 × mk_S) := mk_gd t x0 11 ((F_X12_blanks x0 t).bind fun z1 => (mk_gi z1.2 x0 11 29).bind fun v2 => if v2 = 0 then ((mk_gi z1.2 x0 11 28).bind fun v3 => (mk_gi z1.2 x0 11 27).bind fun v4 => if v4 ≤ v3 then (B_X12_goesOn_40 x0 z1.2) else ((F_X12_sign x0 z1.2).bind fun z5 => if z5.1 = (59 : Int32) then (B_X12_goesOn_40 x0 z5.2) else ((mk_gi z5.2 x0 11 28).bind fun v6 => (F_X12_fails x0 (0 : Int32) v6 z5.2).bind fun z7 => B_X12_goesOn_40 x0 z7.2))) else (B_X12_goesOn_40 x0 z1.2))
theorem o_X12_goesOn_63 (x0 : Nat) (s0 : Int32) (t : mk_S) : mk_O mk_wi M_X12_goesOn 63 [some (.ref x0), none] [.int s0] t (B_X12_goesOn_63 x0 s0 t) := by
  unfold B_X12_goesOn_63
  refine xo_istore_n rfl (by decide) (mk_p1_v rfl rfl) dX12_goesOn_63 ?_
  refine xo_aload_n rfl rfl dX12_goesOn_64 ?_
  refine xo_dup rfl dX12_goesOn_65 ?_
  refine xo_geti dX12_goesOn_66 cl_11 fl_RX12_192 rfl (fun v1 => ?_)
  refine xo_iconst kc_1 dX12_goesOn_69 ?_
  refine xo_iadd dX12_goesOn_70 ?_
  refine xo_puti dX12_goesOn_71 cl_11 fl_RX12_192 rfl ft_11_28 (fun t2 => ?_)
  refine xo_iload_n rfl rfl dX12_goesOn_74 ?_
  exact xo_zret dX12_goesOn_75 rfl
theorem o_X12_goesOn_62 (x0 : Nat) (t : mk_S) : mk_O mk_wi M_X12_goesOn 62 [some (.ref x0), none] [] t (B_X12_goesOn_62 x0 t) := by
  unfold B_X12_goesOn_62
  refine xo_iconst kc_0 dX12_goesOn_62 ?_
  exact mk_O.wk (o_X12_goesOn_63 x0 (0 : Int32) t) ⟨rfl, trivial⟩
theorem o_X12_goesOn_40 (x0 : Nat) (t : mk_S) : mk_O mk_wi M_X12_goesOn 40 [some (.ref x0), none] [] t (B_X12_goesOn_40 x0 t) := by
  unfold B_X12_goesOn_40
  refine xo_aload_n rfl rfl dX12_goesOn_40 ?_
  refine xo_geti dX12_goesOn_41 cl_11 fl_RX12_189 rfl (fun v1 => ?_)
  refine xo_if_ne (tgt := 62) dX12_goesOn_44 rfl (fun _ => ?_) (fun _ => ?_)
  · refine xo_aload_n rfl rfl dX12_goesOn_47 ?_
    refine xo_geti dX12_goesOn_48 cl_11 fl_RX12_192 rfl (fun v2 => ?_)
    refine xo_aload_n rfl rfl dX12_goesOn_51 ?_
    refine xo_geti dX12_goesOn_52 cl_11 fl_RX12_163 rfl (fun v3 => ?_)
    refine xo_icmp_ge (tgt := 62) dX12_goesOn_55 rfl (fun _ => ?_) (fun _ => ?_)
    · exact mk_O.wk (o_X12_goesOn_62 x0 t) ⟨rfl, trivial⟩
    · refine xo_iconst kc_1 dX12_goesOn_58 ?_
      refine xo_goto (tgt := 63) dX12_goesOn_59 rfl ?_
      exact mk_O.wk (o_X12_goesOn_63 x0 (1 : Int32) t) ⟨rfl, trivial⟩
  · exact mk_O.wk (o_X12_goesOn_62 x0 t) ⟨rfl, trivial⟩
theorem p_X12_goesOn (x0 : Nat) (t : mk_S) : mk_O mk_wi M_X12_goesOn 0 [some (.ref x0), none] [] t ((F_X12_blanks x0 t).bind fun z1 => (mk_gi z1.2 x0 11 29).bind fun v2 => if v2 = 0 then ((mk_gi z1.2 x0 11 28).bind fun v3 => (mk_gi z1.2 x0 11 27).bind fun v4 => if v4 ≤ v3 then (B_X12_goesOn_40 x0 z1.2) else ((F_X12_sign x0 z1.2).bind fun z5 => if z5.1 = (59 : Int32) then (B_X12_goesOn_40 x0 z5.2) else ((mk_gi z5.2 x0 11 28).bind fun v6 => (F_X12_fails x0 (0 : Int32) v6 z5.2).bind fun z7 => B_X12_goesOn_40 x0 z7.2))) else (B_X12_goesOn_40 x0 z1.2)) := by
  refine xo_aload_n rfl rfl dX12_goesOn_0 ?_
  refine mk_O.callV (N := M_X12_blanks) (ci := 11) (q := (RX12, TX12, 64)) (b := x0) (As1 := []) (S := []) md_X12_blanks mv_X12_blanks lk_RX12_211 rfl (Nat.le_of_ble_eq_true rfl) (by decide) dX12_goesOn_1 rfl rfl rfl (fun z hz => (c_X12_blanks x0 t z hz).1) (fun z hz => (c_X12_blanks x0 t z hz).2) (fun z1 _ => ?_)
  show mk_O _ _ _ _ [] _ _
  refine xo_aload_n rfl rfl dX12_goesOn_4 ?_
  refine xo_geti dX12_goesOn_5 cl_11 fl_RX12_189 rfl (fun v2 => ?_)
  refine xo_if_ne (tgt := 40) dX12_goesOn_8 rfl (fun _ => ?_) (fun _ => ?_)
  · refine xo_aload_n rfl rfl dX12_goesOn_11 ?_
    refine xo_geti dX12_goesOn_12 cl_11 fl_RX12_192 rfl (fun v3 => ?_)
    refine xo_aload_n rfl rfl dX12_goesOn_15 ?_
    refine xo_geti dX12_goesOn_16 cl_11 fl_RX12_163 rfl (fun v4 => ?_)
    refine xo_icmp_ge (tgt := 40) dX12_goesOn_19 rfl (fun _ => ?_) (fun _ => ?_)
    · exact mk_O.wk (o_X12_goesOn_40 x0 z1.2) ⟨rfl, trivial⟩
    · refine xo_aload_n rfl rfl dX12_goesOn_22 ?_
      refine mk_O.callV (N := M_X12_sign) (ci := 11) (q := (RX12, TX12, 64)) (b := x0) (As1 := []) (S := []) md_X12_sign mv_X12_sign lk_RX12_195 rfl (Nat.le_of_ble_eq_true rfl) (by decide) dX12_goesOn_23 rfl rfl rfl (fun z hz => (c_X12_sign x0 z1.2 z hz).1) (fun z hz => (c_X12_sign x0 z1.2 z hz).2) (fun z5 _ => ?_)
      show mk_O _ _ _ _ (.int z5.1 :: []) _ _
      refine xo_bipush kb_59 dX12_goesOn_26 ?_
      refine xo_icmp_eq (tgt := 40) dX12_goesOn_28 rfl (fun _ => ?_) (fun _ => ?_)
      · exact mk_O.wk (o_X12_goesOn_40 x0 z5.2) ⟨rfl, trivial⟩
      · refine xo_aload_n rfl rfl dX12_goesOn_31 ?_
        refine xo_iconst kc_0 dX12_goesOn_32 ?_
        refine xo_aload_n rfl rfl dX12_goesOn_33 ?_
        refine xo_geti dX12_goesOn_34 cl_11 fl_RX12_192 rfl (fun v6 => ?_)
        refine mk_O.callV (N := M_X12_fails) (ci := 11) (q := (RX12, TX12, 64)) (b := x0) (As1 := [.int (0 : Int32), .int v6]) (S := []) md_X12_fails mv_X12_fails lk_RX12_227 rfl (Nat.le_of_ble_eq_true rfl) (by decide) dX12_goesOn_37 rfl rfl rfl (fun z hz => (c_X12_fails x0 (0 : Int32) v6 z5.2 z hz).1) (fun z hz => (c_X12_fails x0 (0 : Int32) v6 z5.2 z hz).2) (fun z7 _ => ?_)
        show mk_O _ _ _ _ [] _ _
        exact mk_O.wk (o_X12_goesOn_40 x0 z7.2) ⟨rfl, trivial⟩
  · exact mk_O.wk (o_X12_goesOn_40 x0 z1.2) ⟨rfl, trivial⟩
theorem c_X12_goesOn (x0 : Nat) (t : mk_S) (z : Int32 × mk_S) (h : F_X12_goesOn x0 t = some z) : mk_is t x0 11 ∧ mk_Ct M_X12_goesOn [.ref x0] t (mk_wi z.1, z.2) :=
  ⟨(mk_gd_spec h).1, mk_ct (w := mk_wi) (by decide +kernel) (Nat.le_of_ble_eq_true rfl) (p_X12_goesOn x0 t) z (mk_gd_spec h).2⟩
def F_X12_starts (x0 : Nat) (t : mk_S) : Option (Unit × mk_S) := mk_gd t x0 11 ((mk_pi t x0 11 28 (0 : Int32)).bind fun t1 => (mk_pi t1 x0 11 29 (0 : Int32)).bind fun t2 => (mk_pi t2 x0 11 32 (0 : Int32)).bind fun t3 => (mk_pi t3 x0 11 33 (0 : Int32)).bind fun t4 => (mk_pi t4 x0 11 34 (0 : Int32)).bind fun t5 => some ((), t5))
theorem p_X12_starts (x0 : Nat) (t : mk_S) : mk_O mk_wu M_X12_starts 0 [some (.ref x0)] [] t ((mk_pi t x0 11 28 (0 : Int32)).bind fun t1 => (mk_pi t1 x0 11 29 (0 : Int32)).bind fun t2 => (mk_pi t2 x0 11 32 (0 : Int32)).bind fun t3 => (mk_pi t3 x0 11 33 (0 : Int32)).bind fun t4 => (mk_pi t4 x0 11 34 (0 : Int32)).bind fun t5 => some ((), t5)) := by
  refine xo_aload_n rfl rfl dX12_starts_0 ?_
  refine xo_iconst kc_0 dX12_starts_1 ?_
  refine xo_puti dX12_starts_2 cl_11 fl_RX12_192 rfl ft_11_28 (fun t1 => ?_)
  refine xo_aload_n rfl rfl dX12_starts_5 ?_
  refine xo_iconst kc_0 dX12_starts_6 ?_
  refine xo_puti dX12_starts_7 cl_11 fl_RX12_189 rfl ft_11_29 (fun t2 => ?_)
  refine xo_aload_n rfl rfl dX12_starts_10 ?_
  refine xo_iconst kc_0 dX12_starts_11 ?_
  refine xo_puti dX12_starts_12 cl_11 fl_RX12_221 rfl ft_11_32 (fun t3 => ?_)
  refine xo_aload_n rfl rfl dX12_starts_15 ?_
  refine xo_iconst kc_0 dX12_starts_16 ?_
  refine xo_puti dX12_starts_17 cl_11 fl_RX12_262 rfl ft_11_33 (fun t4 => ?_)
  refine xo_aload_n rfl rfl dX12_starts_20 ?_
  refine xo_iconst kc_0 dX12_starts_21 ?_
  refine xo_puti dX12_starts_22 cl_11 fl_RX12_224 rfl ft_11_34 (fun t5 => ?_)
  exact xo_vret dX12_starts_25 rfl
theorem c_X12_starts (x0 : Nat) (t : mk_S) (z : Unit × mk_S) (h : F_X12_starts x0 t = some z) : mk_is t x0 11 ∧ mk_Ct M_X12_starts [.ref x0] t (mk_wu z.1, z.2) :=
  ⟨(mk_gd_spec h).1, mk_ct (w := mk_wu) (by decide +kernel) (Nat.le_of_ble_eq_true rfl) (p_X12_starts x0 t) z (mk_gd_spec h).2⟩
def B_X12_readsAll_28 : Nat → Nat → Int32 → Int32 → mk_S → Option (Unit × mk_S)
  | 0, _, _, _, _ => none
  | n + 1, x0, x1, x2, t => if x2 = 0 then ((mk_pi t x0 11 27 (0 : Int32)).bind fun t1 => some ((), t1)) else ((F_X12_plateauClause x0 x1 t).bind fun z2 => (F_X12_goesOn x0 z2.2).bind fun z3 => B_X12_readsAll_28 n x0 (x1 + (1 : Int32)) z3.1 z3.2)
def B_X12_readsAll_6 : Nat → Nat → Int32 → mk_S → Option (Unit × mk_S)
  | 0, _, _, _ => none
  | n + 1, x0, x1, t => if (5 : Int32) ≤ x1 then (B_X12_readsAll_28 mk_fu x0 (0 : Int32) (1 : Int32) t) else ((mk_ga t x0 11 19).bind fun v1 => (mk_st 100 t v1 x1 (0 : Int32)).bind fun t2 => B_X12_readsAll_6 n x0 (x1 + (1 : Int32)) t2)
def F_X12_readsAll (x0 : Nat) (t : mk_S) : Option (Unit × mk_S) := mk_gd t x0 11 ((F_X12_starts x0 t).bind fun z1 => B_X12_readsAll_6 mk_fu x0 (0 : Int32) z1.2)
theorem o_X12_readsAll_28 : ∀ (n : Nat) (x0 : Nat) (x1 : Int32) (x2 : Int32) (t : mk_S), mk_O mk_wu M_X12_readsAll 28 [some (.ref x0), some (.int x1), some (.int x2)] [] t (B_X12_readsAll_28 n x0 x1 x2 t) := by
  intro n
  induction n with
  | zero =>
    intro x0 x1 x2 t
    exact mk_O.none
  | succ n ih =>
    intro x0 x1 x2 t
    rw [B_X12_readsAll_28]
    refine xo_iload_n rfl rfl dX12_readsAll_28 ?_
    refine xo_if_eq (tgt := 48) dX12_readsAll_29 rfl (fun _ => ?_) (fun _ => ?_)
    · refine xo_aload_n rfl rfl dX12_readsAll_48 ?_
      refine xo_iconst kc_0 dX12_readsAll_49 ?_
      refine xo_puti dX12_readsAll_50 cl_11 fl_RX12_163 rfl ft_11_27 (fun t1 => ?_)
      exact xo_vret dX12_readsAll_53 rfl
    · refine xo_aload_n rfl rfl dX12_readsAll_32 ?_
      refine xo_iload_n rfl rfl dX12_readsAll_33 ?_
      refine mk_O.callV (N := M_X12_plateauClause) (ci := 11) (q := (RX12, TX12, 64)) (b := x0) (As1 := [.int x1]) (S := []) md_X12_plateauClause mv_X12_plateauClause lk_RX12_309 rfl (Nat.le_of_ble_eq_true rfl) (by decide) dX12_readsAll_34 rfl rfl rfl (fun z hz => (c_X12_plateauClause x0 x1 t z hz).1) (fun z hz => (c_X12_plateauClause x0 x1 t z hz).2) (fun z2 _ => ?_)
      show mk_O _ _ _ _ [] _ _
      refine xo_iinc rfl (congrArg _ kc_1) (by decide) (mk_p1_v rfl rfl) dX12_readsAll_37 ?_
      refine xo_aload_n rfl rfl dX12_readsAll_40 ?_
      refine mk_O.callV (N := M_X12_goesOn) (ci := 11) (q := (RX12, TX12, 64)) (b := x0) (As1 := []) (S := []) md_X12_goesOn mv_X12_goesOn lk_RX12_312 rfl (Nat.le_of_ble_eq_true rfl) (by decide) dX12_readsAll_41 rfl rfl rfl (fun z hz => (c_X12_goesOn x0 z2.2 z hz).1) (fun z hz => (c_X12_goesOn x0 z2.2 z hz).2) (fun z3 _ => ?_)
      show mk_O _ _ _ _ (.int z3.1 :: []) _ _
      refine xo_istore_n rfl (by decide) (mk_p1_v rfl rfl) dX12_readsAll_44 ?_
      refine xo_goto (tgt := 28) dX12_readsAll_45 rfl ?_
      exact mk_O.wk (ih x0 (x1 + (1 : Int32)) z3.1 z3.2) ⟨rfl, ⟨rfl, ⟨rfl, trivial⟩⟩⟩
theorem o_X12_readsAll_6 : ∀ (n : Nat) (x0 : Nat) (x1 : Int32) (t : mk_S), mk_O mk_wu M_X12_readsAll 6 [some (.ref x0), some (.int x1), none] [] t (B_X12_readsAll_6 n x0 x1 t) := by
  intro n
  induction n with
  | zero =>
    intro x0 x1 t
    exact mk_O.none
  | succ n ih =>
    intro x0 x1 t
    rw [B_X12_readsAll_6]
    refine xo_iload_n rfl rfl dX12_readsAll_6 ?_
    refine xo_iconst kc_5 dX12_readsAll_7 ?_
    refine xo_icmp_ge (tgt := 24) dX12_readsAll_8 rfl (fun _ => ?_) (fun _ => ?_)
    · refine xo_iconst kc_0 dX12_readsAll_24 ?_
      refine xo_istore_n rfl (by decide) (mk_p1_v rfl rfl) dX12_readsAll_25 ?_
      refine xo_iconst kc_1 dX12_readsAll_26 ?_
      refine xo_istore_n rfl (by decide) (mk_p1_v rfl rfl) dX12_readsAll_27 ?_
      exact mk_O.wk (o_X12_readsAll_28 mk_fu x0 (0 : Int32) (1 : Int32) t) ⟨rfl, ⟨rfl, ⟨rfl, trivial⟩⟩⟩
    · refine xo_aload_n rfl rfl dX12_readsAll_11 ?_
      refine xo_geta dX12_readsAll_12 cl_11 fl_RX12_64 rfl (fun v1 => ?_)
      refine xo_iload_n rfl rfl dX12_readsAll_15 ?_
      refine xo_iconst kc_0 dX12_readsAll_16 ?_
      refine xo_iast dX12_readsAll_17 (fun t2 => ?_)
      refine xo_iinc rfl (congrArg _ kc_1) (by decide) (mk_p1_v rfl rfl) dX12_readsAll_18 ?_
      refine xo_goto (tgt := 6) dX12_readsAll_21 rfl ?_
      exact mk_O.wk (ih x0 (x1 + (1 : Int32)) t2) ⟨rfl, ⟨rfl, trivial⟩⟩
theorem p_X12_readsAll (x0 : Nat) (t : mk_S) : mk_O mk_wu M_X12_readsAll 0 [some (.ref x0), none, none] [] t ((F_X12_starts x0 t).bind fun z1 => B_X12_readsAll_6 mk_fu x0 (0 : Int32) z1.2) := by
  refine xo_aload_n rfl rfl dX12_readsAll_0 ?_
  refine mk_O.callV (N := M_X12_starts) (ci := 11) (q := (RX12, TX12, 64)) (b := x0) (As1 := []) (S := []) md_X12_starts mv_X12_starts lk_RX12_306 rfl (Nat.le_of_ble_eq_true rfl) (by decide) dX12_readsAll_1 rfl rfl rfl (fun z hz => (c_X12_starts x0 t z hz).1) (fun z hz => (c_X12_starts x0 t z hz).2) (fun z1 _ => ?_)
  show mk_O _ _ _ _ [] _ _
  refine xo_iconst kc_0 dX12_readsAll_4 ?_
  refine xo_istore_n rfl (by decide) (mk_p1_v rfl rfl) dX12_readsAll_5 ?_
  exact mk_O.wk (o_X12_readsAll_6 mk_fu x0 (0 : Int32) z1.2) ⟨rfl, ⟨rfl, trivial⟩⟩
theorem c_X12_readsAll (x0 : Nat) (t : mk_S) (z : Unit × mk_S) (h : F_X12_readsAll x0 t = some z) : mk_is t x0 11 ∧ mk_Ct M_X12_readsAll [.ref x0] t (mk_wu z.1, z.2) :=
  ⟨(mk_gd_spec h).1, mk_ct (w := mk_wu) (by decide +kernel) (Nat.le_of_ble_eq_true rfl) (p_X12_readsAll x0 t) z (mk_gd_spec h).2⟩
def B_X12_begins_96 : Nat → Nat → Int32 → mk_S → Option (Unit × mk_S)
  | 0, _, _, _ => none
  | n + 1, x0, x1, t => if (36 : Int32) ≤ x1 then (some ((), t)) else ((mk_ga t x0 11 8).bind fun v1 => (mk_st 100 t v1 x1 (0 : Int32)).bind fun t2 => B_X12_begins_96 n x0 (x1 + (1 : Int32)) t2)
def B_X12_begins_76 : Nat → Nat → Int32 → mk_S → Option (Unit × mk_S)
  | 0, _, _, _ => none
  | n + 1, x0, x1, t => if (4 : Int32) ≤ x1 then (B_X12_begins_96 mk_fu x0 (0 : Int32) t) else ((mk_ga t x0 11 7).bind fun v1 => (mk_st 100 t v1 x1 (0 : Int32)).bind fun t2 => B_X12_begins_76 n x0 (x1 + (1 : Int32)) t2)
def B_X12_begins_39 : Nat → Nat → Int32 → mk_S → Option (Unit × mk_S)
  | 0, _, _, _ => none
  | n + 1, x0, x1, t => if (6 : Int32) ≤ x1 then (B_X12_begins_76 mk_fu x0 (0 : Int32) t) else ((mk_ga t x0 11 4).bind fun v1 => (mk_st 100 t v1 x1 (0 : Int32)).bind fun t2 => (mk_ga t2 x0 11 5).bind fun v3 => (mk_st 100 t2 v3 x1 (0 : Int32)).bind fun t4 => (mk_ga t4 x0 11 6).bind fun v5 => (mk_st 100 t4 v5 x1 (-1000 : Int32)).bind fun t6 => B_X12_begins_39 n x0 (x1 + (1 : Int32)) t6)
def F_X12_begins (x0 : Nat) (t : mk_S) : Option (Unit × mk_S) := mk_gd t x0 11 ((mk_ga t x0 11 17).bind fun v1 => (mk_ga t x0 11 2).bind fun v2 => (F_X12_copies v1 v2 t).bind fun z3 => (mk_ga z3.2 x0 11 18).bind fun v4 => (mk_ga z3.2 x0 11 3).bind fun v5 => (F_X12_copies v4 v5 z3.2).bind fun z6 => (mk_ga z6.2 x0 11 1).bind fun v7 => (mk_st 100 z6.2 v7 (5 : Int32) (0 : Int32)).bind fun t8 => (mk_ga t8 x0 11 1).bind fun v9 => (mk_st 100 t8 v9 (6 : Int32) (0 : Int32)).bind fun t10 => B_X12_begins_39 mk_fu x0 (0 : Int32) t10)
theorem o_X12_begins_96 : ∀ (n : Nat) (x0 : Nat) (x1 : Int32) (t : mk_S), mk_O mk_wu M_X12_begins 96 [some (.ref x0), some (.int x1)] [] t (B_X12_begins_96 n x0 x1 t) := by
  intro n
  induction n with
  | zero =>
    intro x0 x1 t
    exact mk_O.none
  | succ n ih =>
    intro x0 x1 t
    rw [B_X12_begins_96]
    refine xo_iload_n rfl rfl dX12_begins_96 ?_
    refine xo_bipush kb_36 dX12_begins_97 ?_
    refine xo_icmp_ge (tgt := 115) dX12_begins_99 rfl (fun _ => ?_) (fun _ => ?_)
    · exact xo_vret dX12_begins_115 rfl
    · refine xo_aload_n rfl rfl dX12_begins_102 ?_
      refine xo_geta dX12_begins_103 cl_11 fl_RX12_31 rfl (fun v1 => ?_)
      refine xo_iload_n rfl rfl dX12_begins_106 ?_
      refine xo_iconst kc_0 dX12_begins_107 ?_
      refine xo_iast dX12_begins_108 (fun t2 => ?_)
      refine xo_iinc rfl (congrArg _ kc_1) (by decide) (mk_p1_v rfl rfl) dX12_begins_109 ?_
      refine xo_goto (tgt := 96) dX12_begins_112 rfl ?_
      exact mk_O.wk (ih x0 (x1 + (1 : Int32)) t2) ⟨rfl, ⟨rfl, trivial⟩⟩
theorem o_X12_begins_76 : ∀ (n : Nat) (x0 : Nat) (x1 : Int32) (t : mk_S), mk_O mk_wu M_X12_begins 76 [some (.ref x0), some (.int x1)] [] t (B_X12_begins_76 n x0 x1 t) := by
  intro n
  induction n with
  | zero =>
    intro x0 x1 t
    exact mk_O.none
  | succ n ih =>
    intro x0 x1 t
    rw [B_X12_begins_76]
    refine xo_iload_n rfl rfl dX12_begins_76 ?_
    refine xo_iconst kc_4 dX12_begins_77 ?_
    refine xo_icmp_ge (tgt := 94) dX12_begins_78 rfl (fun _ => ?_) (fun _ => ?_)
    · refine xo_iconst kc_0 dX12_begins_94 ?_
      refine xo_istore_n rfl (by decide) (mk_p1_v rfl rfl) dX12_begins_95 ?_
      exact mk_O.wk (o_X12_begins_96 mk_fu x0 (0 : Int32) t) ⟨rfl, ⟨rfl, trivial⟩⟩
    · refine xo_aload_n rfl rfl dX12_begins_81 ?_
      refine xo_geta dX12_begins_82 cl_11 fl_RX12_28 rfl (fun v1 => ?_)
      refine xo_iload_n rfl rfl dX12_begins_85 ?_
      refine xo_iconst kc_0 dX12_begins_86 ?_
      refine xo_iast dX12_begins_87 (fun t2 => ?_)
      refine xo_iinc rfl (congrArg _ kc_1) (by decide) (mk_p1_v rfl rfl) dX12_begins_88 ?_
      refine xo_goto (tgt := 76) dX12_begins_91 rfl ?_
      exact mk_O.wk (ih x0 (x1 + (1 : Int32)) t2) ⟨rfl, ⟨rfl, trivial⟩⟩
theorem o_X12_begins_39 : ∀ (n : Nat) (x0 : Nat) (x1 : Int32) (t : mk_S), mk_O mk_wu M_X12_begins 39 [some (.ref x0), some (.int x1)] [] t (B_X12_begins_39 n x0 x1 t) := by
  intro n
  induction n with
  | zero =>
    intro x0 x1 t
    exact mk_O.none
  | succ n ih =>
    intro x0 x1 t
    rw [B_X12_begins_39]
    refine xo_iload_n rfl rfl dX12_begins_39 ?_
    refine xo_bipush kb_6 dX12_begins_40 ?_
    refine xo_icmp_ge (tgt := 74) dX12_begins_42 rfl (fun _ => ?_) (fun _ => ?_)
    · refine xo_iconst kc_0 dX12_begins_74 ?_
      refine xo_istore_n rfl (by decide) (mk_p1_v rfl rfl) dX12_begins_75 ?_
      exact mk_O.wk (o_X12_begins_76 mk_fu x0 (0 : Int32) t) ⟨rfl, ⟨rfl, trivial⟩⟩
    · refine xo_aload_n rfl rfl dX12_begins_45 ?_
      refine xo_geta dX12_begins_46 cl_11 fl_RX12_19 rfl (fun v1 => ?_)
      refine xo_iload_n rfl rfl dX12_begins_49 ?_
      refine xo_iconst kc_0 dX12_begins_50 ?_
      refine xo_iast dX12_begins_51 (fun t2 => ?_)
      refine xo_aload_n rfl rfl dX12_begins_52 ?_
      refine xo_geta dX12_begins_53 cl_11 fl_RX12_22 rfl (fun v3 => ?_)
      refine xo_iload_n rfl rfl dX12_begins_56 ?_
      refine xo_iconst kc_0 dX12_begins_57 ?_
      refine xo_iast dX12_begins_58 (fun t4 => ?_)
      refine xo_aload_n rfl rfl dX12_begins_59 ?_
      refine xo_geta dX12_begins_60 cl_11 fl_RX12_25 rfl (fun v5 => ?_)
      refine xo_iload_n rfl rfl dX12_begins_63 ?_
      refine xo_sipush ks_m1000 dX12_begins_64 ?_
      refine xo_iast dX12_begins_67 (fun t6 => ?_)
      refine xo_iinc rfl (congrArg _ kc_1) (by decide) (mk_p1_v rfl rfl) dX12_begins_68 ?_
      refine xo_goto (tgt := 39) dX12_begins_71 rfl ?_
      exact mk_O.wk (ih x0 (x1 + (1 : Int32)) t6) ⟨rfl, ⟨rfl, trivial⟩⟩
theorem p_X12_begins (x0 : Nat) (t : mk_S) : mk_O mk_wu M_X12_begins 0 [some (.ref x0), none] [] t ((mk_ga t x0 11 17).bind fun v1 => (mk_ga t x0 11 2).bind fun v2 => (F_X12_copies v1 v2 t).bind fun z3 => (mk_ga z3.2 x0 11 18).bind fun v4 => (mk_ga z3.2 x0 11 3).bind fun v5 => (F_X12_copies v4 v5 z3.2).bind fun z6 => (mk_ga z6.2 x0 11 1).bind fun v7 => (mk_st 100 z6.2 v7 (5 : Int32) (0 : Int32)).bind fun t8 => (mk_ga t8 x0 11 1).bind fun v9 => (mk_st 100 t8 v9 (6 : Int32) (0 : Int32)).bind fun t10 => B_X12_begins_39 mk_fu x0 (0 : Int32) t10) := by
  refine xo_aload_n rfl rfl dX12_begins_0 ?_
  refine xo_geta dX12_begins_1 cl_11 fl_RX12_58 rfl (fun v1 => ?_)
  refine xo_aload_n rfl rfl dX12_begins_4 ?_
  refine xo_geta dX12_begins_5 cl_11 fl_RX12_13 rfl (fun v2 => ?_)
  refine mk_O.callS (N := M_X12_copies) (As := [.ref v1, .ref v2]) (S := []) md_X12_copies ms_X12_copies lk_RX12_315 rfl (Nat.le_of_ble_eq_true rfl) (by decide) dX12_begins_8 rfl (fun z hz => c_X12_copies v1 v2 t z hz) (fun z3 _ => ?_)
  show mk_O _ _ _ _ [] _ _
  refine xo_aload_n rfl rfl dX12_begins_11 ?_
  refine xo_geta dX12_begins_12 cl_11 fl_RX12_61 rfl (fun v4 => ?_)
  refine xo_aload_n rfl rfl dX12_begins_15 ?_
  refine xo_geta dX12_begins_16 cl_11 fl_RX12_16 rfl (fun v5 => ?_)
  refine mk_O.callS (N := M_X12_copies) (As := [.ref v4, .ref v5]) (S := []) md_X12_copies ms_X12_copies lk_RX12_315 rfl (Nat.le_of_ble_eq_true rfl) (by decide) dX12_begins_19 rfl (fun z hz => c_X12_copies v4 v5 z3.2 z hz) (fun z6 _ => ?_)
  show mk_O _ _ _ _ [] _ _
  refine xo_aload_n rfl rfl dX12_begins_22 ?_
  refine xo_geta dX12_begins_23 cl_11 fl_RX12_9 rfl (fun v7 => ?_)
  refine xo_iconst kc_5 dX12_begins_26 ?_
  refine xo_iconst kc_0 dX12_begins_27 ?_
  refine xo_iast dX12_begins_28 (fun t8 => ?_)
  refine xo_aload_n rfl rfl dX12_begins_29 ?_
  refine xo_geta dX12_begins_30 cl_11 fl_RX12_9 rfl (fun v9 => ?_)
  refine xo_bipush kb_6 dX12_begins_33 ?_
  refine xo_iconst kc_0 dX12_begins_35 ?_
  refine xo_iast dX12_begins_36 (fun t10 => ?_)
  refine xo_iconst kc_0 dX12_begins_37 ?_
  refine xo_istore_n rfl (by decide) (mk_p1_v rfl rfl) dX12_begins_38 ?_
  exact mk_O.wk (o_X12_begins_39 mk_fu x0 (0 : Int32) t10) ⟨rfl, ⟨rfl, trivial⟩⟩
theorem c_X12_begins (x0 : Nat) (t : mk_S) (z : Unit × mk_S) (h : F_X12_begins x0 t = some z) : mk_is t x0 11 ∧ mk_Ct M_X12_begins [.ref x0] t (mk_wu z.1, z.2) :=
  ⟨(mk_gd_spec h).1, mk_ct (w := mk_wu) (by decide +kernel) (Nat.le_of_ble_eq_true rfl) (p_X12_begins x0 t) z (mk_gd_spec h).2⟩
def B_X12_plateau_21 : Nat → Nat → Int32 → mk_S → Option (Int32 × mk_S)
  | 0, _, _, _ => none
  | n + 1, x0, x1, t => if (5 : Int32) ≤ x1 then ((mk_ga t x0 11 1).bind fun v1 => (mk_st 100 t v1 (7 : Int32) (0 : Int32)).bind fun t2 => (mk_ga t2 x0 11 20).bind fun v3 => (mk_ga t2 x0 11 17).bind fun v4 => (F_X12_copies v3 v4 t2).bind fun z5 => (mk_ga z5.2 x0 11 21).bind fun v6 => (mk_ga z5.2 x0 11 18).bind fun v7 => (F_X12_copies v6 v7 z5.2).bind fun z8 => (mk_ga z8.2 x0 11 22).bind fun v9 => (mk_ga z8.2 x0 11 9).bind fun v10 => (F_X12_copies v9 v10 z8.2).bind fun z11 => (mk_ga z11.2 x0 11 23).bind fun v12 => (mk_ga z11.2 x0 11 10).bind fun v13 => (F_X12_copies v12 v13 z11.2).bind fun z14 => (mk_ga z14.2 x0 11 24).bind fun v15 => (mk_ga z14.2 x0 11 11).bind fun v16 => (F_X12_copies v15 v16 z14.2).bind fun z17 => (mk_ga z17.2 x0 11 25).bind fun v18 => (mk_ga z17.2 x0 11 12).bind fun v19 => (F_X12_copies v18 v19 z17.2).bind fun z20 => (mk_ga z20.2 x0 11 26).bind fun v21 => (mk_ga z20.2 x0 11 13).bind fun v22 => (F_X12_copies v21 v22 z20.2).bind fun z23 => (F_X12_begins x0 z23.2).bind fun z24 => (mk_pi z24.2 x0 11 50 (0 : Int32)).bind fun t25 => (mk_ga t25 x0 11 1).bind fun v26 => (mk_ld 100 t25 v26 (2 : Int32)).bind fun v27 => some (v27, t25)) else ((mk_ga t x0 11 1).bind fun v28 => (mk_ga t x0 11 19).bind fun v29 => (mk_ld 100 t v29 x1).bind fun v30 => (mk_st 100 t v28 x1 v30).bind fun t31 => B_X12_plateau_21 n x0 (x1 + (1 : Int32)) t31)
def F_X12_plateau (x0 : Nat) (t : mk_S) : Option (Int32 × mk_S) := mk_gd t x0 11 ((F_X12_readsAll x0 t).bind fun z1 => (mk_gi z1.2 x0 11 29).bind fun v2 => if v2 ≤ 0 then (B_X12_plateau_21 mk_fu x0 (0 : Int32) z1.2) else ((mk_gi z1.2 x0 11 29).bind fun v3 => some (((-2 : Int32) - v3), z1.2)))
theorem o_X12_plateau_21 : ∀ (n : Nat) (x0 : Nat) (x1 : Int32) (t : mk_S), mk_O mk_wi M_X12_plateau 21 [some (.ref x0), some (.int x1)] [] t (B_X12_plateau_21 n x0 x1 t) := by
  intro n
  induction n with
  | zero =>
    intro x0 x1 t
    exact mk_O.none
  | succ n ih =>
    intro x0 x1 t
    rw [B_X12_plateau_21]
    refine xo_iload_n rfl rfl dX12_plateau_21 ?_
    refine xo_iconst kc_5 dX12_plateau_22 ?_
    refine xo_icmp_ge (tgt := 44) dX12_plateau_23 rfl (fun _ => ?_) (fun _ => ?_)
    · refine xo_aload_n rfl rfl dX12_plateau_44 ?_
      refine xo_geta dX12_plateau_45 cl_11 fl_RX12_9 rfl (fun v1 => ?_)
      refine xo_bipush kb_7 dX12_plateau_48 ?_
      refine xo_iconst kc_0 dX12_plateau_50 ?_
      refine xo_iast dX12_plateau_51 (fun t2 => ?_)
      refine xo_aload_n rfl rfl dX12_plateau_52 ?_
      refine xo_geta dX12_plateau_53 cl_11 fl_RX12_67 rfl (fun v3 => ?_)
      refine xo_aload_n rfl rfl dX12_plateau_56 ?_
      refine xo_geta dX12_plateau_57 cl_11 fl_RX12_58 rfl (fun v4 => ?_)
      refine mk_O.callS (N := M_X12_copies) (As := [.ref v3, .ref v4]) (S := []) md_X12_copies ms_X12_copies lk_RX12_315 rfl (Nat.le_of_ble_eq_true rfl) (by decide) dX12_plateau_60 rfl (fun z hz => c_X12_copies v3 v4 t2 z hz) (fun z5 _ => ?_)
      show mk_O _ _ _ _ [] _ _
      refine xo_aload_n rfl rfl dX12_plateau_63 ?_
      refine xo_geta dX12_plateau_64 cl_11 fl_RX12_70 rfl (fun v6 => ?_)
      refine xo_aload_n rfl rfl dX12_plateau_67 ?_
      refine xo_geta dX12_plateau_68 cl_11 fl_RX12_61 rfl (fun v7 => ?_)
      refine mk_O.callS (N := M_X12_copies) (As := [.ref v6, .ref v7]) (S := []) md_X12_copies ms_X12_copies lk_RX12_315 rfl (Nat.le_of_ble_eq_true rfl) (by decide) dX12_plateau_71 rfl (fun z hz => c_X12_copies v6 v7 z5.2 z hz) (fun z8 _ => ?_)
      show mk_O _ _ _ _ [] _ _
      refine xo_aload_n rfl rfl dX12_plateau_74 ?_
      refine xo_geta dX12_plateau_75 cl_11 fl_RX12_73 rfl (fun v9 => ?_)
      refine xo_aload_n rfl rfl dX12_plateau_78 ?_
      refine xo_geta dX12_plateau_79 cl_11 fl_RX12_34 rfl (fun v10 => ?_)
      refine mk_O.callS (N := M_X12_copies) (As := [.ref v9, .ref v10]) (S := []) md_X12_copies ms_X12_copies lk_RX12_315 rfl (Nat.le_of_ble_eq_true rfl) (by decide) dX12_plateau_82 rfl (fun z hz => c_X12_copies v9 v10 z8.2 z hz) (fun z11 _ => ?_)
      show mk_O _ _ _ _ [] _ _
      refine xo_aload_n rfl rfl dX12_plateau_85 ?_
      refine xo_geta dX12_plateau_86 cl_11 fl_RX12_76 rfl (fun v12 => ?_)
      refine xo_aload_n rfl rfl dX12_plateau_89 ?_
      refine xo_geta dX12_plateau_90 cl_11 fl_RX12_37 rfl (fun v13 => ?_)
      refine mk_O.callS (N := M_X12_copies) (As := [.ref v12, .ref v13]) (S := []) md_X12_copies ms_X12_copies lk_RX12_315 rfl (Nat.le_of_ble_eq_true rfl) (by decide) dX12_plateau_93 rfl (fun z hz => c_X12_copies v12 v13 z11.2 z hz) (fun z14 _ => ?_)
      show mk_O _ _ _ _ [] _ _
      refine xo_aload_n rfl rfl dX12_plateau_96 ?_
      refine xo_geta dX12_plateau_97 cl_11 fl_RX12_79 rfl (fun v15 => ?_)
      refine xo_aload_n rfl rfl dX12_plateau_100 ?_
      refine xo_geta dX12_plateau_101 cl_11 fl_RX12_40 rfl (fun v16 => ?_)
      refine mk_O.callS (N := M_X12_copies) (As := [.ref v15, .ref v16]) (S := []) md_X12_copies ms_X12_copies lk_RX12_315 rfl (Nat.le_of_ble_eq_true rfl) (by decide) dX12_plateau_104 rfl (fun z hz => c_X12_copies v15 v16 z14.2 z hz) (fun z17 _ => ?_)
      show mk_O _ _ _ _ [] _ _
      refine xo_aload_n rfl rfl dX12_plateau_107 ?_
      refine xo_geta dX12_plateau_108 cl_11 fl_RX12_82 rfl (fun v18 => ?_)
      refine xo_aload_n rfl rfl dX12_plateau_111 ?_
      refine xo_geta dX12_plateau_112 cl_11 fl_RX12_43 rfl (fun v19 => ?_)
      refine mk_O.callS (N := M_X12_copies) (As := [.ref v18, .ref v19]) (S := []) md_X12_copies ms_X12_copies lk_RX12_315 rfl (Nat.le_of_ble_eq_true rfl) (by decide) dX12_plateau_115 rfl (fun z hz => c_X12_copies v18 v19 z17.2 z hz) (fun z20 _ => ?_)
      show mk_O _ _ _ _ [] _ _
      refine xo_aload_n rfl rfl dX12_plateau_118 ?_
      refine xo_geta dX12_plateau_119 cl_11 fl_RX12_85 rfl (fun v21 => ?_)
      refine xo_aload_n rfl rfl dX12_plateau_122 ?_
      refine xo_geta dX12_plateau_123 cl_11 fl_RX12_46 rfl (fun v22 => ?_)
      refine mk_O.callS (N := M_X12_copies) (As := [.ref v21, .ref v22]) (S := []) md_X12_copies ms_X12_copies lk_RX12_315 rfl (Nat.le_of_ble_eq_true rfl) (by decide) dX12_plateau_126 rfl (fun z hz => c_X12_copies v21 v22 z20.2 z hz) (fun z23 _ => ?_)
      show mk_O _ _ _ _ [] _ _
      refine xo_aload_n rfl rfl dX12_plateau_129 ?_
      refine mk_O.callV (N := M_X12_begins) (ci := 11) (q := (RX12, TX12, 64)) (b := x0) (As1 := []) (S := []) md_X12_begins mv_X12_begins lk_RX12_322 rfl (Nat.le_of_ble_eq_true rfl) (by decide) dX12_plateau_130 rfl rfl rfl (fun z hz => (c_X12_begins x0 z23.2 z hz).1) (fun z hz => (c_X12_begins x0 z23.2 z hz).2) (fun z24 _ => ?_)
      show mk_O _ _ _ _ [] _ _
      refine xo_aload_n rfl rfl dX12_plateau_133 ?_
      refine xo_iconst kc_0 dX12_plateau_134 ?_
      refine xo_puti dX12_plateau_135 cl_11 fl_RX12_325 rfl ft_11_50 (fun t25 => ?_)
      refine xo_aload_n rfl rfl dX12_plateau_138 ?_
      refine xo_geta dX12_plateau_139 cl_11 fl_RX12_9 rfl (fun v26 => ?_)
      refine xo_iconst kc_2 dX12_plateau_142 ?_
      refine xo_iald dX12_plateau_143 (fun v27 => ?_)
      exact xo_iret dX12_plateau_144 rfl
    · refine xo_aload_n rfl rfl dX12_plateau_26 ?_
      refine xo_geta dX12_plateau_27 cl_11 fl_RX12_9 rfl (fun v28 => ?_)
      refine xo_iload_n rfl rfl dX12_plateau_30 ?_
      refine xo_aload_n rfl rfl dX12_plateau_31 ?_
      refine xo_geta dX12_plateau_32 cl_11 fl_RX12_64 rfl (fun v29 => ?_)
      refine xo_iload_n rfl rfl dX12_plateau_35 ?_
      refine xo_iald dX12_plateau_36 (fun v30 => ?_)
      refine xo_iast dX12_plateau_37 (fun t31 => ?_)
      refine xo_iinc rfl (congrArg _ kc_1) (by decide) (mk_p1_v rfl rfl) dX12_plateau_38 ?_
      refine xo_goto (tgt := 21) dX12_plateau_41 rfl ?_
      exact mk_O.wk (ih x0 (x1 + (1 : Int32)) t31) ⟨rfl, ⟨rfl, trivial⟩⟩
theorem p_X12_plateau (x0 : Nat) (t : mk_S) : mk_O mk_wi M_X12_plateau 0 [some (.ref x0), none] [] t ((F_X12_readsAll x0 t).bind fun z1 => (mk_gi z1.2 x0 11 29).bind fun v2 => if v2 ≤ 0 then (B_X12_plateau_21 mk_fu x0 (0 : Int32) z1.2) else ((mk_gi z1.2 x0 11 29).bind fun v3 => some (((-2 : Int32) - v3), z1.2))) := by
  refine xo_aload_n rfl rfl dX12_plateau_0 ?_
  refine mk_O.callV (N := M_X12_readsAll) (ci := 11) (q := (RX12, TX12, 64)) (b := x0) (As1 := []) (S := []) md_X12_readsAll mv_X12_readsAll lk_RX12_319 rfl (Nat.le_of_ble_eq_true rfl) (by decide) dX12_plateau_1 rfl rfl rfl (fun z hz => (c_X12_readsAll x0 t z hz).1) (fun z hz => (c_X12_readsAll x0 t z hz).2) (fun z1 _ => ?_)
  show mk_O _ _ _ _ [] _ _
  refine xo_aload_n rfl rfl dX12_plateau_4 ?_
  refine xo_geti dX12_plateau_5 cl_11 fl_RX12_189 rfl (fun v2 => ?_)
  refine xo_if_le (tgt := 19) dX12_plateau_8 rfl (fun _ => ?_) (fun _ => ?_)
  · refine xo_iconst kc_0 dX12_plateau_19 ?_
    refine xo_istore_n rfl (by decide) (mk_p1_v rfl rfl) dX12_plateau_20 ?_
    exact mk_O.wk (o_X12_plateau_21 mk_fu x0 (0 : Int32) z1.2) ⟨rfl, ⟨rfl, trivial⟩⟩
  · refine xo_bipush kb_m2 dX12_plateau_11 ?_
    refine xo_aload_n rfl rfl dX12_plateau_13 ?_
    refine xo_geti dX12_plateau_14 cl_11 fl_RX12_189 rfl (fun v3 => ?_)
    refine xo_isub dX12_plateau_17 ?_
    exact xo_iret dX12_plateau_18 rfl
theorem c_X12_plateau (x0 : Nat) (t : mk_S) (z : Int32 × mk_S) (h : F_X12_plateau x0 t = some z) : mk_is t x0 11 ∧ mk_Ct M_X12_plateau [.ref x0] t (mk_wi z.1, z.2) :=
  ⟨(mk_gd_spec h).1, mk_ct (w := mk_wi) (by decide +kernel) (Nat.le_of_ble_eq_true rfl) (p_X12_plateau x0 t) z (mk_gd_spec h).2⟩
def B_X12_ruleClause_104 (x0 : Nat) (x3 : Int32) (t : mk_S) : Option (Unit × mk_S) := (mk_ga t x0 11 43).bind fun v1 => (mk_gi t x0 11 32).bind fun v2 => (mk_st 100 t v1 x3 v2).bind fun t3 => some ((), t3)
def F_X12_ruleClause (x0 : Nat) (x1 : Int32) (t : mk_S) : Option (Unit × mk_S) := mk_gd t x0 11 ((F_X12_blanks x0 t).bind fun z1 => (mk_gi z1.2 x0 11 28).bind fun v2 => (F_X12_stood x0 1000039 z1.2).bind fun z3 => if z3.1 = 0 then ((F_X12_fails x0 (0 : Int32) v2 z3.2).bind fun z4 => some ((), z4.2)) else (if x1 = (12 : Int32) then ((F_X12_fails x0 (4 : Int32) v2 z3.2).bind fun z5 => some ((), z5.2)) else ((mk_gi z3.2 x0 11 28).bind fun v6 => (mk_pi z3.2 x0 11 28 (v6 + (4 : Int32))).bind fun t7 => (mk_gi t7 x0 11 30).bind fun v8 => (mk_ga t7 x0 11 41).bind fun v9 => (mk_gi t7 x0 11 32).bind fun v10 => (mk_st 100 t7 v9 (((12 : Int32) * v8) + x1) v10).bind fun t11 => (F_X12_sum x0 t11).bind fun z12 => (mk_ga z12.2 x0 11 42).bind fun v13 => (mk_gi z12.2 x0 11 32).bind fun v14 => (mk_st 100 z12.2 v13 (((12 : Int32) * v8) + x1) v14).bind fun t15 => (mk_gi t15 x0 11 29).bind fun v16 => if v16 = 0 then ((F_X12_isNext x0 1000040 t15).bind fun z17 => if z17.1 = 0 then (B_X12_ruleClause_104 x0 (((12 : Int32) * v8) + x1) z17.2) else ((F_X12_test x0 z17.2).bind fun z18 => B_X12_ruleClause_104 x0 (((12 : Int32) * v8) + x1) z18.2)) else (B_X12_ruleClause_104 x0 (((12 : Int32) * v8) + x1) t15))))
theorem o_X12_ruleClause_104 (x0 : Nat) (x3 : Int32) (t : mk_S) : mk_O mk_wu M_X12_ruleClause 104 [some (.ref x0), none, none, some (.int x3)] [] t (B_X12_ruleClause_104 x0 x3 t) := by
  unfold B_X12_ruleClause_104
  refine xo_aload_n rfl rfl dX12_ruleClause_104 ?_
  refine xo_geta dX12_ruleClause_105 cl_11 fl_RX12_111 rfl (fun v1 => ?_)
  refine xo_iload_n rfl rfl dX12_ruleClause_108 ?_
  refine xo_aload_n rfl rfl dX12_ruleClause_109 ?_
  refine xo_geti dX12_ruleClause_110 cl_11 fl_RX12_221 rfl (fun v2 => ?_)
  refine xo_iast dX12_ruleClause_113 (fun t3 => ?_)
  exact xo_vret dX12_ruleClause_114 rfl
theorem p_X12_ruleClause (x0 : Nat) (x1 : Int32) (t : mk_S) : mk_O mk_wu M_X12_ruleClause 0 [some (.ref x0), some (.int x1), none, none] [] t ((F_X12_blanks x0 t).bind fun z1 => (mk_gi z1.2 x0 11 28).bind fun v2 => (F_X12_stood x0 1000039 z1.2).bind fun z3 => if z3.1 = 0 then ((F_X12_fails x0 (0 : Int32) v2 z3.2).bind fun z4 => some ((), z4.2)) else (if x1 = (12 : Int32) then ((F_X12_fails x0 (4 : Int32) v2 z3.2).bind fun z5 => some ((), z5.2)) else ((mk_gi z3.2 x0 11 28).bind fun v6 => (mk_pi z3.2 x0 11 28 (v6 + (4 : Int32))).bind fun t7 => (mk_gi t7 x0 11 30).bind fun v8 => (mk_ga t7 x0 11 41).bind fun v9 => (mk_gi t7 x0 11 32).bind fun v10 => (mk_st 100 t7 v9 (((12 : Int32) * v8) + x1) v10).bind fun t11 => (F_X12_sum x0 t11).bind fun z12 => (mk_ga z12.2 x0 11 42).bind fun v13 => (mk_gi z12.2 x0 11 32).bind fun v14 => (mk_st 100 z12.2 v13 (((12 : Int32) * v8) + x1) v14).bind fun t15 => (mk_gi t15 x0 11 29).bind fun v16 => if v16 = 0 then ((F_X12_isNext x0 1000040 t15).bind fun z17 => if z17.1 = 0 then (B_X12_ruleClause_104 x0 (((12 : Int32) * v8) + x1) z17.2) else ((F_X12_test x0 z17.2).bind fun z18 => B_X12_ruleClause_104 x0 (((12 : Int32) * v8) + x1) z18.2)) else (B_X12_ruleClause_104 x0 (((12 : Int32) * v8) + x1) t15)))) := by
  refine xo_aload_n rfl rfl dX12_ruleClause_0 ?_
  refine mk_O.callV (N := M_X12_blanks) (ci := 11) (q := (RX12, TX12, 64)) (b := x0) (As1 := []) (S := []) md_X12_blanks mv_X12_blanks lk_RX12_211 rfl (Nat.le_of_ble_eq_true rfl) (by decide) dX12_ruleClause_1 rfl rfl rfl (fun z hz => (c_X12_blanks x0 t z hz).1) (fun z hz => (c_X12_blanks x0 t z hz).2) (fun z1 _ => ?_)
  show mk_O _ _ _ _ [] _ _
  refine xo_aload_n rfl rfl dX12_ruleClause_4 ?_
  refine xo_geti dX12_ruleClause_5 cl_11 fl_RX12_192 rfl (fun v2 => ?_)
  refine xo_istore_n rfl (by decide) (mk_p1_v rfl rfl) dX12_ruleClause_8 ?_
  refine xo_aload_n rfl rfl dX12_ruleClause_9 ?_
  refine xo_strw (i := 39) (by decide) rfl rfl dX12_ruleClause_10 ?_
  refine mk_O.callV (N := M_X12_stood) (ci := 11) (q := (RX12, TX12, 64)) (b := x0) (As1 := [.ref 1000039]) (S := []) md_X12_stood mv_X12_stood lk_RX12_214 rfl (Nat.le_of_ble_eq_true rfl) (by decide) dX12_ruleClause_13 rfl rfl rfl (fun z hz => (c_X12_stood x0 1000039 z1.2 z hz).1) (fun z hz => (c_X12_stood x0 1000039 z1.2 z hz).2) (fun z3 _ => ?_)
  show mk_O _ _ _ _ (.int z3.1 :: []) _ _
  refine xo_if_ne (tgt := 26) dX12_ruleClause_16 rfl (fun _ => ?_) (fun _ => ?_)
  · refine xo_aload_n rfl rfl dX12_ruleClause_19 ?_
    refine xo_iconst kc_0 dX12_ruleClause_20 ?_
    refine xo_iload_n rfl rfl dX12_ruleClause_21 ?_
    refine mk_O.callV (N := M_X12_fails) (ci := 11) (q := (RX12, TX12, 64)) (b := x0) (As1 := [.int (0 : Int32), .int v2]) (S := []) md_X12_fails mv_X12_fails lk_RX12_227 rfl (Nat.le_of_ble_eq_true rfl) (by decide) dX12_ruleClause_22 rfl rfl rfl (fun z hz => (c_X12_fails x0 (0 : Int32) v2 z3.2 z hz).1) (fun z hz => (c_X12_fails x0 (0 : Int32) v2 z3.2 z hz).2) (fun z4 _ => ?_)
    show mk_O _ _ _ _ [] _ _
    exact xo_vret dX12_ruleClause_25 rfl
  · refine xo_iload_n rfl rfl dX12_ruleClause_26 ?_
    refine xo_bipush kb_12 dX12_ruleClause_27 ?_
    refine xo_icmp_ne (tgt := 39) dX12_ruleClause_29 rfl (fun _ => ?_) (fun _ => ?_)
    · refine xo_aload_n rfl rfl dX12_ruleClause_32 ?_
      refine xo_iconst kc_4 dX12_ruleClause_33 ?_
      refine xo_iload_n rfl rfl dX12_ruleClause_34 ?_
      refine mk_O.callV (N := M_X12_fails) (ci := 11) (q := (RX12, TX12, 64)) (b := x0) (As1 := [.int (4 : Int32), .int v2]) (S := []) md_X12_fails mv_X12_fails lk_RX12_227 rfl (Nat.le_of_ble_eq_true rfl) (by decide) dX12_ruleClause_35 rfl rfl rfl (fun z hz => (c_X12_fails x0 (4 : Int32) v2 z3.2 z hz).1) (fun z hz => (c_X12_fails x0 (4 : Int32) v2 z3.2 z hz).2) (fun z5 _ => ?_)
      show mk_O _ _ _ _ [] _ _
      exact xo_vret dX12_ruleClause_38 rfl
    · refine xo_aload_n rfl rfl dX12_ruleClause_39 ?_
      refine xo_dup rfl dX12_ruleClause_40 ?_
      refine xo_geti dX12_ruleClause_41 cl_11 fl_RX12_192 rfl (fun v6 => ?_)
      refine xo_iconst kc_4 dX12_ruleClause_44 ?_
      refine xo_iadd dX12_ruleClause_45 ?_
      refine xo_puti dX12_ruleClause_46 cl_11 fl_RX12_192 rfl ft_11_28 (fun t7 => ?_)
      refine xo_bipush kb_12 dX12_ruleClause_49 ?_
      refine xo_aload_n rfl rfl dX12_ruleClause_51 ?_
      refine xo_geti dX12_ruleClause_52 cl_11 fl_RX12_218 rfl (fun v8 => ?_)
      refine xo_imul dX12_ruleClause_55 ?_
      refine xo_iload_n rfl rfl dX12_ruleClause_56 ?_
      refine xo_iadd dX12_ruleClause_57 ?_
      refine xo_istore_n rfl (by decide) (mk_p1_v rfl rfl) dX12_ruleClause_58 ?_
      refine xo_aload_n rfl rfl dX12_ruleClause_59 ?_
      refine xo_geta dX12_ruleClause_60 cl_11 fl_RX12_105 rfl (fun v9 => ?_)
      refine xo_iload_n rfl rfl dX12_ruleClause_63 ?_
      refine xo_aload_n rfl rfl dX12_ruleClause_64 ?_
      refine xo_geti dX12_ruleClause_65 cl_11 fl_RX12_221 rfl (fun v10 => ?_)
      refine xo_iast dX12_ruleClause_68 (fun t11 => ?_)
      refine xo_aload_n rfl rfl dX12_ruleClause_69 ?_
      refine mk_O.callV (N := M_X12_sum) (ci := 11) (q := (RX12, TX12, 64)) (b := x0) (As1 := []) (S := []) md_X12_sum mv_X12_sum lk_RX12_256 rfl (Nat.le_of_ble_eq_true rfl) (by decide) dX12_ruleClause_70 rfl rfl rfl (fun z hz => (c_X12_sum x0 t11 z hz).1) (fun z hz => (c_X12_sum x0 t11 z hz).2) (fun z12 _ => ?_)
      show mk_O _ _ _ _ [] _ _
      refine xo_aload_n rfl rfl dX12_ruleClause_73 ?_
      refine xo_geta dX12_ruleClause_74 cl_11 fl_RX12_108 rfl (fun v13 => ?_)
      refine xo_iload_n rfl rfl dX12_ruleClause_77 ?_
      refine xo_aload_n rfl rfl dX12_ruleClause_78 ?_
      refine xo_geti dX12_ruleClause_79 cl_11 fl_RX12_221 rfl (fun v14 => ?_)
      refine xo_iast dX12_ruleClause_82 (fun t15 => ?_)
      refine xo_aload_n rfl rfl dX12_ruleClause_83 ?_
      refine xo_geti dX12_ruleClause_84 cl_11 fl_RX12_189 rfl (fun v16 => ?_)
      refine xo_if_ne (tgt := 104) dX12_ruleClause_87 rfl (fun _ => ?_) (fun _ => ?_)
      · refine xo_aload_n rfl rfl dX12_ruleClause_90 ?_
        refine xo_strw (i := 40) (by decide) rfl rfl dX12_ruleClause_91 ?_
        refine mk_O.callV (N := M_X12_isNext) (ci := 11) (q := (RX12, TX12, 64)) (b := x0) (As1 := [.ref 1000040]) (S := []) md_X12_isNext mv_X12_isNext lk_RX12_332 rfl (Nat.le_of_ble_eq_true rfl) (by decide) dX12_ruleClause_94 rfl rfl rfl (fun z hz => (c_X12_isNext x0 1000040 t15 z hz).1) (fun z hz => (c_X12_isNext x0 1000040 t15 z hz).2) (fun z17 _ => ?_)
        show mk_O _ _ _ _ (.int z17.1 :: []) _ _
        refine xo_if_eq (tgt := 104) dX12_ruleClause_97 rfl (fun _ => ?_) (fun _ => ?_)
        · exact mk_O.wk (o_X12_ruleClause_104 x0 (((12 : Int32) * v8) + x1) z17.2) ⟨rfl, ⟨rfl, trivial⟩⟩
        · refine xo_aload_n rfl rfl dX12_ruleClause_100 ?_
          refine mk_O.callV (N := M_X12_test) (ci := 11) (q := (RX12, TX12, 64)) (b := x0) (As1 := []) (S := []) md_X12_test mv_X12_test lk_RX12_335 rfl (Nat.le_of_ble_eq_true rfl) (by decide) dX12_ruleClause_101 rfl rfl rfl (fun z hz => (c_X12_test x0 z17.2 z hz).1) (fun z hz => (c_X12_test x0 z17.2 z hz).2) (fun z18 _ => ?_)
          show mk_O _ _ _ _ [] _ _
          exact mk_O.wk (o_X12_ruleClause_104 x0 (((12 : Int32) * v8) + x1) z18.2) ⟨rfl, ⟨rfl, trivial⟩⟩
      · exact mk_O.wk (o_X12_ruleClause_104 x0 (((12 : Int32) * v8) + x1) t15) ⟨rfl, ⟨rfl, trivial⟩⟩
theorem c_X12_ruleClause (x0 : Nat) (x1 : Int32) (t : mk_S) (z : Unit × mk_S) (h : F_X12_ruleClause x0 x1 t = some z) : mk_is t x0 11 ∧ mk_Ct M_X12_ruleClause [.ref x0, .int x1] t (mk_wu z.1, z.2) :=
  ⟨(mk_gd_spec h).1, mk_ct (w := mk_wu) (by decide +kernel) (Nat.le_of_ble_eq_true rfl) (p_X12_ruleClause x0 x1 t) z (mk_gd_spec h).2⟩
def B_X12_rule_79 (x0 : Nat) (s0 : Nat) (s1 : Int32) (s2 : Int32) (t : mk_S) : Option (Int32 × mk_S) := (mk_pi t s0 11 31 (s1 + s2)).bind fun t1 => (mk_gi t1 x0 11 29).bind fun v2 => if v2 ≤ 0 then ((mk_gi t1 x0 11 31).bind fun v3 => some ((v3 - (1 : Int32)), t1)) else ((mk_gi t1 x0 11 29).bind fun v4 => some (((-2 : Int32) - v4), t1))
def B_X12_rule_27 : Nat → Nat → Int32 → Int32 → mk_S → Option (Int32 × mk_S)
  | 0, _, _, _, _ => none
  | n + 1, x0, x1, x2, t => if x2 = 0 then ((mk_pi t x0 11 27 (0 : Int32)).bind fun t1 => (mk_ga t1 x0 11 40).bind fun v2 => (mk_gi t1 x0 11 30).bind fun v3 => (mk_st 100 t1 v2 v3 x1).bind fun t4 => (mk_gi t4 x0 11 31).bind fun v5 => (mk_gi t4 x0 11 29).bind fun v6 => if v6 = 0 then (B_X12_rule_79 x0 x0 v5 (1 : Int32) t4) else (B_X12_rule_79 x0 x0 v5 (0 : Int32) t4)) else ((F_X12_ruleClause x0 x1 t).bind fun z7 => (F_X12_goesOn x0 z7.2).bind fun z8 => B_X12_rule_27 n x0 (x1 + (1 : Int32)) z8.1 z8.2)
def F_X12_rule (x0 : Nat) (t : mk_S) : Option (Int32 × mk_S) := mk_gd t x0 11 ((mk_gi t x0 11 31).bind fun v1 => if v1 = (6 : Int32) then (some ((-1 : Int32), t)) else ((mk_gi t x0 11 31).bind fun v2 => (mk_pi t x0 11 30 v2).bind fun t3 => (F_X12_starts x0 t3).bind fun z4 => B_X12_rule_27 mk_fu x0 (0 : Int32) (1 : Int32) z4.2))
theorem o_X12_rule_79 (x0 : Nat) (s0 : Nat) (s1 : Int32) (s2 : Int32) (t : mk_S) : mk_O mk_wi M_X12_rule 79 [some (.ref x0), none, none] [.int s2, .int s1, .ref s0] t (B_X12_rule_79 x0 s0 s1 s2 t) := by
  unfold B_X12_rule_79
  refine xo_iadd dX12_rule_79 ?_
  refine xo_puti dX12_rule_80 cl_11 fl_RX12_338 rfl ft_11_31 (fun t1 => ?_)
  refine xo_aload_n rfl rfl dX12_rule_83 ?_
  refine xo_geti dX12_rule_84 cl_11 fl_RX12_189 rfl (fun v2 => ?_)
  refine xo_if_le (tgt := 100) dX12_rule_87 rfl (fun _ => ?_) (fun _ => ?_)
  · refine xo_aload_n rfl rfl dX12_rule_100 ?_
    refine xo_geti dX12_rule_101 cl_11 fl_RX12_338 rfl (fun v3 => ?_)
    refine xo_iconst kc_1 dX12_rule_104 ?_
    refine xo_isub dX12_rule_105 ?_
    exact xo_iret dX12_rule_106 rfl
  · refine xo_bipush kb_m2 dX12_rule_90 ?_
    refine xo_aload_n rfl rfl dX12_rule_92 ?_
    refine xo_geti dX12_rule_93 cl_11 fl_RX12_189 rfl (fun v4 => ?_)
    refine xo_isub dX12_rule_96 ?_
    refine xo_goto (tgt := 106) dX12_rule_97 rfl ?_
    exact xo_iret dX12_rule_106 rfl
theorem o_X12_rule_27 : ∀ (n : Nat) (x0 : Nat) (x1 : Int32) (x2 : Int32) (t : mk_S), mk_O mk_wi M_X12_rule 27 [some (.ref x0), some (.int x1), some (.int x2)] [] t (B_X12_rule_27 n x0 x1 x2 t) := by
  intro n
  induction n with
  | zero =>
    intro x0 x1 x2 t
    exact mk_O.none
  | succ n ih =>
    intro x0 x1 x2 t
    rw [B_X12_rule_27]
    refine xo_iload_n rfl rfl dX12_rule_27 ?_
    refine xo_if_eq (tgt := 47) dX12_rule_28 rfl (fun _ => ?_) (fun _ => ?_)
    · refine xo_aload_n rfl rfl dX12_rule_47 ?_
      refine xo_iconst kc_0 dX12_rule_48 ?_
      refine xo_puti dX12_rule_49 cl_11 fl_RX12_163 rfl ft_11_27 (fun t1 => ?_)
      refine xo_aload_n rfl rfl dX12_rule_52 ?_
      refine xo_geta dX12_rule_53 cl_11 fl_RX12_102 rfl (fun v2 => ?_)
      refine xo_aload_n rfl rfl dX12_rule_56 ?_
      refine xo_geti dX12_rule_57 cl_11 fl_RX12_218 rfl (fun v3 => ?_)
      refine xo_iload_n rfl rfl dX12_rule_60 ?_
      refine xo_iast dX12_rule_61 (fun t4 => ?_)
      refine xo_aload_n rfl rfl dX12_rule_62 ?_
      refine xo_dup rfl dX12_rule_63 ?_
      refine xo_geti dX12_rule_64 cl_11 fl_RX12_338 rfl (fun v5 => ?_)
      refine xo_aload_n rfl rfl dX12_rule_67 ?_
      refine xo_geti dX12_rule_68 cl_11 fl_RX12_189 rfl (fun v6 => ?_)
      refine xo_if_ne (tgt := 78) dX12_rule_71 rfl (fun _ => ?_) (fun _ => ?_)
      · refine xo_iconst kc_1 dX12_rule_74 ?_
        refine xo_goto (tgt := 79) dX12_rule_75 rfl ?_
        exact mk_O.wk (o_X12_rule_79 x0 x0 v5 (1 : Int32) t4) ⟨rfl, trivial⟩
      · refine xo_iconst kc_0 dX12_rule_78 ?_
        exact mk_O.wk (o_X12_rule_79 x0 x0 v5 (0 : Int32) t4) ⟨rfl, trivial⟩
    · refine xo_aload_n rfl rfl dX12_rule_31 ?_
      refine xo_iload_n rfl rfl dX12_rule_32 ?_
      refine mk_O.callV (N := M_X12_ruleClause) (ci := 11) (q := (RX12, TX12, 64)) (b := x0) (As1 := [.int x1]) (S := []) md_X12_ruleClause mv_X12_ruleClause lk_RX12_341 rfl (Nat.le_of_ble_eq_true rfl) (by decide) dX12_rule_33 rfl rfl rfl (fun z hz => (c_X12_ruleClause x0 x1 t z hz).1) (fun z hz => (c_X12_ruleClause x0 x1 t z hz).2) (fun z7 _ => ?_)
      show mk_O _ _ _ _ [] _ _
      refine xo_iinc rfl (congrArg _ kc_1) (by decide) (mk_p1_v rfl rfl) dX12_rule_36 ?_
      refine xo_aload_n rfl rfl dX12_rule_39 ?_
      refine mk_O.callV (N := M_X12_goesOn) (ci := 11) (q := (RX12, TX12, 64)) (b := x0) (As1 := []) (S := []) md_X12_goesOn mv_X12_goesOn lk_RX12_312 rfl (Nat.le_of_ble_eq_true rfl) (by decide) dX12_rule_40 rfl rfl rfl (fun z hz => (c_X12_goesOn x0 z7.2 z hz).1) (fun z hz => (c_X12_goesOn x0 z7.2 z hz).2) (fun z8 _ => ?_)
      show mk_O _ _ _ _ (.int z8.1 :: []) _ _
      refine xo_istore_n rfl (by decide) (mk_p1_v rfl rfl) dX12_rule_43 ?_
      refine xo_goto (tgt := 27) dX12_rule_44 rfl ?_
      exact mk_O.wk (ih x0 (x1 + (1 : Int32)) z8.1 z8.2) ⟨rfl, ⟨rfl, ⟨rfl, trivial⟩⟩⟩
theorem p_X12_rule (x0 : Nat) (t : mk_S) : mk_O mk_wi M_X12_rule 0 [some (.ref x0), none, none] [] t ((mk_gi t x0 11 31).bind fun v1 => if v1 = (6 : Int32) then (some ((-1 : Int32), t)) else ((mk_gi t x0 11 31).bind fun v2 => (mk_pi t x0 11 30 v2).bind fun t3 => (F_X12_starts x0 t3).bind fun z4 => B_X12_rule_27 mk_fu x0 (0 : Int32) (1 : Int32) z4.2)) := by
  refine xo_aload_n rfl rfl dX12_rule_0 ?_
  refine xo_geti dX12_rule_1 cl_11 fl_RX12_338 rfl (fun v1 => ?_)
  refine xo_bipush kb_6 dX12_rule_4 ?_
  refine xo_icmp_ne (tgt := 11) dX12_rule_6 rfl (fun _ => ?_) (fun _ => ?_)
  · refine xo_iconst kc_m1 dX12_rule_9 ?_
    exact xo_iret dX12_rule_10 rfl
  · refine xo_aload_n rfl rfl dX12_rule_11 ?_
    refine xo_aload_n rfl rfl dX12_rule_12 ?_
    refine xo_geti dX12_rule_13 cl_11 fl_RX12_338 rfl (fun v2 => ?_)
    refine xo_puti dX12_rule_16 cl_11 fl_RX12_218 rfl ft_11_30 (fun t3 => ?_)
    refine xo_aload_n rfl rfl dX12_rule_19 ?_
    refine mk_O.callV (N := M_X12_starts) (ci := 11) (q := (RX12, TX12, 64)) (b := x0) (As1 := []) (S := []) md_X12_starts mv_X12_starts lk_RX12_306 rfl (Nat.le_of_ble_eq_true rfl) (by decide) dX12_rule_20 rfl rfl rfl (fun z hz => (c_X12_starts x0 t3 z hz).1) (fun z hz => (c_X12_starts x0 t3 z hz).2) (fun z4 _ => ?_)
    show mk_O _ _ _ _ [] _ _
    refine xo_iconst kc_0 dX12_rule_23 ?_
    refine xo_istore_n rfl (by decide) (mk_p1_v rfl rfl) dX12_rule_24 ?_
    refine xo_iconst kc_1 dX12_rule_25 ?_
    refine xo_istore_n rfl (by decide) (mk_p1_v rfl rfl) dX12_rule_26 ?_
    exact mk_O.wk (o_X12_rule_27 mk_fu x0 (0 : Int32) (1 : Int32) z4.2) ⟨rfl, ⟨rfl, ⟨rfl, trivial⟩⟩⟩
theorem c_X12_rule (x0 : Nat) (t : mk_S) (z : Int32 × mk_S) (h : F_X12_rule x0 t = some z) : mk_is t x0 11 ∧ mk_Ct M_X12_rule [.ref x0] t (mk_wi z.1, z.2) :=
  ⟨(mk_gd_spec h).1, mk_ct (w := mk_wi) (by decide +kernel) (Nat.le_of_ble_eq_true rfl) (p_X12_rule x0 t) z (mk_gd_spec h).2⟩
def F_X12_force (x0 : Nat) (x1 : Int32) (t : mk_S) : Option (Int32 × mk_S) := mk_gd t x0 11 ((mk_gi t x0 11 31).bind fun v1 => (F_X12_in ((x1).toInt64) (-1 : Int64) (((v1 - (1 : Int32))).toInt64) t).bind fun z2 => if z2.1 = 0 then (some ((-2 : Int32), z2.2)) else ((mk_ga z2.2 x0 11 1).bind fun v3 => (mk_ld 100 z2.2 v3 (9 : Int32)).bind fun v4 => (mk_ga z2.2 x0 11 1).bind fun v5 => (mk_st 100 z2.2 v5 (9 : Int32) x1).bind fun t6 => some (v4, t6)))
theorem p_X12_force (x0 : Nat) (x1 : Int32) (t : mk_S) : mk_O mk_wi M_X12_force 0 [some (.ref x0), some (.int x1), none] [] t ((mk_gi t x0 11 31).bind fun v1 => (F_X12_in ((x1).toInt64) (-1 : Int64) (((v1 - (1 : Int32))).toInt64) t).bind fun z2 => if z2.1 = 0 then (some ((-2 : Int32), z2.2)) else ((mk_ga z2.2 x0 11 1).bind fun v3 => (mk_ld 100 z2.2 v3 (9 : Int32)).bind fun v4 => (mk_ga z2.2 x0 11 1).bind fun v5 => (mk_st 100 z2.2 v5 (9 : Int32) x1).bind fun t6 => some (v4, t6))) := by
  refine xo_iload_n rfl rfl dX12_force_0 ?_
  refine xo_i2l dX12_force_1 ?_
  refine xo_ldc2 (v := -1) (mk_w7 (i := 49) rfl rfl) dX12_force_2 ?_
  refine xo_aload_n rfl rfl dX12_force_5 ?_
  refine xo_geti dX12_force_6 cl_11 fl_RX12_338 rfl (fun v1 => ?_)
  refine xo_iconst kc_1 dX12_force_9 ?_
  refine xo_isub dX12_force_10 ?_
  refine xo_i2l dX12_force_11 ?_
  refine mk_O.callS (N := M_X12_in) (As := [.long ((x1).toInt64), .long (-1 : Int64), .long (((v1 - (1 : Int32))).toInt64)]) (S := []) md_X12_in ms_X12_in lk_RX12_159 rfl (Nat.le_of_ble_eq_true rfl) (by decide) dX12_force_12 rfl (fun z hz => c_X12_in ((x1).toInt64) (-1 : Int64) (((v1 - (1 : Int32))).toInt64) t z hz) (fun z2 _ => ?_)
  show mk_O _ _ _ _ (.int z2.1 :: []) _ _
  refine xo_if_ne (tgt := 21) dX12_force_15 rfl (fun _ => ?_) (fun _ => ?_)
  · refine xo_bipush kb_m2 dX12_force_18 ?_
    exact xo_iret dX12_force_20 rfl
  · refine xo_aload_n rfl rfl dX12_force_21 ?_
    refine xo_geta dX12_force_22 cl_11 fl_RX12_9 rfl (fun v3 => ?_)
    refine xo_bipush kb_9 dX12_force_25 ?_
    refine xo_iald dX12_force_27 (fun v4 => ?_)
    refine xo_istore_n rfl (by decide) (mk_p1_v rfl rfl) dX12_force_28 ?_
    refine xo_aload_n rfl rfl dX12_force_29 ?_
    refine xo_geta dX12_force_30 cl_11 fl_RX12_9 rfl (fun v5 => ?_)
    refine xo_bipush kb_9 dX12_force_33 ?_
    refine xo_iload_n rfl rfl dX12_force_35 ?_
    refine xo_iast dX12_force_36 (fun t6 => ?_)
    refine xo_iload_n rfl rfl dX12_force_37 ?_
    exact xo_iret dX12_force_38 rfl
theorem c_X12_force (x0 : Nat) (x1 : Int32) (t : mk_S) (z : Int32 × mk_S) (h : F_X12_force x0 x1 t = some z) : mk_is t x0 11 ∧ mk_Ct M_X12_force [.ref x0, .int x1] t (mk_wi z.1, z.2) :=
  ⟨(mk_gd_spec h).1, mk_ct (w := mk_wi) (by decide +kernel) (Nat.le_of_ble_eq_true rfl) (p_X12_force x0 x1 t) z (mk_gd_spec h).2⟩
def F_X12_truth (x0 : Int32) (t : mk_S) : Option (Int64 × mk_S) := if x0 = 0 then (some ((0 : Int64), t)) else (some ((1 : Int64), t))
theorem p_X12_truth (x0 : Int32) (t : mk_S) : mk_O mk_wl M_X12_truth 0 [some (.int x0)] [] t (if x0 = 0 then (some ((0 : Int64), t)) else (some ((1 : Int64), t))) := by
  refine xo_iload_n rfl rfl dX12_truth_0 ?_
  refine xo_if_eq (tgt := 8) dX12_truth_1 rfl (fun _ => ?_) (fun _ => ?_)
  · refine xo_lconst kl_0 dX12_truth_8 ?_
    exact xo_lret dX12_truth_9 rfl
  · refine xo_lconst kl_1 dX12_truth_4 ?_
    refine xo_goto (tgt := 9) dX12_truth_5 rfl ?_
    exact xo_lret dX12_truth_9 rfl
theorem c_X12_truth (x0 : Int32) (t : mk_S) (z : Int64 × mk_S) (h : F_X12_truth x0 t = some z) : mk_Ct M_X12_truth [.int x0] t (mk_wl z.1, z.2) :=
  mk_ct (w := mk_wl) (by decide +kernel) (Nat.le_of_ble_eq_true rfl) (p_X12_truth x0 t) z h
def B_X12_both_123 (s0 : Int32) (t : mk_S) : Option (Int64 × mk_S) := (F_X12_truth s0 t).bind fun z1 => some (z1.1, z1.2)
def B_X12_both_138 (s0 : Int32) (t : mk_S) : Option (Int64 × mk_S) := (F_X12_truth s0 t).bind fun z1 => some (z1.1, z1.2)
def B_X12_both_153 (s0 : Int32) (t : mk_S) : Option (Int64 × mk_S) := (F_X12_truth s0 t).bind fun z1 => some (z1.1, z1.2)
def B_X12_both_168 (s0 : Int32) (t : mk_S) : Option (Int64 × mk_S) := (F_X12_truth s0 t).bind fun z1 => some (z1.1, z1.2)
def B_X12_both_183 (s0 : Int32) (t : mk_S) : Option (Int64 × mk_S) := (F_X12_truth s0 t).bind fun z1 => some (z1.1, z1.2)
def F_X12_both (x0 : Int32) (x1 : Int64) (x3 : Int64) (t : mk_S) : Option (Int64 × mk_S) := if x0 = (2 : Int32) then (some ((x1 + x3), t)) else (if x0 = (3 : Int32) then (some ((x1 - x3), t)) else (if x0 = (4 : Int32) then (if 0 ≤ (lg_cmp x1 x3) then (B_X12_both_123 (0 : Int32) t) else (B_X12_both_123 (1 : Int32) t)) else (if x0 = (5 : Int32) then (if 0 < (lg_cmp x1 x3) then (B_X12_both_138 (0 : Int32) t) else (B_X12_both_138 (1 : Int32) t)) else (if x0 = (6 : Int32) then (if (lg_cmp x1 x3) = 0 then (B_X12_both_153 (1 : Int32) t) else (B_X12_both_153 (0 : Int32) t)) else (if x0 = (7 : Int32) then (if (lg_cmp x1 x3) < 0 then (B_X12_both_168 (0 : Int32) t) else (B_X12_both_168 (1 : Int32) t)) else (if x0 = (8 : Int32) then (if (lg_cmp x1 x3) ≤ 0 then (B_X12_both_183 (0 : Int32) t) else (B_X12_both_183 (1 : Int32) t)) else (if x0 = (9 : Int32) then (some ((x1 ||| x3), t)) else (if x0 = (10 : Int32) then (some ((x1 &&& x3), t)) else (if x0 = (11 : Int32) then (some ((x1 ||| x3), t)) else (if x0 = (12 : Int32) then (some ((x1 ||| x3), t)) else (if x0 = (13 : Int32) then (some ((x1 * x3), t)) else (if x0 = (14 : Int32) then (if (lg_cmp x3 (0 : Int64)) = 0 then (some ((0 : Int64), t)) else (if x3 = 0 then none else some ((x1 / x3), t))) else (if x0 = (15 : Int32) then (if (lg_cmp x3 (0 : Int64)) = 0 then (some ((0 : Int64), t)) else (if x3 = 0 then none else some ((x1 - x1 / x3 * x3), t))) else (some ((x1 ||| x3), t)))))))))))))))
theorem o_X12_both_123 (s0 : Int32) (t : mk_S) : mk_O mk_wl M_X12_both 123 [none, none, none, none, none] [.int s0] t (B_X12_both_123 s0 t) := by
  unfold B_X12_both_123
  refine mk_O.callS (N := M_X12_truth) (As := [.int s0]) (S := []) md_X12_truth ms_X12_truth lk_RX12_350 rfl (Nat.le_of_ble_eq_true rfl) (by decide) dX12_both_123 rfl (fun z hz => c_X12_truth s0 t z hz) (fun z1 _ => ?_)
  show mk_O _ _ _ _ (.long z1.1 :: []) _ _
  exact xo_lret dX12_both_126 rfl
theorem o_X12_both_138 (s0 : Int32) (t : mk_S) : mk_O mk_wl M_X12_both 138 [none, none, none, none, none] [.int s0] t (B_X12_both_138 s0 t) := by
  unfold B_X12_both_138
  refine mk_O.callS (N := M_X12_truth) (As := [.int s0]) (S := []) md_X12_truth ms_X12_truth lk_RX12_350 rfl (Nat.le_of_ble_eq_true rfl) (by decide) dX12_both_138 rfl (fun z hz => c_X12_truth s0 t z hz) (fun z1 _ => ?_)
  show mk_O _ _ _ _ (.long z1.1 :: []) _ _
  exact xo_lret dX12_both_141 rfl
theorem o_X12_both_153 (s0 : Int32) (t : mk_S) : mk_O mk_wl M_X12_both 153 [none, none, none, none, none] [.int s0] t (B_X12_both_153 s0 t) := by
  unfold B_X12_both_153
  refine mk_O.callS (N := M_X12_truth) (As := [.int s0]) (S := []) md_X12_truth ms_X12_truth lk_RX12_350 rfl (Nat.le_of_ble_eq_true rfl) (by decide) dX12_both_153 rfl (fun z hz => c_X12_truth s0 t z hz) (fun z1 _ => ?_)
  show mk_O _ _ _ _ (.long z1.1 :: []) _ _
  exact xo_lret dX12_both_156 rfl
theorem o_X12_both_168 (s0 : Int32) (t : mk_S) : mk_O mk_wl M_X12_both 168 [none, none, none, none, none] [.int s0] t (B_X12_both_168 s0 t) := by
  unfold B_X12_both_168
  refine mk_O.callS (N := M_X12_truth) (As := [.int s0]) (S := []) md_X12_truth ms_X12_truth lk_RX12_350 rfl (Nat.le_of_ble_eq_true rfl) (by decide) dX12_both_168 rfl (fun z hz => c_X12_truth s0 t z hz) (fun z1 _ => ?_)
  show mk_O _ _ _ _ (.long z1.1 :: []) _ _
  exact xo_lret dX12_both_171 rfl
theorem o_X12_both_183 (s0 : Int32) (t : mk_S) : mk_O mk_wl M_X12_both 183 [none, none, none, none, none] [.int s0] t (B_X12_both_183 s0 t) := by
  unfold B_X12_both_183
  refine mk_O.callS (N := M_X12_truth) (As := [.int s0]) (S := []) md_X12_truth ms_X12_truth lk_RX12_350 rfl (Nat.le_of_ble_eq_true rfl) (by decide) dX12_both_183 rfl (fun z hz => c_X12_truth s0 t z hz) (fun z1 _ => ?_)
  show mk_O _ _ _ _ (.long z1.1 :: []) _ _
  exact xo_lret dX12_both_186 rfl
theorem p_X12_both (x0 : Int32) (x1 : Int64) (x3 : Int64) (t : mk_S) : mk_O mk_wl M_X12_both 0 [some (.int x0), some (.long x1), none, some (.long x3), none] [] t (if x0 = (2 : Int32) then (some ((x1 + x3), t)) else (if x0 = (3 : Int32) then (some ((x1 - x3), t)) else (if x0 = (4 : Int32) then (if 0 ≤ (lg_cmp x1 x3) then (B_X12_both_123 (0 : Int32) t) else (B_X12_both_123 (1 : Int32) t)) else (if x0 = (5 : Int32) then (if 0 < (lg_cmp x1 x3) then (B_X12_both_138 (0 : Int32) t) else (B_X12_both_138 (1 : Int32) t)) else (if x0 = (6 : Int32) then (if (lg_cmp x1 x3) = 0 then (B_X12_both_153 (1 : Int32) t) else (B_X12_both_153 (0 : Int32) t)) else (if x0 = (7 : Int32) then (if (lg_cmp x1 x3) < 0 then (B_X12_both_168 (0 : Int32) t) else (B_X12_both_168 (1 : Int32) t)) else (if x0 = (8 : Int32) then (if (lg_cmp x1 x3) ≤ 0 then (B_X12_both_183 (0 : Int32) t) else (B_X12_both_183 (1 : Int32) t)) else (if x0 = (9 : Int32) then (some ((x1 ||| x3), t)) else (if x0 = (10 : Int32) then (some ((x1 &&& x3), t)) else (if x0 = (11 : Int32) then (some ((x1 ||| x3), t)) else (if x0 = (12 : Int32) then (some ((x1 ||| x3), t)) else (if x0 = (13 : Int32) then (some ((x1 * x3), t)) else (if x0 = (14 : Int32) then (if (lg_cmp x3 (0 : Int64)) = 0 then (some ((0 : Int64), t)) else (if x3 = 0 then none else some ((x1 / x3), t))) else (if x0 = (15 : Int32) then (if (lg_cmp x3 (0 : Int64)) = 0 then (some ((0 : Int64), t)) else (if x3 = 0 then none else some ((x1 - x1 / x3 * x3), t))) else (some ((x1 ||| x3), t)))))))))))))))) := by
  refine xo_iload_n rfl rfl dX12_both_0 ?_
  refine mk_O.cs (fun n0 => ?_) (fun n0 => ?_)
  · refine xo_tab (kx := 2) (j := 0) n0 dX12_both_1 (by decide) (by decide) (by decide) rfl rfl ?_
    refine xo_lload_n rfl rfl dX12_both_72 ?_
    refine xo_lload_n rfl rfl dX12_both_73 ?_
    refine xo_ladd dX12_both_74 ?_
    exact xo_lret dX12_both_75 rfl
  · refine mk_O.cs (fun n1 => ?_) (fun n1 => ?_)
    · refine xo_tab (kx := 3) (j := 1) n1 dX12_both_1 (by decide) (by decide) (by decide) rfl rfl ?_
      refine xo_lload_n rfl rfl dX12_both_76 ?_
      refine xo_lload_n rfl rfl dX12_both_77 ?_
      refine xo_lsub dX12_both_78 ?_
      exact xo_lret dX12_both_79 rfl
    · refine mk_O.cs (fun n2 => ?_) (fun n2 => ?_)
      · refine xo_tab (kx := 4) (j := 2) n2 dX12_both_1 (by decide) (by decide) (by decide) rfl rfl ?_
        refine xo_lload_n rfl rfl dX12_both_112 ?_
        refine xo_lload_n rfl rfl dX12_both_113 ?_
        refine xo_lcmp dX12_both_114 ?_
        refine xo_if_ge (tgt := 122) dX12_both_115 rfl (fun _ => ?_) (fun _ => ?_)
        · refine xo_iconst kc_0 dX12_both_122 ?_
          exact mk_O.wk (o_X12_both_123 (0 : Int32) t) trivial
        · refine xo_iconst kc_1 dX12_both_118 ?_
          refine xo_goto (tgt := 123) dX12_both_119 rfl ?_
          exact mk_O.wk (o_X12_both_123 (1 : Int32) t) trivial
      · refine mk_O.cs (fun n3 => ?_) (fun n3 => ?_)
        · refine xo_tab (kx := 5) (j := 3) n3 dX12_both_1 (by decide) (by decide) (by decide) rfl rfl ?_
          refine xo_lload_n rfl rfl dX12_both_127 ?_
          refine xo_lload_n rfl rfl dX12_both_128 ?_
          refine xo_lcmp dX12_both_129 ?_
          refine xo_if_gt (tgt := 137) dX12_both_130 rfl (fun _ => ?_) (fun _ => ?_)
          · refine xo_iconst kc_0 dX12_both_137 ?_
            exact mk_O.wk (o_X12_both_138 (0 : Int32) t) trivial
          · refine xo_iconst kc_1 dX12_both_133 ?_
            refine xo_goto (tgt := 138) dX12_both_134 rfl ?_
            exact mk_O.wk (o_X12_both_138 (1 : Int32) t) trivial
        · refine mk_O.cs (fun n4 => ?_) (fun n4 => ?_)
          · refine xo_tab (kx := 6) (j := 4) n4 dX12_both_1 (by decide) (by decide) (by decide) rfl rfl ?_
            refine xo_lload_n rfl rfl dX12_both_142 ?_
            refine xo_lload_n rfl rfl dX12_both_143 ?_
            refine xo_lcmp dX12_both_144 ?_
            refine xo_if_ne (tgt := 152) dX12_both_145 rfl (fun _ => ?_) (fun _ => ?_)
            · refine xo_iconst kc_1 dX12_both_148 ?_
              refine xo_goto (tgt := 153) dX12_both_149 rfl ?_
              exact mk_O.wk (o_X12_both_153 (1 : Int32) t) trivial
            · refine xo_iconst kc_0 dX12_both_152 ?_
              exact mk_O.wk (o_X12_both_153 (0 : Int32) t) trivial
          · refine mk_O.cs (fun n5 => ?_) (fun n5 => ?_)
            · refine xo_tab (kx := 7) (j := 5) n5 dX12_both_1 (by decide) (by decide) (by decide) rfl rfl ?_
              refine xo_lload_n rfl rfl dX12_both_157 ?_
              refine xo_lload_n rfl rfl dX12_both_158 ?_
              refine xo_lcmp dX12_both_159 ?_
              refine xo_if_lt (tgt := 167) dX12_both_160 rfl (fun _ => ?_) (fun _ => ?_)
              · refine xo_iconst kc_0 dX12_both_167 ?_
                exact mk_O.wk (o_X12_both_168 (0 : Int32) t) trivial
              · refine xo_iconst kc_1 dX12_both_163 ?_
                refine xo_goto (tgt := 168) dX12_both_164 rfl ?_
                exact mk_O.wk (o_X12_both_168 (1 : Int32) t) trivial
            · refine mk_O.cs (fun n6 => ?_) (fun n6 => ?_)
              · refine xo_tab (kx := 8) (j := 6) n6 dX12_both_1 (by decide) (by decide) (by decide) rfl rfl ?_
                refine xo_lload_n rfl rfl dX12_both_172 ?_
                refine xo_lload_n rfl rfl dX12_both_173 ?_
                refine xo_lcmp dX12_both_174 ?_
                refine xo_if_le (tgt := 182) dX12_both_175 rfl (fun _ => ?_) (fun _ => ?_)
                · refine xo_iconst kc_0 dX12_both_182 ?_
                  exact mk_O.wk (o_X12_both_183 (0 : Int32) t) trivial
                · refine xo_iconst kc_1 dX12_both_178 ?_
                  refine xo_goto (tgt := 183) dX12_both_179 rfl ?_
                  exact mk_O.wk (o_X12_both_183 (1 : Int32) t) trivial
              · refine mk_O.cs (fun n7 => ?_) (fun n7 => ?_)
                · refine xo_tab (kx := 9) (j := 7) n7 dX12_both_1 (by decide) (by decide) (by decide) rfl rfl ?_
                  refine xo_lload_n rfl rfl dX12_both_191 ?_
                  refine xo_lload_n rfl rfl dX12_both_192 ?_
                  refine xo_lor dX12_both_193 ?_
                  exact xo_lret dX12_both_194 rfl
                · refine mk_O.cs (fun n8 => ?_) (fun n8 => ?_)
                  · refine xo_tab (kx := 10) (j := 8) n8 dX12_both_1 (by decide) (by decide) (by decide) rfl rfl ?_
                    refine xo_lload_n rfl rfl dX12_both_187 ?_
                    refine xo_lload_n rfl rfl dX12_both_188 ?_
                    refine xo_land dX12_both_189 ?_
                    exact xo_lret dX12_both_190 rfl
                  · refine mk_O.cs (fun n9 => ?_) (fun n9 => ?_)
                    · refine xo_tab (kx := 11) (j := 9) n9 dX12_both_1 (by decide) (by decide) (by decide) rfl rfl ?_
                      refine xo_lload_n rfl rfl dX12_both_191 ?_
                      refine xo_lload_n rfl rfl dX12_both_192 ?_
                      refine xo_lor dX12_both_193 ?_
                      exact xo_lret dX12_both_194 rfl
                    · refine mk_O.cs (fun n10 => ?_) (fun n10 => ?_)
                      · refine xo_tab (kx := 12) (j := 10) n10 dX12_both_1 (by decide) (by decide) (by decide) rfl rfl ?_
                        refine xo_lload_n rfl rfl dX12_both_191 ?_
                        refine xo_lload_n rfl rfl dX12_both_192 ?_
                        refine xo_lor dX12_both_193 ?_
                        exact xo_lret dX12_both_194 rfl
                      · refine mk_O.cs (fun n11 => ?_) (fun n11 => ?_)
                        · refine xo_tab (kx := 13) (j := 11) n11 dX12_both_1 (by decide) (by decide) (by decide) rfl rfl ?_
                          refine xo_lload_n rfl rfl dX12_both_80 ?_
                          refine xo_lload_n rfl rfl dX12_both_81 ?_
                          refine xo_lmul dX12_both_82 ?_
                          exact xo_lret dX12_both_83 rfl
                        · refine mk_O.cs (fun n12 => ?_) (fun n12 => ?_)
                          · refine xo_tab (kx := 14) (j := 12) n12 dX12_both_1 (by decide) (by decide) (by decide) rfl rfl ?_
                            refine xo_lload_n rfl rfl dX12_both_84 ?_
                            refine xo_lconst kl_0 dX12_both_85 ?_
                            refine xo_lcmp dX12_both_86 ?_
                            refine xo_if_ne (tgt := 94) dX12_both_87 rfl (fun _ => ?_) (fun _ => ?_)
                            · refine xo_lconst kl_0 dX12_both_90 ?_
                              refine xo_goto (tgt := 97) dX12_both_91 rfl ?_
                              exact xo_lret dX12_both_97 rfl
                            · refine xo_lload_n rfl rfl dX12_both_94 ?_
                              refine xo_lload_n rfl rfl dX12_both_95 ?_
                              refine xo_ldiv dX12_both_96 (fun _ => ?_)
                              exact xo_lret dX12_both_97 rfl
                          · refine mk_O.cs (fun n13 => ?_) (fun n13 => ?_)
                            · refine xo_tab (kx := 15) (j := 13) n13 dX12_both_1 (by decide) (by decide) (by decide) rfl rfl ?_
                              refine xo_lload_n rfl rfl dX12_both_98 ?_
                              refine xo_lconst kl_0 dX12_both_99 ?_
                              refine xo_lcmp dX12_both_100 ?_
                              refine xo_if_ne (tgt := 108) dX12_both_101 rfl (fun _ => ?_) (fun _ => ?_)
                              · refine xo_lconst kl_0 dX12_both_104 ?_
                                refine xo_goto (tgt := 111) dX12_both_105 rfl ?_
                                exact xo_lret dX12_both_111 rfl
                              · refine xo_lload_n rfl rfl dX12_both_108 ?_
                                refine xo_lload_n rfl rfl dX12_both_109 ?_
                                refine xo_lrem dX12_both_110 (fun _ => ?_)
                                exact xo_lret dX12_both_111 rfl
                            · refine xo_tabo dX12_both_1 (by have q0 := lv_neT (a := 2) n0 (by decide); have q1 := lv_neT (a := 3) n1 (by decide); have q2 := lv_neT (a := 4) n2 (by decide); have q3 := lv_neT (a := 5) n3 (by decide); have q4 := lv_neT (a := 6) n4 (by decide); have q5 := lv_neT (a := 7) n5 (by decide); have q6 := lv_neT (a := 8) n6 (by decide); have q7 := lv_neT (a := 9) n7 (by decide); have q8 := lv_neT (a := 10) n8 (by decide); have q9 := lv_neT (a := 11) n9 (by decide); have q10 := lv_neT (a := 12) n10 (by decide); have q11 := lv_neT (a := 13) n11 (by decide); have q12 := lv_neT (a := 14) n12 (by decide); have q13 := lv_neT (a := 15) n13 (by decide); omega) rfl ?_
                              refine xo_lload_n rfl rfl dX12_both_191 ?_
                              refine xo_lload_n rfl rfl dX12_both_192 ?_
                              refine xo_lor dX12_both_193 ?_
                              exact xo_lret dX12_both_194 rfl
theorem c_X12_both (x0 : Int32) (x1 : Int64) (x3 : Int64) (t : mk_S) (z : Int64 × mk_S) (h : F_X12_both x0 x1 x3 t = some z) : mk_Ct M_X12_both [.int x0, .long x1, .long x3] t (mk_wl z.1, z.2) :=
  mk_ct (w := mk_wl) (by decide +kernel) (Nat.le_of_ble_eq_true rfl) (p_X12_both x0 x1 x3 t) z h
def B_X12_answer_147 (k6 : Nat → Int32 → Int32 → Int32 → Int32 → mk_S → Option (Int64 × mk_S)) (x0 : Nat) (x1 : Int32) (x3 : Int32) (x4 : Int32) (x5 : Int32) (t : mk_S) : Option (Int64 × mk_S) := k6 x0 x1 x3 x4 (x5 + (1 : Int32)) t
def B_X12_answer_77 (k6 : Nat → Int32 → Int32 → Int32 → Int32 → mk_S → Option (Int64 × mk_S)) (x0 : Nat) (x1 : Int32) (x3 : Int32) (x4 : Int32) (x5 : Int32) (s0 : Nat) (s1 : Int32) (s2 : Int64) (t : mk_S) : Option (Int64 × mk_S) := (mk_stl t s0 s1 s2).bind fun t1 => B_X12_answer_147 k6 x0 x1 x3 (x4 + (1 : Int32)) x5 t1
def B_X12_answer_53 (k6 : Nat → Int32 → Int32 → Int32 → Int32 → mk_S → Option (Int64 × mk_S)) (x0 : Nat) (x1 : Int32) (x3 : Int32) (x4 : Int32) (x5 : Int32) (x6 : Int32) (x7 : Int32) (t : mk_S) : Option (Int64 × mk_S) := (mk_ga t x0 11 46).bind fun v1 => if x6 = 0 then (B_X12_answer_77 k6 x0 x1 x3 x4 x5 v1 x4 ((x7).toInt64) t) else ((mk_ga t x0 11 45).bind fun v2 => (mk_ldl t v2 x7).bind fun v3 => B_X12_answer_77 k6 x0 x1 x3 x4 x5 v1 x4 v3 t)
def B_X12_answer_6 : Nat → Nat → Int32 → Int32 → Int32 → Int32 → mk_S → Option (Int64 × mk_S)
  | 0, _, _, _, _, _, _ => none
  | n + 1, x0, x1, x3, x4, x5, t => if x3 ≤ x5 then ((mk_ga t x0 11 46).bind fun v1 => (mk_ldl t v1 (0 : Int32)).bind fun v2 => some (v2, t)) else ((mk_ga t x0 11 38).bind fun v3 => (mk_ld 100 t v3 (((300 : Int32) * x1) + x5)).bind fun v4 => (mk_ga t x0 11 39).bind fun v5 => (mk_ld 100 t v5 (((300 : Int32) * x1) + x5)).bind fun v6 => if v4 = 0 then (B_X12_answer_53 (B_X12_answer_6 n) x0 x1 x3 x4 x5 v4 v6 t) else (if v4 = (1 : Int32) then (B_X12_answer_53 (B_X12_answer_6 n) x0 x1 x3 x4 x5 v4 v6 t) else (if v4 = (9 : Int32) then ((mk_ga t x0 11 46).bind fun v7 => (mk_ga t x0 11 46).bind fun v8 => (mk_ldl t v8 (x4 - (1 : Int32))).bind fun v9 => (mk_stl t v7 (x4 - (1 : Int32)) ((1 : Int64) - v9)).bind fun t10 => B_X12_answer_147 (B_X12_answer_6 n) x0 x1 x3 x4 x5 t10) else ((mk_ga t x0 11 46).bind fun v11 => (mk_ga t x0 11 46).bind fun v12 => (mk_ldl t v12 ((x4 + (-1 : Int32)) - (1 : Int32))).bind fun v13 => (mk_ga t x0 11 46).bind fun v14 => (mk_ldl t v14 (x4 + (-1 : Int32))).bind fun v15 => (F_X12_both v4 v13 v15 t).bind fun z16 => (mk_stl z16.2 v11 ((x4 + (-1 : Int32)) - (1 : Int32)) z16.1).bind fun t17 => B_X12_answer_147 (B_X12_answer_6 n) x0 x1 x3 (x4 + (-1 : Int32)) x5 t17))))
def F_X12_answer (x0 : Nat) (x1 : Int32) (x2 : Int32) (x3 : Int32) (t : mk_S) : Option (Int64 × mk_S) := mk_gd t x0 11 (B_X12_answer_6 mk_fu x0 x1 x3 (0 : Int32) x2 t)
theorem o_X12_answer_147 (k6 : Nat → Int32 → Int32 → Int32 → Int32 → mk_S → Option (Int64 × mk_S)) (h6 : ∀ (x0 : Nat) (x1 : Int32) (x3 : Int32) (x4 : Int32) (x5 : Int32) (t : mk_S), mk_O mk_wl M_X12_answer 6 [some (.ref x0), some (.int x1), none, some (.int x3), some (.int x4), some (.int x5), none, none] [] t (k6 x0 x1 x3 x4 x5 t)) (x0 : Nat) (x1 : Int32) (x3 : Int32) (x4 : Int32) (x5 : Int32) (t : mk_S) : mk_O mk_wl M_X12_answer 147 [some (.ref x0), some (.int x1), none, some (.int x3), some (.int x4), some (.int x5), none, none] [] t (B_X12_answer_147 k6 x0 x1 x3 x4 x5 t) := by
  unfold B_X12_answer_147
  refine xo_iinc rfl (congrArg _ kc_1) (by decide) (mk_p1_v rfl rfl) dX12_answer_147 ?_
  refine xo_goto (tgt := 6) dX12_answer_150 rfl ?_
  exact mk_O.wk (h6 x0 x1 x3 x4 (x5 + (1 : Int32)) t) ⟨rfl, ⟨rfl, ⟨rfl, ⟨rfl, ⟨rfl, trivial⟩⟩⟩⟩⟩
theorem o_X12_answer_77 (k6 : Nat → Int32 → Int32 → Int32 → Int32 → mk_S → Option (Int64 × mk_S)) (h6 : ∀ (x0 : Nat) (x1 : Int32) (x3 : Int32) (x4 : Int32) (x5 : Int32) (t : mk_S), mk_O mk_wl M_X12_answer 6 [some (.ref x0), some (.int x1), none, some (.int x3), some (.int x4), some (.int x5), none, none] [] t (k6 x0 x1 x3 x4 x5 t)) (x0 : Nat) (x1 : Int32) (x3 : Int32) (x4 : Int32) (x5 : Int32) (s0 : Nat) (s1 : Int32) (s2 : Int64) (t : mk_S) : mk_O mk_wl M_X12_answer 77 [some (.ref x0), some (.int x1), none, some (.int x3), some (.int x4), some (.int x5), none, none] [.long s2, .int s1, .ref s0] t (B_X12_answer_77 k6 x0 x1 x3 x4 x5 s0 s1 s2 t) := by
  unfold B_X12_answer_77
  refine xo_last dX12_answer_77 (fun t1 => ?_)
  refine xo_iinc rfl (congrArg _ kc_1) (by decide) (mk_p1_v rfl rfl) dX12_answer_78 ?_
  refine xo_goto (tgt := 147) dX12_answer_81 rfl ?_
  exact mk_O.wk (o_X12_answer_147 _ h6 x0 x1 x3 (x4 + (1 : Int32)) x5 t1) ⟨rfl, ⟨rfl, ⟨rfl, ⟨rfl, ⟨rfl, trivial⟩⟩⟩⟩⟩
theorem o_X12_answer_53 (k6 : Nat → Int32 → Int32 → Int32 → Int32 → mk_S → Option (Int64 × mk_S)) (h6 : ∀ (x0 : Nat) (x1 : Int32) (x3 : Int32) (x4 : Int32) (x5 : Int32) (t : mk_S), mk_O mk_wl M_X12_answer 6 [some (.ref x0), some (.int x1), none, some (.int x3), some (.int x4), some (.int x5), none, none] [] t (k6 x0 x1 x3 x4 x5 t)) (x0 : Nat) (x1 : Int32) (x3 : Int32) (x4 : Int32) (x5 : Int32) (x6 : Int32) (x7 : Int32) (t : mk_S) : mk_O mk_wl M_X12_answer 53 [some (.ref x0), some (.int x1), none, some (.int x3), some (.int x4), some (.int x5), some (.int x6), some (.int x7)] [] t (B_X12_answer_53 k6 x0 x1 x3 x4 x5 x6 x7 t) := by
  unfold B_X12_answer_53
  refine xo_aload_n rfl rfl dX12_answer_53 ?_
  refine xo_geta dX12_answer_54 cl_11 fl_RX12_121 rfl (fun v1 => ?_)
  refine xo_iload rfl dX12_answer_57 ?_
  refine xo_iload rfl dX12_answer_59 ?_
  refine xo_if_ne (tgt := 70) dX12_answer_61 rfl (fun _ => ?_) (fun _ => ?_)
  · refine xo_iload rfl dX12_answer_64 ?_
    refine xo_i2l dX12_answer_66 ?_
    refine xo_goto (tgt := 77) dX12_answer_67 rfl ?_
    exact mk_O.wk (o_X12_answer_77 _ h6 x0 x1 x3 x4 x5 v1 x4 ((x7).toInt64) t) ⟨rfl, ⟨rfl, ⟨rfl, ⟨rfl, ⟨rfl, trivial⟩⟩⟩⟩⟩
  · refine xo_aload_n rfl rfl dX12_answer_70 ?_
    refine xo_geta dX12_answer_71 cl_11 fl_RX12_117 rfl (fun v2 => ?_)
    refine xo_iload rfl dX12_answer_74 ?_
    refine xo_lald dX12_answer_76 (fun v3 => ?_)
    exact mk_O.wk (o_X12_answer_77 _ h6 x0 x1 x3 x4 x5 v1 x4 v3 t) ⟨rfl, ⟨rfl, ⟨rfl, ⟨rfl, ⟨rfl, trivial⟩⟩⟩⟩⟩
theorem o_X12_answer_6 : ∀ (n : Nat) (x0 : Nat) (x1 : Int32) (x3 : Int32) (x4 : Int32) (x5 : Int32) (t : mk_S), mk_O mk_wl M_X12_answer 6 [some (.ref x0), some (.int x1), none, some (.int x3), some (.int x4), some (.int x5), none, none] [] t (B_X12_answer_6 n x0 x1 x3 x4 x5 t) := by
  intro n
  induction n with
  | zero =>
    intro x0 x1 x3 x4 x5 t
    exact mk_O.none
  | succ n ih =>
    intro x0 x1 x3 x4 x5 t
    rw [B_X12_answer_6]
    refine xo_iload rfl dX12_answer_6 ?_
    refine xo_iload_n rfl rfl dX12_answer_8 ?_
    refine xo_icmp_ge (tgt := 153) dX12_answer_9 rfl (fun _ => ?_) (fun _ => ?_)
    · refine xo_aload_n rfl rfl dX12_answer_153 ?_
      refine xo_geta dX12_answer_154 cl_11 fl_RX12_121 rfl (fun v1 => ?_)
      refine xo_iconst kc_0 dX12_answer_157 ?_
      refine xo_lald dX12_answer_158 (fun v2 => ?_)
      exact xo_lret dX12_answer_159 rfl
    · refine xo_aload_n rfl rfl dX12_answer_12 ?_
      refine xo_geta dX12_answer_13 cl_11 fl_RX12_96 rfl (fun v3 => ?_)
      refine xo_sipush ks_300 dX12_answer_16 ?_
      refine xo_iload_n rfl rfl dX12_answer_19 ?_
      refine xo_imul dX12_answer_20 ?_
      refine xo_iload rfl dX12_answer_21 ?_
      refine xo_iadd dX12_answer_23 ?_
      refine xo_iald dX12_answer_24 (fun v4 => ?_)
      refine xo_istore (by decide) (mk_p1_v rfl rfl) dX12_answer_25 ?_
      refine xo_aload_n rfl rfl dX12_answer_27 ?_
      refine xo_geta dX12_answer_28 cl_11 fl_RX12_99 rfl (fun v5 => ?_)
      refine xo_sipush ks_300 dX12_answer_31 ?_
      refine xo_iload_n rfl rfl dX12_answer_34 ?_
      refine xo_imul dX12_answer_35 ?_
      refine xo_iload rfl dX12_answer_36 ?_
      refine xo_iadd dX12_answer_38 ?_
      refine xo_iald dX12_answer_39 (fun v6 => ?_)
      refine xo_istore (by decide) (mk_p1_v rfl rfl) dX12_answer_40 ?_
      refine xo_iload rfl dX12_answer_42 ?_
      refine xo_if_eq (tgt := 53) dX12_answer_44 rfl (fun _ => ?_) (fun _ => ?_)
      · exact mk_O.wk (o_X12_answer_53 _ ih x0 x1 x3 x4 x5 v4 v6 t) ⟨rfl, ⟨rfl, ⟨rfl, ⟨rfl, ⟨rfl, ⟨rfl, ⟨rfl, trivial⟩⟩⟩⟩⟩⟩⟩
      · refine xo_iload rfl dX12_answer_47 ?_
        refine xo_iconst kc_1 dX12_answer_49 ?_
        refine xo_icmp_ne (tgt := 84) dX12_answer_50 rfl (fun _ => ?_) (fun _ => ?_)
        · exact mk_O.wk (o_X12_answer_53 _ ih x0 x1 x3 x4 x5 v4 v6 t) ⟨rfl, ⟨rfl, ⟨rfl, ⟨rfl, ⟨rfl, ⟨rfl, ⟨rfl, trivial⟩⟩⟩⟩⟩⟩⟩
        · refine xo_iload rfl dX12_answer_84 ?_
          refine xo_bipush kb_9 dX12_answer_86 ?_
          refine xo_icmp_ne (tgt := 114) dX12_answer_88 rfl (fun _ => ?_) (fun _ => ?_)
          · refine xo_aload_n rfl rfl dX12_answer_91 ?_
            refine xo_geta dX12_answer_92 cl_11 fl_RX12_121 rfl (fun v7 => ?_)
            refine xo_iload rfl dX12_answer_95 ?_
            refine xo_iconst kc_1 dX12_answer_97 ?_
            refine xo_isub dX12_answer_98 ?_
            refine xo_lconst kl_1 dX12_answer_99 ?_
            refine xo_aload_n rfl rfl dX12_answer_100 ?_
            refine xo_geta dX12_answer_101 cl_11 fl_RX12_121 rfl (fun v8 => ?_)
            refine xo_iload rfl dX12_answer_104 ?_
            refine xo_iconst kc_1 dX12_answer_106 ?_
            refine xo_isub dX12_answer_107 ?_
            refine xo_lald dX12_answer_108 (fun v9 => ?_)
            refine xo_lsub dX12_answer_109 ?_
            refine xo_last dX12_answer_110 (fun t10 => ?_)
            refine xo_goto (tgt := 147) dX12_answer_111 rfl ?_
            exact mk_O.wk (o_X12_answer_147 _ ih x0 x1 x3 x4 x5 t10) ⟨rfl, ⟨rfl, ⟨rfl, ⟨rfl, ⟨rfl, trivial⟩⟩⟩⟩⟩
          · refine xo_iinc rfl (congrArg _ kc_m1) (by decide) (mk_p1_v rfl rfl) dX12_answer_114 ?_
            refine xo_aload_n rfl rfl dX12_answer_117 ?_
            refine xo_geta dX12_answer_118 cl_11 fl_RX12_121 rfl (fun v11 => ?_)
            refine xo_iload rfl dX12_answer_121 ?_
            refine xo_iconst kc_1 dX12_answer_123 ?_
            refine xo_isub dX12_answer_124 ?_
            refine xo_iload rfl dX12_answer_125 ?_
            refine xo_aload_n rfl rfl dX12_answer_127 ?_
            refine xo_geta dX12_answer_128 cl_11 fl_RX12_121 rfl (fun v12 => ?_)
            refine xo_iload rfl dX12_answer_131 ?_
            refine xo_iconst kc_1 dX12_answer_133 ?_
            refine xo_isub dX12_answer_134 ?_
            refine xo_lald dX12_answer_135 (fun v13 => ?_)
            refine xo_aload_n rfl rfl dX12_answer_136 ?_
            refine xo_geta dX12_answer_137 cl_11 fl_RX12_121 rfl (fun v14 => ?_)
            refine xo_iload rfl dX12_answer_140 ?_
            refine xo_lald dX12_answer_142 (fun v15 => ?_)
            refine mk_O.callS (N := M_X12_both) (As := [.int v4, .long v13, .long v15]) (S := [.int ((x4 + (-1 : Int32)) - (1 : Int32)), .ref v11]) md_X12_both ms_X12_both lk_RX12_354 rfl (Nat.le_of_ble_eq_true rfl) (by decide) dX12_answer_143 rfl (fun z hz => c_X12_both v4 v13 v15 t z hz) (fun z16 _ => ?_)
            show mk_O _ _ _ _ (.long z16.1 :: [.int ((x4 + (-1 : Int32)) - (1 : Int32)), .ref v11]) _ _
            refine xo_last dX12_answer_146 (fun t17 => ?_)
            exact mk_O.wk (o_X12_answer_147 _ ih x0 x1 x3 (x4 + (-1 : Int32)) x5 t17) ⟨rfl, ⟨rfl, ⟨rfl, ⟨rfl, ⟨rfl, trivial⟩⟩⟩⟩⟩
theorem p_X12_answer (x0 : Nat) (x1 : Int32) (x2 : Int32) (x3 : Int32) (t : mk_S) : mk_O mk_wl M_X12_answer 0 [some (.ref x0), some (.int x1), some (.int x2), some (.int x3), none, none, none, none] [] t (B_X12_answer_6 mk_fu x0 x1 x3 (0 : Int32) x2 t) := by
  refine xo_iconst kc_0 dX12_answer_0 ?_
  refine xo_istore (by decide) (mk_p1_v rfl rfl) dX12_answer_1 ?_
  refine xo_iload_n rfl rfl dX12_answer_3 ?_
  refine xo_istore (by decide) (mk_p1_v rfl rfl) dX12_answer_4 ?_
  exact mk_O.wk (o_X12_answer_6 mk_fu x0 x1 x3 (0 : Int32) x2 t) ⟨rfl, ⟨rfl, ⟨rfl, ⟨rfl, ⟨rfl, trivial⟩⟩⟩⟩⟩
theorem c_X12_answer (x0 : Nat) (x1 : Int32) (x2 : Int32) (x3 : Int32) (t : mk_S) (z : Int64 × mk_S) (h : F_X12_answer x0 x1 x2 x3 t = some z) : mk_is t x0 11 ∧ mk_Ct M_X12_answer [.ref x0, .int x1, .int x2, .int x3] t (mk_wl z.1, z.2) :=
  ⟨(mk_gd_spec h).1, mk_ct (w := mk_wl) (by decide +kernel) (Nat.le_of_ble_eq_true rfl) (p_X12_answer x0 x1 x2 x3 t) z (mk_gd_spec h).2⟩
def B_X12_wanted_65 (x0 : Nat) (x1 : Int32) (x2 : Int32) (t : mk_S) : Option (Int64 × mk_S) := (mk_ga t x0 11 41).bind fun v1 => (mk_ld 100 t v1 x2).bind fun v2 => (mk_ga t x0 11 42).bind fun v3 => (mk_ld 100 t v3 x2).bind fun v4 => (F_X12_answer x0 x1 v2 v4 t).bind fun z5 => some (z5.1, z5.2)
def B_X12_wanted_13 : Nat → Nat → Int32 → Int32 → mk_S → Option (Int64 × mk_S)
  | 0, _, _, _, _ => none
  | n + 1, x0, x1, x2, t => (mk_ga t x0 11 40).bind fun v1 => (mk_ld 100 t v1 x1).bind fun v2 => if (((12 : Int32) * x1) + v2) ≤ x2 then (some ((0 : Int64), t)) else ((mk_ga t x0 11 42).bind fun v3 => (mk_ld 100 t v3 x2).bind fun v4 => (mk_ga t x0 11 43).bind fun v5 => (mk_ld 100 t v5 x2).bind fun v6 => if v4 = v6 then (B_X12_wanted_65 x0 x1 x2 t) else ((mk_ga t x0 11 42).bind fun v7 => (mk_ld 100 t v7 x2).bind fun v8 => (mk_ga t x0 11 43).bind fun v9 => (mk_ld 100 t v9 x2).bind fun v10 => (F_X12_answer x0 x1 v8 v10 t).bind fun z11 => if (lg_cmp z11.1 (1 : Int64)) = 0 then (B_X12_wanted_65 x0 x1 x2 z11.2) else (B_X12_wanted_13 n x0 x1 (x2 + (1 : Int32)) z11.2)))
def F_X12_wanted (x0 : Nat) (t : mk_S) : Option (Int64 × mk_S) := mk_gd t x0 11 ((mk_ga t x0 11 1).bind fun v1 => (mk_ld 100 t v1 (9 : Int32)).bind fun v2 => B_X12_wanted_13 mk_fu x0 v2 ((12 : Int32) * v2) t)
theorem o_X12_wanted_65 (x0 : Nat) (x1 : Int32) (x2 : Int32) (t : mk_S) : mk_O mk_wl M_X12_wanted 65 [some (.ref x0), some (.int x1), some (.int x2)] [] t (B_X12_wanted_65 x0 x1 x2 t) := by
  unfold B_X12_wanted_65
  refine xo_aload_n rfl rfl dX12_wanted_65 ?_
  refine xo_iload_n rfl rfl dX12_wanted_66 ?_
  refine xo_aload_n rfl rfl dX12_wanted_67 ?_
  refine xo_geta dX12_wanted_68 cl_11 fl_RX12_105 rfl (fun v1 => ?_)
  refine xo_iload_n rfl rfl dX12_wanted_71 ?_
  refine xo_iald dX12_wanted_72 (fun v2 => ?_)
  refine xo_aload_n rfl rfl dX12_wanted_73 ?_
  refine xo_geta dX12_wanted_74 cl_11 fl_RX12_108 rfl (fun v3 => ?_)
  refine xo_iload_n rfl rfl dX12_wanted_77 ?_
  refine xo_iald dX12_wanted_78 (fun v4 => ?_)
  refine mk_O.callV (N := M_X12_answer) (ci := 11) (q := (RX12, TX12, 64)) (b := x0) (As1 := [.int x1, .int v2, .int v4]) (S := []) md_X12_answer mv_X12_answer lk_RX12_346 rfl (Nat.le_of_ble_eq_true rfl) (by decide) dX12_wanted_79 rfl rfl rfl (fun z hz => (c_X12_answer x0 x1 v2 v4 t z hz).1) (fun z hz => (c_X12_answer x0 x1 v2 v4 t z hz).2) (fun z5 _ => ?_)
  show mk_O _ _ _ _ (.long z5.1 :: []) _ _
  exact xo_lret dX12_wanted_82 rfl
theorem o_X12_wanted_13 : ∀ (n : Nat) (x0 : Nat) (x1 : Int32) (x2 : Int32) (t : mk_S), mk_O mk_wl M_X12_wanted 13 [some (.ref x0), some (.int x1), some (.int x2)] [] t (B_X12_wanted_13 n x0 x1 x2 t) := by
  intro n
  induction n with
  | zero =>
    intro x0 x1 x2 t
    exact mk_O.none
  | succ n ih =>
    intro x0 x1 x2 t
    rw [B_X12_wanted_13]
    refine xo_iload_n rfl rfl dX12_wanted_13 ?_
    refine xo_bipush kb_12 dX12_wanted_14 ?_
    refine xo_iload_n rfl rfl dX12_wanted_16 ?_
    refine xo_imul dX12_wanted_17 ?_
    refine xo_aload_n rfl rfl dX12_wanted_18 ?_
    refine xo_geta dX12_wanted_19 cl_11 fl_RX12_102 rfl (fun v1 => ?_)
    refine xo_iload_n rfl rfl dX12_wanted_22 ?_
    refine xo_iald dX12_wanted_23 (fun v2 => ?_)
    refine xo_iadd dX12_wanted_24 ?_
    refine xo_icmp_ge (tgt := 89) dX12_wanted_25 rfl (fun _ => ?_) (fun _ => ?_)
    · refine xo_lconst kl_0 dX12_wanted_89 ?_
      exact xo_lret dX12_wanted_90 rfl
    · refine xo_aload_n rfl rfl dX12_wanted_28 ?_
      refine xo_geta dX12_wanted_29 cl_11 fl_RX12_108 rfl (fun v3 => ?_)
      refine xo_iload_n rfl rfl dX12_wanted_32 ?_
      refine xo_iald dX12_wanted_33 (fun v4 => ?_)
      refine xo_aload_n rfl rfl dX12_wanted_34 ?_
      refine xo_geta dX12_wanted_35 cl_11 fl_RX12_111 rfl (fun v5 => ?_)
      refine xo_iload_n rfl rfl dX12_wanted_38 ?_
      refine xo_iald dX12_wanted_39 (fun v6 => ?_)
      refine xo_icmp_eq (tgt := 65) dX12_wanted_40 rfl (fun _ => ?_) (fun _ => ?_)
      · exact mk_O.wk (o_X12_wanted_65 x0 x1 x2 t) ⟨rfl, ⟨rfl, ⟨rfl, trivial⟩⟩⟩
      · refine xo_aload_n rfl rfl dX12_wanted_43 ?_
        refine xo_iload_n rfl rfl dX12_wanted_44 ?_
        refine xo_aload_n rfl rfl dX12_wanted_45 ?_
        refine xo_geta dX12_wanted_46 cl_11 fl_RX12_108 rfl (fun v7 => ?_)
        refine xo_iload_n rfl rfl dX12_wanted_49 ?_
        refine xo_iald dX12_wanted_50 (fun v8 => ?_)
        refine xo_aload_n rfl rfl dX12_wanted_51 ?_
        refine xo_geta dX12_wanted_52 cl_11 fl_RX12_111 rfl (fun v9 => ?_)
        refine xo_iload_n rfl rfl dX12_wanted_55 ?_
        refine xo_iald dX12_wanted_56 (fun v10 => ?_)
        refine mk_O.callV (N := M_X12_answer) (ci := 11) (q := (RX12, TX12, 64)) (b := x0) (As1 := [.int x1, .int v8, .int v10]) (S := []) md_X12_answer mv_X12_answer lk_RX12_346 rfl (Nat.le_of_ble_eq_true rfl) (by decide) dX12_wanted_57 rfl rfl rfl (fun z hz => (c_X12_answer x0 x1 v8 v10 t z hz).1) (fun z hz => (c_X12_answer x0 x1 v8 v10 t z hz).2) (fun z11 _ => ?_)
        show mk_O _ _ _ _ (.long z11.1 :: []) _ _
        refine xo_lconst kl_1 dX12_wanted_60 ?_
        refine xo_lcmp dX12_wanted_61 ?_
        refine xo_if_ne (tgt := 83) dX12_wanted_62 rfl (fun _ => ?_) (fun _ => ?_)
        · exact mk_O.wk (o_X12_wanted_65 x0 x1 x2 z11.2) ⟨rfl, ⟨rfl, ⟨rfl, trivial⟩⟩⟩
        · refine xo_iinc rfl (congrArg _ kc_1) (by decide) (mk_p1_v rfl rfl) dX12_wanted_83 ?_
          refine xo_goto (tgt := 13) dX12_wanted_86 rfl ?_
          exact mk_O.wk (ih x0 x1 (x2 + (1 : Int32)) z11.2) ⟨rfl, ⟨rfl, ⟨rfl, trivial⟩⟩⟩
theorem p_X12_wanted (x0 : Nat) (t : mk_S) : mk_O mk_wl M_X12_wanted 0 [some (.ref x0), none, none] [] t ((mk_ga t x0 11 1).bind fun v1 => (mk_ld 100 t v1 (9 : Int32)).bind fun v2 => B_X12_wanted_13 mk_fu x0 v2 ((12 : Int32) * v2) t) := by
  refine xo_aload_n rfl rfl dX12_wanted_0 ?_
  refine xo_geta dX12_wanted_1 cl_11 fl_RX12_9 rfl (fun v1 => ?_)
  refine xo_bipush kb_9 dX12_wanted_4 ?_
  refine xo_iald dX12_wanted_6 (fun v2 => ?_)
  refine xo_istore_n rfl (by decide) (mk_p1_v rfl rfl) dX12_wanted_7 ?_
  refine xo_bipush kb_12 dX12_wanted_8 ?_
  refine xo_iload_n rfl rfl dX12_wanted_10 ?_
  refine xo_imul dX12_wanted_11 ?_
  refine xo_istore_n rfl (by decide) (mk_p1_v rfl rfl) dX12_wanted_12 ?_
  exact mk_O.wk (o_X12_wanted_13 mk_fu x0 v2 ((12 : Int32) * v2) t) ⟨rfl, ⟨rfl, ⟨rfl, trivial⟩⟩⟩
theorem c_X12_wanted (x0 : Nat) (t : mk_S) (z : Int64 × mk_S) (h : F_X12_wanted x0 t = some z) : mk_is t x0 11 ∧ mk_Ct M_X12_wanted [.ref x0] t (mk_wl z.1, z.2) :=
  ⟨(mk_gd_spec h).1, mk_ct (w := mk_wl) (by decide +kernel) (Nat.le_of_ble_eq_true rfl) (p_X12_wanted x0 t) z (mk_gd_spec h).2⟩
def F_X12_sinceOf (x0 : Nat) (x1 : Int32) (t : mk_S) : Option (Int32 × mk_S) := mk_gd t x0 11 ((mk_ga t x0 11 1).bind fun v1 => (mk_ld 100 t v1 (5 : Int32)).bind fun v2 => (mk_ga t x0 11 6).bind fun v3 => (mk_ld 100 t v3 x1).bind fun v4 => if (v2 - v4) ≤ (99 : Int32) then ((mk_ga t x0 11 1).bind fun v5 => (mk_ld 100 t v5 (5 : Int32)).bind fun v6 => (mk_ga t x0 11 6).bind fun v7 => (mk_ld 100 t v7 x1).bind fun v8 => some ((v6 - v8), t)) else (some ((99 : Int32), t)))
theorem p_X12_sinceOf (x0 : Nat) (x1 : Int32) (t : mk_S) : mk_O mk_wi M_X12_sinceOf 0 [some (.ref x0), some (.int x1)] [] t ((mk_ga t x0 11 1).bind fun v1 => (mk_ld 100 t v1 (5 : Int32)).bind fun v2 => (mk_ga t x0 11 6).bind fun v3 => (mk_ld 100 t v3 x1).bind fun v4 => if (v2 - v4) ≤ (99 : Int32) then ((mk_ga t x0 11 1).bind fun v5 => (mk_ld 100 t v5 (5 : Int32)).bind fun v6 => (mk_ga t x0 11 6).bind fun v7 => (mk_ld 100 t v7 x1).bind fun v8 => some ((v6 - v8), t)) else (some ((99 : Int32), t))) := by
  refine xo_aload_n rfl rfl dX12_sinceOf_0 ?_
  refine xo_geta dX12_sinceOf_1 cl_11 fl_RX12_9 rfl (fun v1 => ?_)
  refine xo_iconst kc_5 dX12_sinceOf_4 ?_
  refine xo_iald dX12_sinceOf_5 (fun v2 => ?_)
  refine xo_aload_n rfl rfl dX12_sinceOf_6 ?_
  refine xo_geta dX12_sinceOf_7 cl_11 fl_RX12_25 rfl (fun v3 => ?_)
  refine xo_iload_n rfl rfl dX12_sinceOf_10 ?_
  refine xo_iald dX12_sinceOf_11 (fun v4 => ?_)
  refine xo_isub dX12_sinceOf_12 ?_
  refine xo_bipush kb_99 dX12_sinceOf_13 ?_
  refine xo_icmp_le (tgt := 23) dX12_sinceOf_15 rfl (fun _ => ?_) (fun _ => ?_)
  · refine xo_aload_n rfl rfl dX12_sinceOf_23 ?_
    refine xo_geta dX12_sinceOf_24 cl_11 fl_RX12_9 rfl (fun v5 => ?_)
    refine xo_iconst kc_5 dX12_sinceOf_27 ?_
    refine xo_iald dX12_sinceOf_28 (fun v6 => ?_)
    refine xo_aload_n rfl rfl dX12_sinceOf_29 ?_
    refine xo_geta dX12_sinceOf_30 cl_11 fl_RX12_25 rfl (fun v7 => ?_)
    refine xo_iload_n rfl rfl dX12_sinceOf_33 ?_
    refine xo_iald dX12_sinceOf_34 (fun v8 => ?_)
    refine xo_isub dX12_sinceOf_35 ?_
    exact xo_iret dX12_sinceOf_36 rfl
  · refine xo_bipush kb_99 dX12_sinceOf_18 ?_
    refine xo_goto (tgt := 36) dX12_sinceOf_20 rfl ?_
    exact xo_iret dX12_sinceOf_36 rfl
theorem c_X12_sinceOf (x0 : Nat) (x1 : Int32) (t : mk_S) (z : Int32 × mk_S) (h : F_X12_sinceOf x0 x1 t = some z) : mk_is t x0 11 ∧ mk_Ct M_X12_sinceOf [.ref x0, .int x1] t (mk_wi z.1, z.2) :=
  ⟨(mk_gd_spec h).1, mk_ct (w := mk_wi) (by decide +kernel) (Nat.le_of_ble_eq_true rfl) (p_X12_sinceOf x0 x1 t) z (mk_gd_spec h).2⟩
def F_X12_person (x0 : Nat) (x1 : Int32) (x2 : Int32) (t : mk_S) : Option (Int32 × mk_S) := mk_gd t x0 11 ((F_X12_isPerson x0 x1 t).bind fun z1 => if z1.1 = 0 then (some ((-1 : Int32), z1.2)) else (if x2 = (0 : Int32) then ((mk_ga z1.2 x0 11 2).bind fun v2 => (mk_ld 100 z1.2 v2 x1).bind fun v3 => some (v3, z1.2)) else (if x2 = (1 : Int32) then ((mk_ga z1.2 x0 11 9).bind fun v4 => (mk_ld 100 z1.2 v4 x1).bind fun v5 => some (v5, z1.2)) else (if x2 = (2 : Int32) then ((mk_ga z1.2 x0 11 3).bind fun v6 => (mk_ld 100 z1.2 v6 x1).bind fun v7 => some (v7, z1.2)) else (if x2 = (3 : Int32) then ((mk_ga z1.2 x0 11 4).bind fun v8 => (mk_ld 100 z1.2 v8 x1).bind fun v9 => some (v9, z1.2)) else (if x2 = (4 : Int32) then ((mk_ga z1.2 x0 11 5).bind fun v10 => (mk_ld 100 z1.2 v10 x1).bind fun v11 => some (v11, z1.2)) else (if x2 = (5 : Int32) then ((F_X12_sinceOf x0 x1 z1.2).bind fun z12 => some (z12.1, z12.2)) else (some ((-1 : Int32), z1.2)))))))))
theorem p_X12_person (x0 : Nat) (x1 : Int32) (x2 : Int32) (t : mk_S) : mk_O mk_wi M_X12_person 0 [some (.ref x0), some (.int x1), some (.int x2)] [] t ((F_X12_isPerson x0 x1 t).bind fun z1 => if z1.1 = 0 then (some ((-1 : Int32), z1.2)) else (if x2 = (0 : Int32) then ((mk_ga z1.2 x0 11 2).bind fun v2 => (mk_ld 100 z1.2 v2 x1).bind fun v3 => some (v3, z1.2)) else (if x2 = (1 : Int32) then ((mk_ga z1.2 x0 11 9).bind fun v4 => (mk_ld 100 z1.2 v4 x1).bind fun v5 => some (v5, z1.2)) else (if x2 = (2 : Int32) then ((mk_ga z1.2 x0 11 3).bind fun v6 => (mk_ld 100 z1.2 v6 x1).bind fun v7 => some (v7, z1.2)) else (if x2 = (3 : Int32) then ((mk_ga z1.2 x0 11 4).bind fun v8 => (mk_ld 100 z1.2 v8 x1).bind fun v9 => some (v9, z1.2)) else (if x2 = (4 : Int32) then ((mk_ga z1.2 x0 11 5).bind fun v10 => (mk_ld 100 z1.2 v10 x1).bind fun v11 => some (v11, z1.2)) else (if x2 = (5 : Int32) then ((F_X12_sinceOf x0 x1 z1.2).bind fun z12 => some (z12.1, z12.2)) else (some ((-1 : Int32), z1.2))))))))) := by
  refine xo_aload_n rfl rfl dX12_person_0 ?_
  refine xo_iload_n rfl rfl dX12_person_1 ?_
  refine mk_O.callV (N := M_X12_isPerson) (ci := 11) (q := (RX12, TX12, 64)) (b := x0) (As1 := [.int x1]) (S := []) md_X12_isPerson mv_X12_isPerson lk_RX12_358 rfl (Nat.le_of_ble_eq_true rfl) (by decide) dX12_person_2 rfl rfl rfl (fun z hz => (c_X12_isPerson x0 x1 t z hz).1) (fun z hz => (c_X12_isPerson x0 x1 t z hz).2) (fun z1 _ => ?_)
  show mk_O _ _ _ _ (.int z1.1 :: []) _ _
  refine xo_if_ne (tgt := 10) dX12_person_5 rfl (fun _ => ?_) (fun _ => ?_)
  · refine xo_iconst kc_m1 dX12_person_8 ?_
    exact xo_iret dX12_person_9 rfl
  · refine xo_iload_n rfl rfl dX12_person_10 ?_
    refine mk_O.cs (fun n0 => ?_) (fun n0 => ?_)
    · refine xo_tab (kx := 0) (j := 0) n0 dX12_person_11 (by decide) (by decide) (by decide) rfl rfl ?_
      refine xo_aload_n rfl rfl dX12_person_48 ?_
      refine xo_geta dX12_person_49 cl_11 fl_RX12_13 rfl (fun v2 => ?_)
      refine xo_iload_n rfl rfl dX12_person_52 ?_
      refine xo_iald dX12_person_53 (fun v3 => ?_)
      exact xo_iret dX12_person_54 rfl
    · refine mk_O.cs (fun n1 => ?_) (fun n1 => ?_)
      · refine xo_tab (kx := 1) (j := 1) n1 dX12_person_11 (by decide) (by decide) (by decide) rfl rfl ?_
        refine xo_aload_n rfl rfl dX12_person_55 ?_
        refine xo_geta dX12_person_56 cl_11 fl_RX12_34 rfl (fun v4 => ?_)
        refine xo_iload_n rfl rfl dX12_person_59 ?_
        refine xo_iald dX12_person_60 (fun v5 => ?_)
        exact xo_iret dX12_person_61 rfl
      · refine mk_O.cs (fun n2 => ?_) (fun n2 => ?_)
        · refine xo_tab (kx := 2) (j := 2) n2 dX12_person_11 (by decide) (by decide) (by decide) rfl rfl ?_
          refine xo_aload_n rfl rfl dX12_person_62 ?_
          refine xo_geta dX12_person_63 cl_11 fl_RX12_16 rfl (fun v6 => ?_)
          refine xo_iload_n rfl rfl dX12_person_66 ?_
          refine xo_iald dX12_person_67 (fun v7 => ?_)
          exact xo_iret dX12_person_68 rfl
        · refine mk_O.cs (fun n3 => ?_) (fun n3 => ?_)
          · refine xo_tab (kx := 3) (j := 3) n3 dX12_person_11 (by decide) (by decide) (by decide) rfl rfl ?_
            refine xo_aload_n rfl rfl dX12_person_69 ?_
            refine xo_geta dX12_person_70 cl_11 fl_RX12_19 rfl (fun v8 => ?_)
            refine xo_iload_n rfl rfl dX12_person_73 ?_
            refine xo_iald dX12_person_74 (fun v9 => ?_)
            exact xo_iret dX12_person_75 rfl
          · refine mk_O.cs (fun n4 => ?_) (fun n4 => ?_)
            · refine xo_tab (kx := 4) (j := 4) n4 dX12_person_11 (by decide) (by decide) (by decide) rfl rfl ?_
              refine xo_aload_n rfl rfl dX12_person_76 ?_
              refine xo_geta dX12_person_77 cl_11 fl_RX12_22 rfl (fun v10 => ?_)
              refine xo_iload_n rfl rfl dX12_person_80 ?_
              refine xo_iald dX12_person_81 (fun v11 => ?_)
              exact xo_iret dX12_person_82 rfl
            · refine mk_O.cs (fun n5 => ?_) (fun n5 => ?_)
              · refine xo_tab (kx := 5) (j := 5) n5 dX12_person_11 (by decide) (by decide) (by decide) rfl rfl ?_
                refine xo_aload_n rfl rfl dX12_person_83 ?_
                refine xo_iload_n rfl rfl dX12_person_84 ?_
                refine mk_O.callV (N := M_X12_sinceOf) (ci := 11) (q := (RX12, TX12, 64)) (b := x0) (As1 := [.int x1]) (S := []) md_X12_sinceOf mv_X12_sinceOf lk_RX12_362 rfl (Nat.le_of_ble_eq_true rfl) (by decide) dX12_person_85 rfl rfl rfl (fun z hz => (c_X12_sinceOf x0 x1 z1.2 z hz).1) (fun z hz => (c_X12_sinceOf x0 x1 z1.2 z hz).2) (fun z12 _ => ?_)
                show mk_O _ _ _ _ (.int z12.1 :: []) _ _
                exact xo_iret dX12_person_88 rfl
              · refine xo_tabo dX12_person_11 (by have q0 := lv_neT (a := 0) n0 (by decide); have q1 := lv_neT (a := 1) n1 (by decide); have q2 := lv_neT (a := 2) n2 (by decide); have q3 := lv_neT (a := 3) n3 (by decide); have q4 := lv_neT (a := 4) n4 (by decide); have q5 := lv_neT (a := 5) n5 (by decide); omega) rfl ?_
                refine xo_iconst kc_m1 dX12_person_89 ?_
                exact xo_iret dX12_person_90 rfl
theorem c_X12_person (x0 : Nat) (x1 : Int32) (x2 : Int32) (t : mk_S) (z : Int32 × mk_S) (h : F_X12_person x0 x1 x2 t = some z) : mk_is t x0 11 ∧ mk_Ct M_X12_person [.ref x0, .int x1, .int x2] t (mk_wi z.1, z.2) :=
  ⟨(mk_gd_spec h).1, mk_ct (w := mk_wi) (by decide +kernel) (Nat.le_of_ble_eq_true rfl) (p_X12_person x0 x1 x2 t) z (mk_gd_spec h).2⟩
def F_X12_mill (x0 : Nat) (x1 : Int32) (x2 : Int32) (t : mk_S) : Option (Int32 × mk_S) := mk_gd t x0 11 ((F_X12_isMill x0 x1 t).bind fun z1 => if z1.1 = 0 then (some ((-1 : Int32), z1.2)) else ((F_X12_in ((x2).toInt64) (0 : Int64) (2 : Int64) z1.2).bind fun z2 => if z2.1 = 0 then (some ((-1 : Int32), z2.2)) else (if x2 = 0 then ((mk_ga z2.2 x0 11 10).bind fun v3 => (mk_ld 100 z2.2 v3 x1).bind fun v4 => some (v4, z2.2)) else (if x2 = (1 : Int32) then ((mk_ga z2.2 x0 11 11).bind fun v5 => (mk_ld 100 z2.2 v5 x1).bind fun v6 => some (v6, z2.2)) else ((mk_ga z2.2 x0 11 7).bind fun v7 => (mk_ld 100 z2.2 v7 x1).bind fun v8 => some (v8, z2.2))))))
theorem p_X12_mill (x0 : Nat) (x1 : Int32) (x2 : Int32) (t : mk_S) : mk_O mk_wi M_X12_mill 0 [some (.ref x0), some (.int x1), some (.int x2)] [] t ((F_X12_isMill x0 x1 t).bind fun z1 => if z1.1 = 0 then (some ((-1 : Int32), z1.2)) else ((F_X12_in ((x2).toInt64) (0 : Int64) (2 : Int64) z1.2).bind fun z2 => if z2.1 = 0 then (some ((-1 : Int32), z2.2)) else (if x2 = 0 then ((mk_ga z2.2 x0 11 10).bind fun v3 => (mk_ld 100 z2.2 v3 x1).bind fun v4 => some (v4, z2.2)) else (if x2 = (1 : Int32) then ((mk_ga z2.2 x0 11 11).bind fun v5 => (mk_ld 100 z2.2 v5 x1).bind fun v6 => some (v6, z2.2)) else ((mk_ga z2.2 x0 11 7).bind fun v7 => (mk_ld 100 z2.2 v7 x1).bind fun v8 => some (v8, z2.2)))))) := by
  refine xo_aload_n rfl rfl dX12_mill_0 ?_
  refine xo_iload_n rfl rfl dX12_mill_1 ?_
  refine mk_O.callV (N := M_X12_isMill) (ci := 11) (q := (RX12, TX12, 64)) (b := x0) (As1 := [.int x1]) (S := []) md_X12_isMill mv_X12_isMill lk_RX12_365 rfl (Nat.le_of_ble_eq_true rfl) (by decide) dX12_mill_2 rfl rfl rfl (fun z hz => (c_X12_isMill x0 x1 t z hz).1) (fun z hz => (c_X12_isMill x0 x1 t z hz).2) (fun z1 _ => ?_)
  show mk_O _ _ _ _ (.int z1.1 :: []) _ _
  refine xo_if_eq (tgt := 20) dX12_mill_5 rfl (fun _ => ?_) (fun _ => ?_)
  · refine xo_iconst kc_m1 dX12_mill_20 ?_
    exact xo_iret dX12_mill_21 rfl
  · refine xo_iload_n rfl rfl dX12_mill_8 ?_
    refine xo_i2l dX12_mill_9 ?_
    refine xo_lconst kl_0 dX12_mill_10 ?_
    refine xo_ldc2 (v := 2) (mk_w7 (i := 70) rfl rfl) dX12_mill_11 ?_
    refine mk_O.callS (N := M_X12_in) (As := [.long ((x2).toInt64), .long (0 : Int64), .long (2 : Int64)]) (S := []) md_X12_in ms_X12_in lk_RX12_159 rfl (Nat.le_of_ble_eq_true rfl) (by decide) dX12_mill_14 rfl (fun z hz => c_X12_in ((x2).toInt64) (0 : Int64) (2 : Int64) z1.2 z hz) (fun z2 _ => ?_)
    show mk_O _ _ _ _ (.int z2.1 :: []) _ _
    refine xo_if_ne (tgt := 22) dX12_mill_17 rfl (fun _ => ?_) (fun _ => ?_)
    · refine xo_iconst kc_m1 dX12_mill_20 ?_
      exact xo_iret dX12_mill_21 rfl
    · refine xo_iload_n rfl rfl dX12_mill_22 ?_
      refine xo_if_ne (tgt := 35) dX12_mill_23 rfl (fun _ => ?_) (fun _ => ?_)
      · refine xo_aload_n rfl rfl dX12_mill_26 ?_
        refine xo_geta dX12_mill_27 cl_11 fl_RX12_37 rfl (fun v3 => ?_)
        refine xo_iload_n rfl rfl dX12_mill_30 ?_
        refine xo_iald dX12_mill_31 (fun v4 => ?_)
        refine xo_goto (tgt := 55) dX12_mill_32 rfl ?_
        exact xo_iret dX12_mill_55 rfl
      · refine xo_iload_n rfl rfl dX12_mill_35 ?_
        refine xo_iconst kc_1 dX12_mill_36 ?_
        refine xo_icmp_ne (tgt := 49) dX12_mill_37 rfl (fun _ => ?_) (fun _ => ?_)
        · refine xo_aload_n rfl rfl dX12_mill_40 ?_
          refine xo_geta dX12_mill_41 cl_11 fl_RX12_40 rfl (fun v5 => ?_)
          refine xo_iload_n rfl rfl dX12_mill_44 ?_
          refine xo_iald dX12_mill_45 (fun v6 => ?_)
          refine xo_goto (tgt := 55) dX12_mill_46 rfl ?_
          exact xo_iret dX12_mill_55 rfl
        · refine xo_aload_n rfl rfl dX12_mill_49 ?_
          refine xo_geta dX12_mill_50 cl_11 fl_RX12_28 rfl (fun v7 => ?_)
          refine xo_iload_n rfl rfl dX12_mill_53 ?_
          refine xo_iald dX12_mill_54 (fun v8 => ?_)
          exact xo_iret dX12_mill_55 rfl
theorem c_X12_mill (x0 : Nat) (x1 : Int32) (x2 : Int32) (t : mk_S) (z : Int32 × mk_S) (h : F_X12_mill x0 x1 x2 t = some z) : mk_is t x0 11 ∧ mk_Ct M_X12_mill [.ref x0, .int x1, .int x2] t (mk_wi z.1, z.2) :=
  ⟨(mk_gd_spec h).1, mk_ct (w := mk_wi) (by decide +kernel) (Nat.le_of_ble_eq_true rfl) (p_X12_mill x0 x1 x2 t) z (mk_gd_spec h).2⟩
def F_X12_roof (x0 : Nat) (x1 : Int32) (x2 : Int32) (t : mk_S) : Option (Int32 × mk_S) := mk_gd t x0 11 ((F_X12_isRoof x0 x1 t).bind fun z1 => if z1.1 = 0 then (some ((-1 : Int32), z1.2)) else ((F_X12_in ((x2).toInt64) (0 : Int64) (2 : Int64) z1.2).bind fun z2 => if z2.1 = 0 then (some ((-1 : Int32), z2.2)) else (if x2 = 0 then ((mk_ga z2.2 x0 11 12).bind fun v3 => (mk_ld 100 z2.2 v3 x1).bind fun v4 => some (v4, z2.2)) else (if x2 = (1 : Int32) then ((mk_ga z2.2 x0 11 13).bind fun v5 => (mk_ld 100 z2.2 v5 x1).bind fun v6 => some (v6, z2.2)) else ((mk_ga z2.2 x0 11 1).bind fun v7 => (mk_ld 100 z2.2 v7 (6 : Int32)).bind fun v8 => some (((v8 >>> (x1 &&& 31)) &&& (1 : Int32)), z2.2))))))
theorem p_X12_roof (x0 : Nat) (x1 : Int32) (x2 : Int32) (t : mk_S) : mk_O mk_wi M_X12_roof 0 [some (.ref x0), some (.int x1), some (.int x2)] [] t ((F_X12_isRoof x0 x1 t).bind fun z1 => if z1.1 = 0 then (some ((-1 : Int32), z1.2)) else ((F_X12_in ((x2).toInt64) (0 : Int64) (2 : Int64) z1.2).bind fun z2 => if z2.1 = 0 then (some ((-1 : Int32), z2.2)) else (if x2 = 0 then ((mk_ga z2.2 x0 11 12).bind fun v3 => (mk_ld 100 z2.2 v3 x1).bind fun v4 => some (v4, z2.2)) else (if x2 = (1 : Int32) then ((mk_ga z2.2 x0 11 13).bind fun v5 => (mk_ld 100 z2.2 v5 x1).bind fun v6 => some (v6, z2.2)) else ((mk_ga z2.2 x0 11 1).bind fun v7 => (mk_ld 100 z2.2 v7 (6 : Int32)).bind fun v8 => some (((v8 >>> (x1 &&& 31)) &&& (1 : Int32)), z2.2)))))) := by
  refine xo_aload_n rfl rfl dX12_roof_0 ?_
  refine xo_iload_n rfl rfl dX12_roof_1 ?_
  refine mk_O.callV (N := M_X12_isRoof) (ci := 11) (q := (RX12, TX12, 64)) (b := x0) (As1 := [.int x1]) (S := []) md_X12_isRoof mv_X12_isRoof lk_RX12_370 rfl (Nat.le_of_ble_eq_true rfl) (by decide) dX12_roof_2 rfl rfl rfl (fun z hz => (c_X12_isRoof x0 x1 t z hz).1) (fun z hz => (c_X12_isRoof x0 x1 t z hz).2) (fun z1 _ => ?_)
  show mk_O _ _ _ _ (.int z1.1 :: []) _ _
  refine xo_if_eq (tgt := 20) dX12_roof_5 rfl (fun _ => ?_) (fun _ => ?_)
  · refine xo_iconst kc_m1 dX12_roof_20 ?_
    exact xo_iret dX12_roof_21 rfl
  · refine xo_iload_n rfl rfl dX12_roof_8 ?_
    refine xo_i2l dX12_roof_9 ?_
    refine xo_lconst kl_0 dX12_roof_10 ?_
    refine xo_ldc2 (v := 2) (mk_w7 (i := 70) rfl rfl) dX12_roof_11 ?_
    refine mk_O.callS (N := M_X12_in) (As := [.long ((x2).toInt64), .long (0 : Int64), .long (2 : Int64)]) (S := []) md_X12_in ms_X12_in lk_RX12_159 rfl (Nat.le_of_ble_eq_true rfl) (by decide) dX12_roof_14 rfl (fun z hz => c_X12_in ((x2).toInt64) (0 : Int64) (2 : Int64) z1.2 z hz) (fun z2 _ => ?_)
    show mk_O _ _ _ _ (.int z2.1 :: []) _ _
    refine xo_if_ne (tgt := 22) dX12_roof_17 rfl (fun _ => ?_) (fun _ => ?_)
    · refine xo_iconst kc_m1 dX12_roof_20 ?_
      exact xo_iret dX12_roof_21 rfl
    · refine xo_iload_n rfl rfl dX12_roof_22 ?_
      refine xo_if_ne (tgt := 35) dX12_roof_23 rfl (fun _ => ?_) (fun _ => ?_)
      · refine xo_aload_n rfl rfl dX12_roof_26 ?_
        refine xo_geta dX12_roof_27 cl_11 fl_RX12_43 rfl (fun v3 => ?_)
        refine xo_iload_n rfl rfl dX12_roof_30 ?_
        refine xo_iald dX12_roof_31 (fun v4 => ?_)
        refine xo_goto (tgt := 60) dX12_roof_32 rfl ?_
        exact xo_iret dX12_roof_60 rfl
      · refine xo_iload_n rfl rfl dX12_roof_35 ?_
        refine xo_iconst kc_1 dX12_roof_36 ?_
        refine xo_icmp_ne (tgt := 49) dX12_roof_37 rfl (fun _ => ?_) (fun _ => ?_)
        · refine xo_aload_n rfl rfl dX12_roof_40 ?_
          refine xo_geta dX12_roof_41 cl_11 fl_RX12_46 rfl (fun v5 => ?_)
          refine xo_iload_n rfl rfl dX12_roof_44 ?_
          refine xo_iald dX12_roof_45 (fun v6 => ?_)
          refine xo_goto (tgt := 60) dX12_roof_46 rfl ?_
          exact xo_iret dX12_roof_60 rfl
        · refine xo_aload_n rfl rfl dX12_roof_49 ?_
          refine xo_geta dX12_roof_50 cl_11 fl_RX12_9 rfl (fun v7 => ?_)
          refine xo_bipush kb_6 dX12_roof_53 ?_
          refine xo_iald dX12_roof_55 (fun v8 => ?_)
          refine xo_iload_n rfl rfl dX12_roof_56 ?_
          refine xo_ishr dX12_roof_57 ?_
          refine xo_iconst kc_1 dX12_roof_58 ?_
          refine xo_iand dX12_roof_59 ?_
          exact xo_iret dX12_roof_60 rfl
theorem c_X12_roof (x0 : Nat) (x1 : Int32) (x2 : Int32) (t : mk_S) (z : Int32 × mk_S) (h : F_X12_roof x0 x1 x2 t = some z) : mk_is t x0 11 ∧ mk_Ct M_X12_roof [.ref x0, .int x1, .int x2] t (mk_wi z.1, z.2) :=
  ⟨(mk_gd_spec h).1, mk_ct (w := mk_wi) (by decide +kernel) (Nat.le_of_ble_eq_true rfl) (p_X12_roof x0 x1 x2 t) z (mk_gd_spec h).2⟩
def F_X12_wind (x0 : Nat) (x1 : Int32) (t : mk_S) : Option (Int32 × mk_S) := mk_gd t x0 11 ((F_X12_isCell x0 x1 t).bind fun z1 => if z1.1 = 0 then (some ((-1 : Int32), z1.2)) else ((mk_ga z1.2 x0 11 8).bind fun v2 => (mk_ld 100 z1.2 v2 x1).bind fun v3 => some (v3, z1.2)))
theorem p_X12_wind (x0 : Nat) (x1 : Int32) (t : mk_S) : mk_O mk_wi M_X12_wind 0 [some (.ref x0), some (.int x1)] [] t ((F_X12_isCell x0 x1 t).bind fun z1 => if z1.1 = 0 then (some ((-1 : Int32), z1.2)) else ((mk_ga z1.2 x0 11 8).bind fun v2 => (mk_ld 100 z1.2 v2 x1).bind fun v3 => some (v3, z1.2))) := by
  refine xo_aload_n rfl rfl dX12_wind_0 ?_
  refine xo_iload_n rfl rfl dX12_wind_1 ?_
  refine mk_O.callV (N := M_X12_isCell) (ci := 11) (q := (RX12, TX12, 64)) (b := x0) (As1 := [.int x1]) (S := []) md_X12_isCell mv_X12_isCell lk_RX12_373 rfl (Nat.le_of_ble_eq_true rfl) (by decide) dX12_wind_2 rfl rfl rfl (fun z hz => (c_X12_isCell x0 x1 t z hz).1) (fun z hz => (c_X12_isCell x0 x1 t z hz).2) (fun z1 _ => ?_)
  show mk_O _ _ _ _ (.int z1.1 :: []) _ _
  refine xo_if_eq (tgt := 17) dX12_wind_5 rfl (fun _ => ?_) (fun _ => ?_)
  · refine xo_iconst kc_m1 dX12_wind_17 ?_
    exact xo_iret dX12_wind_18 rfl
  · refine xo_aload_n rfl rfl dX12_wind_8 ?_
    refine xo_geta dX12_wind_9 cl_11 fl_RX12_31 rfl (fun v2 => ?_)
    refine xo_iload_n rfl rfl dX12_wind_12 ?_
    refine xo_iald dX12_wind_13 (fun v3 => ?_)
    refine xo_goto (tgt := 18) dX12_wind_14 rfl ?_
    exact xo_iret dX12_wind_18 rfl
theorem c_X12_wind (x0 : Nat) (x1 : Int32) (t : mk_S) (z : Int32 × mk_S) (h : F_X12_wind x0 x1 t = some z) : mk_is t x0 11 ∧ mk_Ct M_X12_wind [.ref x0, .int x1] t (mk_wi z.1, z.2) :=
  ⟨(mk_gd_spec h).1, mk_ct (w := mk_wi) (by decide +kernel) (Nat.le_of_ble_eq_true rfl) (p_X12_wind x0 x1 t) z (mk_gd_spec h).2⟩
def B_X12_allGround_4 : Nat → Nat → Int32 → Int32 → mk_S → Option (Int32 × mk_S)
  | 0, _, _, _, _ => none
  | n + 1, x0, x1, x2, t => (mk_ga t x0 11 1).bind fun v1 => (mk_ld 100 t v1 (3 : Int32)).bind fun v2 => if v2 ≤ x2 then (some (x1, t)) else ((mk_ga t x0 11 7).bind fun v3 => (mk_ld 100 t v3 x2).bind fun v4 => B_X12_allGround_4 n x0 (x1 + v4) (x2 + (1 : Int32)) t)
def F_X12_allGround (x0 : Nat) (t : mk_S) : Option (Int32 × mk_S) := mk_gd t x0 11 (B_X12_allGround_4 mk_fu x0 (0 : Int32) (0 : Int32) t)
theorem o_X12_allGround_4 : ∀ (n : Nat) (x0 : Nat) (x1 : Int32) (x2 : Int32) (t : mk_S), mk_O mk_wi M_X12_allGround 4 [some (.ref x0), some (.int x1), some (.int x2)] [] t (B_X12_allGround_4 n x0 x1 x2 t) := by
  intro n
  induction n with
  | zero =>
    intro x0 x1 x2 t
    exact mk_O.none
  | succ n ih =>
    intro x0 x1 x2 t
    rw [B_X12_allGround_4]
    refine xo_iload_n rfl rfl dX12_allGround_4 ?_
    refine xo_aload_n rfl rfl dX12_allGround_5 ?_
    refine xo_geta dX12_allGround_6 cl_11 fl_RX12_9 rfl (fun v1 => ?_)
    refine xo_iconst kc_3 dX12_allGround_9 ?_
    refine xo_iald dX12_allGround_10 (fun v2 => ?_)
    refine xo_icmp_ge (tgt := 29) dX12_allGround_11 rfl (fun _ => ?_) (fun _ => ?_)
    · refine xo_iload_n rfl rfl dX12_allGround_29 ?_
      exact xo_iret dX12_allGround_30 rfl
    · refine xo_iload_n rfl rfl dX12_allGround_14 ?_
      refine xo_aload_n rfl rfl dX12_allGround_15 ?_
      refine xo_geta dX12_allGround_16 cl_11 fl_RX12_28 rfl (fun v3 => ?_)
      refine xo_iload_n rfl rfl dX12_allGround_19 ?_
      refine xo_iald dX12_allGround_20 (fun v4 => ?_)
      refine xo_iadd dX12_allGround_21 ?_
      refine xo_istore_n rfl (by decide) (mk_p1_v rfl rfl) dX12_allGround_22 ?_
      refine xo_iinc rfl (congrArg _ kc_1) (by decide) (mk_p1_v rfl rfl) dX12_allGround_23 ?_
      refine xo_goto (tgt := 4) dX12_allGround_26 rfl ?_
      exact mk_O.wk (ih x0 (x1 + v4) (x2 + (1 : Int32)) t) ⟨rfl, ⟨rfl, ⟨rfl, trivial⟩⟩⟩
theorem p_X12_allGround (x0 : Nat) (t : mk_S) : mk_O mk_wi M_X12_allGround 0 [some (.ref x0), none, none] [] t (B_X12_allGround_4 mk_fu x0 (0 : Int32) (0 : Int32) t) := by
  refine xo_iconst kc_0 dX12_allGround_0 ?_
  refine xo_istore_n rfl (by decide) (mk_p1_v rfl rfl) dX12_allGround_1 ?_
  refine xo_iconst kc_0 dX12_allGround_2 ?_
  refine xo_istore_n rfl (by decide) (mk_p1_v rfl rfl) dX12_allGround_3 ?_
  exact mk_O.wk (o_X12_allGround_4 mk_fu x0 (0 : Int32) (0 : Int32) t) ⟨rfl, ⟨rfl, ⟨rfl, trivial⟩⟩⟩
theorem c_X12_allGround (x0 : Nat) (t : mk_S) (z : Int32 × mk_S) (h : F_X12_allGround x0 t = some z) : mk_is t x0 11 ∧ mk_Ct M_X12_allGround [.ref x0] t (mk_wi z.1, z.2) :=
  ⟨(mk_gd_spec h).1, mk_ct (w := mk_wi) (by decide +kernel) (Nat.le_of_ble_eq_true rfl) (p_X12_allGround x0 t) z (mk_gd_spec h).2⟩
def B_X12_allWind_4 : Nat → Nat → Int32 → Int32 → mk_S → Option (Int32 × mk_S)
  | 0, _, _, _, _ => none
  | n + 1, x0, x1, x2, t => (F_X12_cells x0 t).bind fun z1 => if z1.1 ≤ x2 then (some (x1, z1.2)) else ((mk_ga z1.2 x0 11 8).bind fun v2 => (mk_ld 100 z1.2 v2 x2).bind fun v3 => B_X12_allWind_4 n x0 (x1 + v3) (x2 + (1 : Int32)) z1.2)
def F_X12_allWind (x0 : Nat) (t : mk_S) : Option (Int32 × mk_S) := mk_gd t x0 11 (B_X12_allWind_4 mk_fu x0 (0 : Int32) (0 : Int32) t)
theorem o_X12_allWind_4 : ∀ (n : Nat) (x0 : Nat) (x1 : Int32) (x2 : Int32) (t : mk_S), mk_O mk_wi M_X12_allWind 4 [some (.ref x0), some (.int x1), some (.int x2)] [] t (B_X12_allWind_4 n x0 x1 x2 t) := by
  intro n
  induction n with
  | zero =>
    intro x0 x1 x2 t
    exact mk_O.none
  | succ n ih =>
    intro x0 x1 x2 t
    rw [B_X12_allWind_4]
    refine xo_iload_n rfl rfl dX12_allWind_4 ?_
    refine xo_aload_n rfl rfl dX12_allWind_5 ?_
    refine mk_O.callV (N := M_X12_cells) (ci := 11) (q := (RX12, TX12, 64)) (b := x0) (As1 := []) (S := [.int x2]) md_X12_cells mv_X12_cells lk_RX12_155 rfl (Nat.le_of_ble_eq_true rfl) (by decide) dX12_allWind_6 rfl rfl rfl (fun z hz => (c_X12_cells x0 t z hz).1) (fun z hz => (c_X12_cells x0 t z hz).2) (fun z1 _ => ?_)
    show mk_O _ _ _ _ (.int z1.1 :: [.int x2]) _ _
    refine xo_icmp_ge (tgt := 27) dX12_allWind_9 rfl (fun _ => ?_) (fun _ => ?_)
    · refine xo_iload_n rfl rfl dX12_allWind_27 ?_
      exact xo_iret dX12_allWind_28 rfl
    · refine xo_iload_n rfl rfl dX12_allWind_12 ?_
      refine xo_aload_n rfl rfl dX12_allWind_13 ?_
      refine xo_geta dX12_allWind_14 cl_11 fl_RX12_31 rfl (fun v2 => ?_)
      refine xo_iload_n rfl rfl dX12_allWind_17 ?_
      refine xo_iald dX12_allWind_18 (fun v3 => ?_)
      refine xo_iadd dX12_allWind_19 ?_
      refine xo_istore_n rfl (by decide) (mk_p1_v rfl rfl) dX12_allWind_20 ?_
      refine xo_iinc rfl (congrArg _ kc_1) (by decide) (mk_p1_v rfl rfl) dX12_allWind_21 ?_
      refine xo_goto (tgt := 4) dX12_allWind_24 rfl ?_
      exact mk_O.wk (ih x0 (x1 + v3) (x2 + (1 : Int32)) z1.2) ⟨rfl, ⟨rfl, ⟨rfl, trivial⟩⟩⟩
theorem p_X12_allWind (x0 : Nat) (t : mk_S) : mk_O mk_wi M_X12_allWind 0 [some (.ref x0), none, none] [] t (B_X12_allWind_4 mk_fu x0 (0 : Int32) (0 : Int32) t) := by
  refine xo_iconst kc_0 dX12_allWind_0 ?_
  refine xo_istore_n rfl (by decide) (mk_p1_v rfl rfl) dX12_allWind_1 ?_
  refine xo_iconst kc_0 dX12_allWind_2 ?_
  refine xo_istore_n rfl (by decide) (mk_p1_v rfl rfl) dX12_allWind_3 ?_
  exact mk_O.wk (o_X12_allWind_4 mk_fu x0 (0 : Int32) (0 : Int32) t) ⟨rfl, ⟨rfl, ⟨rfl, trivial⟩⟩⟩
theorem c_X12_allWind (x0 : Nat) (t : mk_S) (z : Int32 × mk_S) (h : F_X12_allWind x0 t = some z) : mk_is t x0 11 ∧ mk_Ct M_X12_allWind [.ref x0] t (mk_wi z.1, z.2) :=
  ⟨(mk_gd_spec h).1, mk_ct (w := mk_wi) (by decide +kernel) (Nat.le_of_ble_eq_true rfl) (p_X12_allWind x0 t) z (mk_gd_spec h).2⟩
def B_X12_allActed_4 : Nat → Nat → Int32 → Int32 → mk_S → Option (Int32 × mk_S)
  | 0, _, _, _, _ => none
  | n + 1, x0, x1, x2, t => (mk_ga t x0 11 1).bind fun v1 => (mk_ld 100 t v1 (2 : Int32)).bind fun v2 => if v2 ≤ x2 then (some (x1, t)) else ((mk_ga t x0 11 5).bind fun v3 => (mk_ld 100 t v3 x2).bind fun v4 => B_X12_allActed_4 n x0 (x1 + v4) (x2 + (1 : Int32)) t)
def F_X12_allActed (x0 : Nat) (t : mk_S) : Option (Int32 × mk_S) := mk_gd t x0 11 (B_X12_allActed_4 mk_fu x0 (0 : Int32) (0 : Int32) t)
theorem o_X12_allActed_4 : ∀ (n : Nat) (x0 : Nat) (x1 : Int32) (x2 : Int32) (t : mk_S), mk_O mk_wi M_X12_allActed 4 [some (.ref x0), some (.int x1), some (.int x2)] [] t (B_X12_allActed_4 n x0 x1 x2 t) := by
  intro n
  induction n with
  | zero =>
    intro x0 x1 x2 t
    exact mk_O.none
  | succ n ih =>
    intro x0 x1 x2 t
    rw [B_X12_allActed_4]
    refine xo_iload_n rfl rfl dX12_allActed_4 ?_
    refine xo_aload_n rfl rfl dX12_allActed_5 ?_
    refine xo_geta dX12_allActed_6 cl_11 fl_RX12_9 rfl (fun v1 => ?_)
    refine xo_iconst kc_2 dX12_allActed_9 ?_
    refine xo_iald dX12_allActed_10 (fun v2 => ?_)
    refine xo_icmp_ge (tgt := 29) dX12_allActed_11 rfl (fun _ => ?_) (fun _ => ?_)
    · refine xo_iload_n rfl rfl dX12_allActed_29 ?_
      exact xo_iret dX12_allActed_30 rfl
    · refine xo_iload_n rfl rfl dX12_allActed_14 ?_
      refine xo_aload_n rfl rfl dX12_allActed_15 ?_
      refine xo_geta dX12_allActed_16 cl_11 fl_RX12_22 rfl (fun v3 => ?_)
      refine xo_iload_n rfl rfl dX12_allActed_19 ?_
      refine xo_iald dX12_allActed_20 (fun v4 => ?_)
      refine xo_iadd dX12_allActed_21 ?_
      refine xo_istore_n rfl (by decide) (mk_p1_v rfl rfl) dX12_allActed_22 ?_
      refine xo_iinc rfl (congrArg _ kc_1) (by decide) (mk_p1_v rfl rfl) dX12_allActed_23 ?_
      refine xo_goto (tgt := 4) dX12_allActed_26 rfl ?_
      exact mk_O.wk (ih x0 (x1 + v4) (x2 + (1 : Int32)) t) ⟨rfl, ⟨rfl, ⟨rfl, trivial⟩⟩⟩
theorem p_X12_allActed (x0 : Nat) (t : mk_S) : mk_O mk_wi M_X12_allActed 0 [some (.ref x0), none, none] [] t (B_X12_allActed_4 mk_fu x0 (0 : Int32) (0 : Int32) t) := by
  refine xo_iconst kc_0 dX12_allActed_0 ?_
  refine xo_istore_n rfl (by decide) (mk_p1_v rfl rfl) dX12_allActed_1 ?_
  refine xo_iconst kc_0 dX12_allActed_2 ?_
  refine xo_istore_n rfl (by decide) (mk_p1_v rfl rfl) dX12_allActed_3 ?_
  exact mk_O.wk (o_X12_allActed_4 mk_fu x0 (0 : Int32) (0 : Int32) t) ⟨rfl, ⟨rfl, ⟨rfl, trivial⟩⟩⟩
theorem c_X12_allActed (x0 : Nat) (t : mk_S) (z : Int32 × mk_S) (h : F_X12_allActed x0 t = some z) : mk_is t x0 11 ∧ mk_Ct M_X12_allActed [.ref x0] t (mk_wi z.1, z.2) :=
  ⟨(mk_gd_spec h).1, mk_ct (w := mk_wi) (by decide +kernel) (Nat.le_of_ble_eq_true rfl) (p_X12_allActed x0 t) z (mk_gd_spec h).2⟩
def F_X12_upTo (x0 : Int32) (x1 : Int32) (t : mk_S) : Option (Int32 × mk_S) := if x0 ≤ x1 then (some (x0, t)) else (some (x1, t))
theorem p_X12_upTo (x0 : Int32) (x1 : Int32) (t : mk_S) : mk_O mk_wi M_X12_upTo 0 [some (.int x0), some (.int x1)] [] t (if x0 ≤ x1 then (some (x0, t)) else (some (x1, t))) := by
  refine xo_iload_n rfl rfl dX12_upTo_0 ?_
  refine xo_iload_n rfl rfl dX12_upTo_1 ?_
  refine xo_icmp_le (tgt := 9) dX12_upTo_2 rfl (fun _ => ?_) (fun _ => ?_)
  · refine xo_iload_n rfl rfl dX12_upTo_9 ?_
    exact xo_iret dX12_upTo_10 rfl
  · refine xo_iload_n rfl rfl dX12_upTo_5 ?_
    refine xo_goto (tgt := 10) dX12_upTo_6 rfl ?_
    exact xo_iret dX12_upTo_10 rfl
theorem c_X12_upTo (x0 : Int32) (x1 : Int32) (t : mk_S) (z : Int32 × mk_S) (h : F_X12_upTo x0 x1 t = some z) : mk_Ct M_X12_upTo [.int x0, .int x1] t (mk_wi z.1, z.2) :=
  mk_ct (w := mk_wi) (by decide +kernel) (Nat.le_of_ble_eq_true rfl) (p_X12_upTo x0 x1 t) z h
def B_X12_before_78 (t : mk_S) : Option (Int32 × mk_S) := some ((-1 : Int32), t)
def B_X12_before_53 (x3 : Int32) (x4 : Int32) (s0 : Int32) (s1 : Int32) (t : mk_S) : Option (Int32 × mk_S) := if x4 < 0 then (B_X12_before_78 t) else (if (s0 + s1) < 0 then (B_X12_before_78 t) else (if x4 = x3 then (B_X12_before_78 t) else (if (s0 + s1) = x3 then (B_X12_before_78 t) else (some (((x3 * x4) + (s0 + s1)), t)))))
def B_X12_before_28 (x1 : Int32) (x2 : Int32) (x3 : Int32) (s0 : Int32) (s1 : Int32) (t : mk_S) : Option (Int32 × mk_S) := if x3 = 0 then none else if x2 = (1 : Int32) then (B_X12_before_53 x3 (s0 + s1) (x1 - x1 / x3 * x3) (1 : Int32) t) else (if x2 = (3 : Int32) then (B_X12_before_53 x3 (s0 + s1) (x1 - x1 / x3 * x3) (-1 : Int32) t) else (B_X12_before_53 x3 (s0 + s1) (x1 - x1 / x3 * x3) (0 : Int32) t))
def F_X12_before (x0 : Nat) (x1 : Int32) (x2 : Int32) (t : mk_S) : Option (Int32 × mk_S) := mk_gd t x0 11 ((mk_ga t x0 11 1).bind fun v1 => (mk_ld 100 t v1 (0 : Int32)).bind fun v2 => if v2 = 0 then none else if x2 = 0 then (B_X12_before_28 x1 x2 v2 (x1 / v2) (-1 : Int32) t) else (if x2 = (2 : Int32) then (B_X12_before_28 x1 x2 v2 (x1 / v2) (1 : Int32) t) else (B_X12_before_28 x1 x2 v2 (x1 / v2) (0 : Int32) t)))
theorem o_X12_before_78 (t : mk_S) : mk_O mk_wi M_X12_before 78 [none, none, none, none, none, none] [] t (B_X12_before_78  t) := by
  unfold B_X12_before_78
  refine xo_iconst kc_m1 dX12_before_78 ?_
  refine xo_goto (tgt := 89) dX12_before_79 rfl ?_
  exact xo_iret dX12_before_89 rfl
theorem o_X12_before_53 (x3 : Int32) (x4 : Int32) (s0 : Int32) (s1 : Int32) (t : mk_S) : mk_O mk_wi M_X12_before 53 [none, none, none, some (.int x3), some (.int x4), none] [.int s1, .int s0] t (B_X12_before_53 x3 x4 s0 s1 t) := by
  unfold B_X12_before_53
  refine xo_iadd dX12_before_53 ?_
  refine xo_istore (by decide) (mk_p1_v rfl rfl) dX12_before_54 ?_
  refine xo_iload rfl dX12_before_56 ?_
  refine xo_if_lt (tgt := 78) dX12_before_58 rfl (fun _ => ?_) (fun _ => ?_)
  · exact mk_O.wk (o_X12_before_78 t) trivial
  · refine xo_iload rfl dX12_before_61 ?_
    refine xo_if_lt (tgt := 78) dX12_before_63 rfl (fun _ => ?_) (fun _ => ?_)
    · exact mk_O.wk (o_X12_before_78 t) trivial
    · refine xo_iload rfl dX12_before_66 ?_
      refine xo_iload_n rfl rfl dX12_before_68 ?_
      refine xo_icmp_eq (tgt := 78) dX12_before_69 rfl (fun _ => ?_) (fun _ => ?_)
      · exact mk_O.wk (o_X12_before_78 t) trivial
      · refine xo_iload rfl dX12_before_72 ?_
        refine xo_iload_n rfl rfl dX12_before_74 ?_
        refine xo_icmp_ne (tgt := 82) dX12_before_75 rfl (fun _ => ?_) (fun _ => ?_)
        · exact mk_O.wk (o_X12_before_78 t) trivial
        · refine xo_iload_n rfl rfl dX12_before_82 ?_
          refine xo_iload rfl dX12_before_83 ?_
          refine xo_imul dX12_before_85 ?_
          refine xo_iload rfl dX12_before_86 ?_
          refine xo_iadd dX12_before_88 ?_
          exact xo_iret dX12_before_89 rfl
theorem o_X12_before_28 (x1 : Int32) (x2 : Int32) (x3 : Int32) (s0 : Int32) (s1 : Int32) (t : mk_S) : mk_O mk_wi M_X12_before 28 [none, some (.int x1), some (.int x2), some (.int x3), none, none] [.int s1, .int s0] t (B_X12_before_28 x1 x2 x3 s0 s1 t) := by
  unfold B_X12_before_28
  refine xo_iadd dX12_before_28 ?_
  refine xo_istore (by decide) (mk_p1_v rfl rfl) dX12_before_29 ?_
  refine xo_iload_n rfl rfl dX12_before_31 ?_
  refine xo_iload_n rfl rfl dX12_before_32 ?_
  refine xo_irem dX12_before_33 (fun _ => ?_)
  refine xo_iload_n rfl rfl dX12_before_34 ?_
  refine xo_iconst kc_1 dX12_before_35 ?_
  refine xo_icmp_ne (tgt := 43) dX12_before_36 rfl (fun _ => ?_) (fun _ => ?_)
  · refine xo_iconst kc_1 dX12_before_39 ?_
    refine xo_goto (tgt := 53) dX12_before_40 rfl ?_
    exact mk_O.wk (o_X12_before_53 x3 (s0 + s1) (x1 - x1 / x3 * x3) (1 : Int32) t) ⟨rfl, ⟨rfl, trivial⟩⟩
  · refine xo_iload_n rfl rfl dX12_before_43 ?_
    refine xo_iconst kc_3 dX12_before_44 ?_
    refine xo_icmp_ne (tgt := 52) dX12_before_45 rfl (fun _ => ?_) (fun _ => ?_)
    · refine xo_iconst kc_m1 dX12_before_48 ?_
      refine xo_goto (tgt := 53) dX12_before_49 rfl ?_
      exact mk_O.wk (o_X12_before_53 x3 (s0 + s1) (x1 - x1 / x3 * x3) (-1 : Int32) t) ⟨rfl, ⟨rfl, trivial⟩⟩
    · refine xo_iconst kc_0 dX12_before_52 ?_
      exact mk_O.wk (o_X12_before_53 x3 (s0 + s1) (x1 - x1 / x3 * x3) (0 : Int32) t) ⟨rfl, ⟨rfl, trivial⟩⟩
theorem p_X12_before (x0 : Nat) (x1 : Int32) (x2 : Int32) (t : mk_S) : mk_O mk_wi M_X12_before 0 [some (.ref x0), some (.int x1), some (.int x2), none, none, none] [] t ((mk_ga t x0 11 1).bind fun v1 => (mk_ld 100 t v1 (0 : Int32)).bind fun v2 => if v2 = 0 then none else if x2 = 0 then (B_X12_before_28 x1 x2 v2 (x1 / v2) (-1 : Int32) t) else (if x2 = (2 : Int32) then (B_X12_before_28 x1 x2 v2 (x1 / v2) (1 : Int32) t) else (B_X12_before_28 x1 x2 v2 (x1 / v2) (0 : Int32) t))) := by
  refine xo_aload_n rfl rfl dX12_before_0 ?_
  refine xo_geta dX12_before_1 cl_11 fl_RX12_9 rfl (fun v1 => ?_)
  refine xo_iconst kc_0 dX12_before_4 ?_
  refine xo_iald dX12_before_5 (fun v2 => ?_)
  refine xo_istore_n rfl (by decide) (mk_p1_v rfl rfl) dX12_before_6 ?_
  refine xo_iload_n rfl rfl dX12_before_7 ?_
  refine xo_iload_n rfl rfl dX12_before_8 ?_
  refine xo_idiv dX12_before_9 (fun _ => ?_)
  refine xo_iload_n rfl rfl dX12_before_10 ?_
  refine xo_if_ne (tgt := 18) dX12_before_11 rfl (fun _ => ?_) (fun _ => ?_)
  · refine xo_iconst kc_m1 dX12_before_14 ?_
    refine xo_goto (tgt := 28) dX12_before_15 rfl ?_
    exact mk_O.wk (o_X12_before_28 x1 x2 v2 (x1 / v2) (-1 : Int32) t) ⟨rfl, ⟨rfl, ⟨rfl, trivial⟩⟩⟩
  · refine xo_iload_n rfl rfl dX12_before_18 ?_
    refine xo_iconst kc_2 dX12_before_19 ?_
    refine xo_icmp_ne (tgt := 27) dX12_before_20 rfl (fun _ => ?_) (fun _ => ?_)
    · refine xo_iconst kc_1 dX12_before_23 ?_
      refine xo_goto (tgt := 28) dX12_before_24 rfl ?_
      exact mk_O.wk (o_X12_before_28 x1 x2 v2 (x1 / v2) (1 : Int32) t) ⟨rfl, ⟨rfl, ⟨rfl, trivial⟩⟩⟩
    · refine xo_iconst kc_0 dX12_before_27 ?_
      exact mk_O.wk (o_X12_before_28 x1 x2 v2 (x1 / v2) (0 : Int32) t) ⟨rfl, ⟨rfl, ⟨rfl, trivial⟩⟩⟩
theorem c_X12_before (x0 : Nat) (x1 : Int32) (x2 : Int32) (t : mk_S) (z : Int32 × mk_S) (h : F_X12_before x0 x1 x2 t = some z) : mk_is t x0 11 ∧ mk_Ct M_X12_before [.ref x0, .int x1, .int x2] t (mk_wi z.1, z.2) :=
  ⟨(mk_gd_spec h).1, mk_ct (w := mk_wi) (by decide +kernel) (Nat.le_of_ble_eq_true rfl) (p_X12_before x0 x1 x2 t) z (mk_gd_spec h).2⟩
def B_X12_puffIn_25 : Nat → Nat → Int32 → Int32 → Int32 → Int32 → mk_S → Option (Int32 × mk_S)
  | 0, _, _, _, _, _, _ => none
  | n + 1, x0, x1, x2, x3, x4, t => if x4 = (-1 : Int32) then (some ((0 : Int32), t)) else (if x3 ≤ 0 then (some ((0 : Int32), t)) else (if x4 = x2 then (some (x3, t)) else ((mk_ga t x0 11 3).bind fun v1 => (mk_ld 100 t v1 x1).bind fun v2 => (F_X12_before x0 x4 v2 t).bind fun z3 => B_X12_puffIn_25 n x0 x1 x2 (x3 + (-1 : Int32)) z3.1 z3.2)))
def F_X12_puffIn (x0 : Nat) (x1 : Int32) (x2 : Int32) (t : mk_S) : Option (Int32 × mk_S) := mk_gd t x0 11 ((mk_ga t x0 11 4).bind fun v1 => (mk_ld 100 t v1 x1).bind fun v2 => (mk_ga t x0 11 2).bind fun v3 => (mk_ld 100 t v3 x1).bind fun v4 => (mk_ga t x0 11 3).bind fun v5 => (mk_ld 100 t v5 x1).bind fun v6 => (F_X12_before x0 v4 v6 t).bind fun z7 => B_X12_puffIn_25 mk_fu x0 x1 x2 v2 z7.1 z7.2)
theorem o_X12_puffIn_25 : ∀ (n : Nat) (x0 : Nat) (x1 : Int32) (x2 : Int32) (x3 : Int32) (x4 : Int32) (t : mk_S), mk_O mk_wi M_X12_puffIn 25 [some (.ref x0), some (.int x1), some (.int x2), some (.int x3), some (.int x4)] [] t (B_X12_puffIn_25 n x0 x1 x2 x3 x4 t) := by
  intro n
  induction n with
  | zero =>
    intro x0 x1 x2 x3 x4 t
    exact mk_O.none
  | succ n ih =>
    intro x0 x1 x2 x3 x4 t
    rw [B_X12_puffIn_25]
    refine xo_iload rfl dX12_puffIn_25 ?_
    refine xo_iconst kc_m1 dX12_puffIn_27 ?_
    refine xo_icmp_eq (tgt := 63) dX12_puffIn_28 rfl (fun _ => ?_) (fun _ => ?_)
    · refine xo_iconst kc_0 dX12_puffIn_63 ?_
      exact xo_iret dX12_puffIn_64 rfl
    · refine xo_iload_n rfl rfl dX12_puffIn_31 ?_
      refine xo_if_le (tgt := 63) dX12_puffIn_32 rfl (fun _ => ?_) (fun _ => ?_)
      · refine xo_iconst kc_0 dX12_puffIn_63 ?_
        exact xo_iret dX12_puffIn_64 rfl
      · refine xo_iload rfl dX12_puffIn_35 ?_
        refine xo_iload_n rfl rfl dX12_puffIn_37 ?_
        refine xo_icmp_ne (tgt := 43) dX12_puffIn_38 rfl (fun _ => ?_) (fun _ => ?_)
        · refine xo_iload_n rfl rfl dX12_puffIn_41 ?_
          exact xo_iret dX12_puffIn_42 rfl
        · refine xo_iinc rfl (congrArg _ kc_m1) (by decide) (mk_p1_v rfl rfl) dX12_puffIn_43 ?_
          refine xo_aload_n rfl rfl dX12_puffIn_46 ?_
          refine xo_iload rfl dX12_puffIn_47 ?_
          refine xo_aload_n rfl rfl dX12_puffIn_49 ?_
          refine xo_geta dX12_puffIn_50 cl_11 fl_RX12_16 rfl (fun v1 => ?_)
          refine xo_iload_n rfl rfl dX12_puffIn_53 ?_
          refine xo_iald dX12_puffIn_54 (fun v2 => ?_)
          refine mk_O.callV (N := M_X12_before) (ci := 11) (q := (RX12, TX12, 64)) (b := x0) (As1 := [.int x4, .int v2]) (S := []) md_X12_before mv_X12_before lk_RX12_376 rfl (Nat.le_of_ble_eq_true rfl) (by decide) dX12_puffIn_55 rfl rfl rfl (fun z hz => (c_X12_before x0 x4 v2 t z hz).1) (fun z hz => (c_X12_before x0 x4 v2 t z hz).2) (fun z3 _ => ?_)
          show mk_O _ _ _ _ (.int z3.1 :: []) _ _
          refine xo_istore (by decide) (mk_p1_v rfl rfl) dX12_puffIn_58 ?_
          refine xo_goto (tgt := 25) dX12_puffIn_60 rfl ?_
          exact mk_O.wk (ih x0 x1 x2 (x3 + (-1 : Int32)) z3.1 z3.2) ⟨rfl, ⟨rfl, ⟨rfl, ⟨rfl, ⟨rfl, trivial⟩⟩⟩⟩⟩
theorem p_X12_puffIn (x0 : Nat) (x1 : Int32) (x2 : Int32) (t : mk_S) : mk_O mk_wi M_X12_puffIn 0 [some (.ref x0), some (.int x1), some (.int x2), none, none] [] t ((mk_ga t x0 11 4).bind fun v1 => (mk_ld 100 t v1 x1).bind fun v2 => (mk_ga t x0 11 2).bind fun v3 => (mk_ld 100 t v3 x1).bind fun v4 => (mk_ga t x0 11 3).bind fun v5 => (mk_ld 100 t v5 x1).bind fun v6 => (F_X12_before x0 v4 v6 t).bind fun z7 => B_X12_puffIn_25 mk_fu x0 x1 x2 v2 z7.1 z7.2) := by
  refine xo_aload_n rfl rfl dX12_puffIn_0 ?_
  refine xo_geta dX12_puffIn_1 cl_11 fl_RX12_19 rfl (fun v1 => ?_)
  refine xo_iload_n rfl rfl dX12_puffIn_4 ?_
  refine xo_iald dX12_puffIn_5 (fun v2 => ?_)
  refine xo_istore_n rfl (by decide) (mk_p1_v rfl rfl) dX12_puffIn_6 ?_
  refine xo_aload_n rfl rfl dX12_puffIn_7 ?_
  refine xo_aload_n rfl rfl dX12_puffIn_8 ?_
  refine xo_geta dX12_puffIn_9 cl_11 fl_RX12_13 rfl (fun v3 => ?_)
  refine xo_iload_n rfl rfl dX12_puffIn_12 ?_
  refine xo_iald dX12_puffIn_13 (fun v4 => ?_)
  refine xo_aload_n rfl rfl dX12_puffIn_14 ?_
  refine xo_geta dX12_puffIn_15 cl_11 fl_RX12_16 rfl (fun v5 => ?_)
  refine xo_iload_n rfl rfl dX12_puffIn_18 ?_
  refine xo_iald dX12_puffIn_19 (fun v6 => ?_)
  refine mk_O.callV (N := M_X12_before) (ci := 11) (q := (RX12, TX12, 64)) (b := x0) (As1 := [.int v4, .int v6]) (S := []) md_X12_before mv_X12_before lk_RX12_376 rfl (Nat.le_of_ble_eq_true rfl) (by decide) dX12_puffIn_20 rfl rfl rfl (fun z hz => (c_X12_before x0 v4 v6 t z hz).1) (fun z hz => (c_X12_before x0 v4 v6 t z hz).2) (fun z7 _ => ?_)
  show mk_O _ _ _ _ (.int z7.1 :: []) _ _
  refine xo_istore (by decide) (mk_p1_v rfl rfl) dX12_puffIn_23 ?_
  exact mk_O.wk (o_X12_puffIn_25 mk_fu x0 x1 x2 v2 z7.1 z7.2) ⟨rfl, ⟨rfl, ⟨rfl, ⟨rfl, ⟨rfl, trivial⟩⟩⟩⟩⟩
theorem c_X12_puffIn (x0 : Nat) (x1 : Int32) (x2 : Int32) (t : mk_S) (z : Int32 × mk_S) (h : F_X12_puffIn x0 x1 x2 t = some z) : mk_is t x0 11 ∧ mk_Ct M_X12_puffIn [.ref x0, .int x1, .int x2] t (mk_wi z.1, z.2) :=
  ⟨(mk_gd_spec h).1, mk_ct (w := mk_wi) (by decide +kernel) (Nat.le_of_ble_eq_true rfl) (p_X12_puffIn x0 x1 x2 t) z (mk_gd_spec h).2⟩
def F_X12_givesWay (x0 : Nat) (x1 : Int32) (t : mk_S) : Option (Int32 × mk_S) := mk_gd t x0 11 ((mk_gi t x0 11 47).bind fun v1 => if x1 = v1 then (mk_rz (0 : Int32) t) else ((mk_ga t x0 11 1).bind fun v2 => (mk_ld 100 t v2 (9 : Int32)).bind fun v3 => if v3 = (-1 : Int32) then ((mk_ga t x0 11 4).bind fun v4 => (mk_ld 100 t v4 x1).bind fun v5 => (mk_ga t x0 11 9).bind fun v6 => (mk_ld 100 t v6 x1).bind fun v7 => if v5 ≤ v7 then (mk_rz (0 : Int32) t) else (mk_rz (1 : Int32) t)) else ((mk_ga t x0 11 45).bind fun v8 => (mk_stl t v8 (0 : Int32) ((x1).toInt64)).bind fun t9 => (mk_ga t9 x0 11 45).bind fun v10 => (mk_ga t9 x0 11 4).bind fun v11 => (mk_ld 100 t9 v11 x1).bind fun v12 => (mk_stl t9 v10 (1 : Int32) ((v12).toInt64)).bind fun t13 => (mk_ga t13 x0 11 45).bind fun v14 => (mk_ga t13 x0 11 9).bind fun v15 => (mk_ld 100 t13 v15 x1).bind fun v16 => (mk_stl t13 v14 (2 : Int32) ((v16).toInt64)).bind fun t17 => (mk_ga t17 x0 11 45).bind fun v18 => (mk_ga t17 x0 11 3).bind fun v19 => (mk_ld 100 t17 v19 x1).bind fun v20 => (mk_stl t17 v18 (3 : Int32) ((v20).toInt64)).bind fun t21 => (mk_ga t21 x0 11 45).bind fun v22 => (mk_ga t21 x0 11 2).bind fun v23 => (mk_ld 100 t21 v23 x1).bind fun v24 => (mk_ga t21 x0 11 1).bind fun v25 => (mk_ld 100 t21 v25 (0 : Int32)).bind fun v26 => if v26 = 0 then none else (mk_stl t21 v22 (4 : Int32) (((v24 / v26)).toInt64)).bind fun t27 => (mk_ga t27 x0 11 45).bind fun v28 => (mk_ga t27 x0 11 2).bind fun v29 => (mk_ld 100 t27 v29 x1).bind fun v30 => (mk_ga t27 x0 11 1).bind fun v31 => (mk_ld 100 t27 v31 (0 : Int32)).bind fun v32 => if v32 = 0 then none else (mk_stl t27 v28 (5 : Int32) (((v30 - v30 / v32 * v32)).toInt64)).bind fun t33 => (mk_ga t33 x0 11 45).bind fun v34 => (mk_ga t33 x0 11 8).bind fun v35 => (mk_ga t33 x0 11 2).bind fun v36 => (mk_ld 100 t33 v36 x1).bind fun v37 => (mk_ld 100 t33 v35 v37).bind fun v38 => (mk_stl t33 v34 (6 : Int32) ((v38).toInt64)).bind fun t39 => (mk_ga t39 x0 11 45).bind fun v40 => (mk_ga t39 x0 11 5).bind fun v41 => (mk_ld 100 t39 v41 x1).bind fun v42 => (mk_stl t39 v40 (7 : Int32) ((v42).toInt64)).bind fun t43 => (mk_ga t43 x0 11 45).bind fun v44 => (F_X12_sinceOf x0 x1 t43).bind fun z45 => (mk_stl z45.2 v44 (8 : Int32) ((z45.1).toInt64)).bind fun t46 => (mk_ga t46 x0 11 45).bind fun v47 => (F_X12_allGround x0 t46).bind fun z48 => (mk_stl z48.2 v47 (9 : Int32) ((z48.1).toInt64)).bind fun t49 => (mk_ga t49 x0 11 45).bind fun v50 => (mk_ga t49 x0 11 1).bind fun v51 => (mk_ld 100 t49 v51 (6 : Int32)).bind fun v52 => (F_X12_bits v52 t49).bind fun z53 => (mk_stl z53.2 v50 (10 : Int32) ((z53.1).toInt64)).bind fun t54 => (mk_ga t54 x0 11 45).bind fun v55 => (mk_ga t54 x0 11 1).bind fun v56 => (mk_ld 100 t54 v56 (5 : Int32)).bind fun v57 => (mk_stl t54 v55 (11 : Int32) ((v57).toInt64)).bind fun t58 => (F_X12_wanted x0 t58).bind fun z59 => if (lg_cmp z59.1 (0 : Int64)) ≤ 0 then (mk_rz (0 : Int32) z59.2) else (mk_rz (1 : Int32) z59.2))))
theorem p_X12_givesWay (x0 : Nat) (x1 : Int32) (t : mk_S) : mk_O mk_wi M_X12_givesWay 0 [some (.ref x0), some (.int x1)] [] t ((mk_gi t x0 11 47).bind fun v1 => if x1 = v1 then (mk_rz (0 : Int32) t) else ((mk_ga t x0 11 1).bind fun v2 => (mk_ld 100 t v2 (9 : Int32)).bind fun v3 => if v3 = (-1 : Int32) then ((mk_ga t x0 11 4).bind fun v4 => (mk_ld 100 t v4 x1).bind fun v5 => (mk_ga t x0 11 9).bind fun v6 => (mk_ld 100 t v6 x1).bind fun v7 => if v5 ≤ v7 then (mk_rz (0 : Int32) t) else (mk_rz (1 : Int32) t)) else ((mk_ga t x0 11 45).bind fun v8 => (mk_stl t v8 (0 : Int32) ((x1).toInt64)).bind fun t9 => (mk_ga t9 x0 11 45).bind fun v10 => (mk_ga t9 x0 11 4).bind fun v11 => (mk_ld 100 t9 v11 x1).bind fun v12 => (mk_stl t9 v10 (1 : Int32) ((v12).toInt64)).bind fun t13 => (mk_ga t13 x0 11 45).bind fun v14 => (mk_ga t13 x0 11 9).bind fun v15 => (mk_ld 100 t13 v15 x1).bind fun v16 => (mk_stl t13 v14 (2 : Int32) ((v16).toInt64)).bind fun t17 => (mk_ga t17 x0 11 45).bind fun v18 => (mk_ga t17 x0 11 3).bind fun v19 => (mk_ld 100 t17 v19 x1).bind fun v20 => (mk_stl t17 v18 (3 : Int32) ((v20).toInt64)).bind fun t21 => (mk_ga t21 x0 11 45).bind fun v22 => (mk_ga t21 x0 11 2).bind fun v23 => (mk_ld 100 t21 v23 x1).bind fun v24 => (mk_ga t21 x0 11 1).bind fun v25 => (mk_ld 100 t21 v25 (0 : Int32)).bind fun v26 => if v26 = 0 then none else (mk_stl t21 v22 (4 : Int32) (((v24 / v26)).toInt64)).bind fun t27 => (mk_ga t27 x0 11 45).bind fun v28 => (mk_ga t27 x0 11 2).bind fun v29 => (mk_ld 100 t27 v29 x1).bind fun v30 => (mk_ga t27 x0 11 1).bind fun v31 => (mk_ld 100 t27 v31 (0 : Int32)).bind fun v32 => if v32 = 0 then none else (mk_stl t27 v28 (5 : Int32) (((v30 - v30 / v32 * v32)).toInt64)).bind fun t33 => (mk_ga t33 x0 11 45).bind fun v34 => (mk_ga t33 x0 11 8).bind fun v35 => (mk_ga t33 x0 11 2).bind fun v36 => (mk_ld 100 t33 v36 x1).bind fun v37 => (mk_ld 100 t33 v35 v37).bind fun v38 => (mk_stl t33 v34 (6 : Int32) ((v38).toInt64)).bind fun t39 => (mk_ga t39 x0 11 45).bind fun v40 => (mk_ga t39 x0 11 5).bind fun v41 => (mk_ld 100 t39 v41 x1).bind fun v42 => (mk_stl t39 v40 (7 : Int32) ((v42).toInt64)).bind fun t43 => (mk_ga t43 x0 11 45).bind fun v44 => (F_X12_sinceOf x0 x1 t43).bind fun z45 => (mk_stl z45.2 v44 (8 : Int32) ((z45.1).toInt64)).bind fun t46 => (mk_ga t46 x0 11 45).bind fun v47 => (F_X12_allGround x0 t46).bind fun z48 => (mk_stl z48.2 v47 (9 : Int32) ((z48.1).toInt64)).bind fun t49 => (mk_ga t49 x0 11 45).bind fun v50 => (mk_ga t49 x0 11 1).bind fun v51 => (mk_ld 100 t49 v51 (6 : Int32)).bind fun v52 => (F_X12_bits v52 t49).bind fun z53 => (mk_stl z53.2 v50 (10 : Int32) ((z53.1).toInt64)).bind fun t54 => (mk_ga t54 x0 11 45).bind fun v55 => (mk_ga t54 x0 11 1).bind fun v56 => (mk_ld 100 t54 v56 (5 : Int32)).bind fun v57 => (mk_stl t54 v55 (11 : Int32) ((v57).toInt64)).bind fun t58 => (F_X12_wanted x0 t58).bind fun z59 => if (lg_cmp z59.1 (0 : Int64)) ≤ 0 then (mk_rz (0 : Int32) z59.2) else (mk_rz (1 : Int32) z59.2)))) := by
  refine xo_iload_n rfl rfl dX12_givesWay_0 ?_
  refine xo_aload_n rfl rfl dX12_givesWay_1 ?_
  refine xo_geti dX12_givesWay_2 cl_11 fl_RX12_124 rfl (fun v1 => ?_)
  refine xo_icmp_ne (tgt := 10) dX12_givesWay_5 rfl (fun _ => ?_) (fun _ => ?_)
  · refine xo_iconst kc_0 dX12_givesWay_8 ?_
    exact xo_zret dX12_givesWay_9 rfl
  · refine xo_aload_n rfl rfl dX12_givesWay_10 ?_
    refine xo_geta dX12_givesWay_11 cl_11 fl_RX12_9 rfl (fun v2 => ?_)
    refine xo_bipush kb_9 dX12_givesWay_14 ?_
    refine xo_iald dX12_givesWay_16 (fun v3 => ?_)
    refine xo_iconst kc_m1 dX12_givesWay_17 ?_
    refine xo_icmp_ne (tgt := 42) dX12_givesWay_18 rfl (fun _ => ?_) (fun _ => ?_)
    · refine xo_aload_n rfl rfl dX12_givesWay_21 ?_
      refine xo_geta dX12_givesWay_22 cl_11 fl_RX12_19 rfl (fun v4 => ?_)
      refine xo_iload_n rfl rfl dX12_givesWay_25 ?_
      refine xo_iald dX12_givesWay_26 (fun v5 => ?_)
      refine xo_aload_n rfl rfl dX12_givesWay_27 ?_
      refine xo_geta dX12_givesWay_28 cl_11 fl_RX12_34 rfl (fun v6 => ?_)
      refine xo_iload_n rfl rfl dX12_givesWay_31 ?_
      refine xo_iald dX12_givesWay_32 (fun v7 => ?_)
      refine xo_icmp_le (tgt := 40) dX12_givesWay_33 rfl (fun _ => ?_) (fun _ => ?_)
      · refine xo_iconst kc_0 dX12_givesWay_40 ?_
        exact xo_zret dX12_givesWay_41 rfl
      · refine xo_iconst kc_1 dX12_givesWay_36 ?_
        refine xo_goto (tgt := 41) dX12_givesWay_37 rfl ?_
        exact xo_zret dX12_givesWay_41 rfl
    · refine xo_aload_n rfl rfl dX12_givesWay_42 ?_
      refine xo_geta dX12_givesWay_43 cl_11 fl_RX12_117 rfl (fun v8 => ?_)
      refine xo_iconst kc_0 dX12_givesWay_46 ?_
      refine xo_iload_n rfl rfl dX12_givesWay_47 ?_
      refine xo_i2l dX12_givesWay_48 ?_
      refine xo_last dX12_givesWay_49 (fun t9 => ?_)
      refine xo_aload_n rfl rfl dX12_givesWay_50 ?_
      refine xo_geta dX12_givesWay_51 cl_11 fl_RX12_117 rfl (fun v10 => ?_)
      refine xo_iconst kc_1 dX12_givesWay_54 ?_
      refine xo_aload_n rfl rfl dX12_givesWay_55 ?_
      refine xo_geta dX12_givesWay_56 cl_11 fl_RX12_19 rfl (fun v11 => ?_)
      refine xo_iload_n rfl rfl dX12_givesWay_59 ?_
      refine xo_iald dX12_givesWay_60 (fun v12 => ?_)
      refine xo_i2l dX12_givesWay_61 ?_
      refine xo_last dX12_givesWay_62 (fun t13 => ?_)
      refine xo_aload_n rfl rfl dX12_givesWay_63 ?_
      refine xo_geta dX12_givesWay_64 cl_11 fl_RX12_117 rfl (fun v14 => ?_)
      refine xo_iconst kc_2 dX12_givesWay_67 ?_
      refine xo_aload_n rfl rfl dX12_givesWay_68 ?_
      refine xo_geta dX12_givesWay_69 cl_11 fl_RX12_34 rfl (fun v15 => ?_)
      refine xo_iload_n rfl rfl dX12_givesWay_72 ?_
      refine xo_iald dX12_givesWay_73 (fun v16 => ?_)
      refine xo_i2l dX12_givesWay_74 ?_
      refine xo_last dX12_givesWay_75 (fun t17 => ?_)
      refine xo_aload_n rfl rfl dX12_givesWay_76 ?_
      refine xo_geta dX12_givesWay_77 cl_11 fl_RX12_117 rfl (fun v18 => ?_)
      refine xo_iconst kc_3 dX12_givesWay_80 ?_
      refine xo_aload_n rfl rfl dX12_givesWay_81 ?_
      refine xo_geta dX12_givesWay_82 cl_11 fl_RX12_16 rfl (fun v19 => ?_)
      refine xo_iload_n rfl rfl dX12_givesWay_85 ?_
      refine xo_iald dX12_givesWay_86 (fun v20 => ?_)
      refine xo_i2l dX12_givesWay_87 ?_
      refine xo_last dX12_givesWay_88 (fun t21 => ?_)
      refine xo_aload_n rfl rfl dX12_givesWay_89 ?_
      refine xo_geta dX12_givesWay_90 cl_11 fl_RX12_117 rfl (fun v22 => ?_)
      refine xo_iconst kc_4 dX12_givesWay_93 ?_
      refine xo_aload_n rfl rfl dX12_givesWay_94 ?_
      refine xo_geta dX12_givesWay_95 cl_11 fl_RX12_13 rfl (fun v23 => ?_)
      refine xo_iload_n rfl rfl dX12_givesWay_98 ?_
      refine xo_iald dX12_givesWay_99 (fun v24 => ?_)
      refine xo_aload_n rfl rfl dX12_givesWay_100 ?_
      refine xo_geta dX12_givesWay_101 cl_11 fl_RX12_9 rfl (fun v25 => ?_)
      refine xo_iconst kc_0 dX12_givesWay_104 ?_
      refine xo_iald dX12_givesWay_105 (fun v26 => ?_)
      refine xo_idiv dX12_givesWay_106 (fun _ => ?_)
      refine xo_i2l dX12_givesWay_107 ?_
      refine xo_last dX12_givesWay_108 (fun t27 => ?_)
      refine xo_aload_n rfl rfl dX12_givesWay_109 ?_
      refine xo_geta dX12_givesWay_110 cl_11 fl_RX12_117 rfl (fun v28 => ?_)
      refine xo_iconst kc_5 dX12_givesWay_113 ?_
      refine xo_aload_n rfl rfl dX12_givesWay_114 ?_
      refine xo_geta dX12_givesWay_115 cl_11 fl_RX12_13 rfl (fun v29 => ?_)
      refine xo_iload_n rfl rfl dX12_givesWay_118 ?_
      refine xo_iald dX12_givesWay_119 (fun v30 => ?_)
      refine xo_aload_n rfl rfl dX12_givesWay_120 ?_
      refine xo_geta dX12_givesWay_121 cl_11 fl_RX12_9 rfl (fun v31 => ?_)
      refine xo_iconst kc_0 dX12_givesWay_124 ?_
      refine xo_iald dX12_givesWay_125 (fun v32 => ?_)
      refine xo_irem dX12_givesWay_126 (fun _ => ?_)
      refine xo_i2l dX12_givesWay_127 ?_
      refine xo_last dX12_givesWay_128 (fun t33 => ?_)
      refine xo_aload_n rfl rfl dX12_givesWay_129 ?_
      refine xo_geta dX12_givesWay_130 cl_11 fl_RX12_117 rfl (fun v34 => ?_)
      refine xo_bipush kb_6 dX12_givesWay_133 ?_
      refine xo_aload_n rfl rfl dX12_givesWay_135 ?_
      refine xo_geta dX12_givesWay_136 cl_11 fl_RX12_31 rfl (fun v35 => ?_)
      refine xo_aload_n rfl rfl dX12_givesWay_139 ?_
      refine xo_geta dX12_givesWay_140 cl_11 fl_RX12_13 rfl (fun v36 => ?_)
      refine xo_iload_n rfl rfl dX12_givesWay_143 ?_
      refine xo_iald dX12_givesWay_144 (fun v37 => ?_)
      refine xo_iald dX12_givesWay_145 (fun v38 => ?_)
      refine xo_i2l dX12_givesWay_146 ?_
      refine xo_last dX12_givesWay_147 (fun t39 => ?_)
      refine xo_aload_n rfl rfl dX12_givesWay_148 ?_
      refine xo_geta dX12_givesWay_149 cl_11 fl_RX12_117 rfl (fun v40 => ?_)
      refine xo_bipush kb_7 dX12_givesWay_152 ?_
      refine xo_aload_n rfl rfl dX12_givesWay_154 ?_
      refine xo_geta dX12_givesWay_155 cl_11 fl_RX12_22 rfl (fun v41 => ?_)
      refine xo_iload_n rfl rfl dX12_givesWay_158 ?_
      refine xo_iald dX12_givesWay_159 (fun v42 => ?_)
      refine xo_i2l dX12_givesWay_160 ?_
      refine xo_last dX12_givesWay_161 (fun t43 => ?_)
      refine xo_aload_n rfl rfl dX12_givesWay_162 ?_
      refine xo_geta dX12_givesWay_163 cl_11 fl_RX12_117 rfl (fun v44 => ?_)
      refine xo_bipush kb_8 dX12_givesWay_166 ?_
      refine xo_aload_n rfl rfl dX12_givesWay_168 ?_
      refine xo_iload_n rfl rfl dX12_givesWay_169 ?_
      refine mk_O.callV (N := M_X12_sinceOf) (ci := 11) (q := (RX12, TX12, 64)) (b := x0) (As1 := [.int x1]) (S := [.int (8 : Int32), .ref v44]) md_X12_sinceOf mv_X12_sinceOf lk_RX12_362 rfl (Nat.le_of_ble_eq_true rfl) (by decide) dX12_givesWay_170 rfl rfl rfl (fun z hz => (c_X12_sinceOf x0 x1 t43 z hz).1) (fun z hz => (c_X12_sinceOf x0 x1 t43 z hz).2) (fun z45 _ => ?_)
      show mk_O _ _ _ _ (.int z45.1 :: [.int (8 : Int32), .ref v44]) _ _
      refine xo_i2l dX12_givesWay_173 ?_
      refine xo_last dX12_givesWay_174 (fun t46 => ?_)
      refine xo_aload_n rfl rfl dX12_givesWay_175 ?_
      refine xo_geta dX12_givesWay_176 cl_11 fl_RX12_117 rfl (fun v47 => ?_)
      refine xo_bipush kb_9 dX12_givesWay_179 ?_
      refine xo_aload_n rfl rfl dX12_givesWay_181 ?_
      refine mk_O.callV (N := M_X12_allGround) (ci := 11) (q := (RX12, TX12, 64)) (b := x0) (As1 := []) (S := [.int (9 : Int32), .ref v47]) md_X12_allGround mv_X12_allGround lk_RX12_379 rfl (Nat.le_of_ble_eq_true rfl) (by decide) dX12_givesWay_182 rfl rfl rfl (fun z hz => (c_X12_allGround x0 t46 z hz).1) (fun z hz => (c_X12_allGround x0 t46 z hz).2) (fun z48 _ => ?_)
      show mk_O _ _ _ _ (.int z48.1 :: [.int (9 : Int32), .ref v47]) _ _
      refine xo_i2l dX12_givesWay_185 ?_
      refine xo_last dX12_givesWay_186 (fun t49 => ?_)
      refine xo_aload_n rfl rfl dX12_givesWay_187 ?_
      refine xo_geta dX12_givesWay_188 cl_11 fl_RX12_117 rfl (fun v50 => ?_)
      refine xo_bipush kb_10 dX12_givesWay_191 ?_
      refine xo_aload_n rfl rfl dX12_givesWay_193 ?_
      refine xo_geta dX12_givesWay_194 cl_11 fl_RX12_9 rfl (fun v51 => ?_)
      refine xo_bipush kb_6 dX12_givesWay_197 ?_
      refine xo_iald dX12_givesWay_199 (fun v52 => ?_)
      refine mk_O.callS (N := M_X12_bits) (As := [.int v52]) (S := [.int (10 : Int32), .ref v50]) md_X12_bits ms_X12_bits lk_RX12_382 rfl (Nat.le_of_ble_eq_true rfl) (by decide) dX12_givesWay_200 rfl (fun z hz => c_X12_bits v52 t49 z hz) (fun z53 _ => ?_)
      show mk_O _ _ _ _ (.int z53.1 :: [.int (10 : Int32), .ref v50]) _ _
      refine xo_i2l dX12_givesWay_203 ?_
      refine xo_last dX12_givesWay_204 (fun t54 => ?_)
      refine xo_aload_n rfl rfl dX12_givesWay_205 ?_
      refine xo_geta dX12_givesWay_206 cl_11 fl_RX12_117 rfl (fun v55 => ?_)
      refine xo_bipush kb_11 dX12_givesWay_209 ?_
      refine xo_aload_n rfl rfl dX12_givesWay_211 ?_
      refine xo_geta dX12_givesWay_212 cl_11 fl_RX12_9 rfl (fun v56 => ?_)
      refine xo_iconst kc_5 dX12_givesWay_215 ?_
      refine xo_iald dX12_givesWay_216 (fun v57 => ?_)
      refine xo_i2l dX12_givesWay_217 ?_
      refine xo_last dX12_givesWay_218 (fun t58 => ?_)
      refine xo_aload_n rfl rfl dX12_givesWay_219 ?_
      refine mk_O.callV (N := M_X12_wanted) (ci := 11) (q := (RX12, TX12, 64)) (b := x0) (As1 := []) (S := []) md_X12_wanted mv_X12_wanted lk_RX12_385 rfl (Nat.le_of_ble_eq_true rfl) (by decide) dX12_givesWay_220 rfl rfl rfl (fun z hz => (c_X12_wanted x0 t58 z hz).1) (fun z hz => (c_X12_wanted x0 t58 z hz).2) (fun z59 _ => ?_)
      show mk_O _ _ _ _ (.long z59.1 :: []) _ _
      refine xo_lconst kl_0 dX12_givesWay_223 ?_
      refine xo_lcmp dX12_givesWay_224 ?_
      refine xo_if_le (tgt := 232) dX12_givesWay_225 rfl (fun _ => ?_) (fun _ => ?_)
      · refine xo_iconst kc_0 dX12_givesWay_232 ?_
        exact xo_zret dX12_givesWay_233 rfl
      · refine xo_iconst kc_1 dX12_givesWay_228 ?_
        refine xo_goto (tgt := 233) dX12_givesWay_229 rfl ?_
        exact xo_zret dX12_givesWay_233 rfl
theorem c_X12_givesWay (x0 : Nat) (x1 : Int32) (t : mk_S) (z : Int32 × mk_S) (h : F_X12_givesWay x0 x1 t = some z) : mk_is t x0 11 ∧ mk_Ct M_X12_givesWay [.ref x0, .int x1] t (mk_wi z.1, z.2) :=
  ⟨(mk_gd_spec h).1, mk_ct (w := mk_wi) (by decide +kernel) (Nat.le_of_ble_eq_true rfl) (p_X12_givesWay x0 x1 t) z (mk_gd_spec h).2⟩
def B_X12_blows_54 (k2 : Nat → Int32 → Int32 → mk_S → Option (Unit × mk_S)) (k19 : Nat → Int32 → Int32 → Int32 → mk_S → Option (Unit × mk_S)) (x0 : Nat) (x1 : Int32) (x2 : Int32) (x3 : Int32) (s0 : Nat) (s1 : Int32) (s2 : Int32) (s3 : Int32) (t : mk_S) : Option (Unit × mk_S) := (mk_st 100 t s0 s1 (s2 + s3)).bind fun t1 => k19 x0 x1 x2 (x3 + (1 : Int32)) t1
def B_X12_blows_19 (k2 : Nat → Int32 → Int32 → mk_S → Option (Unit × mk_S)) : Nat → Nat → Int32 → Int32 → Int32 → mk_S → Option (Unit × mk_S)
  | 0, _, _, _, _, _ => none
  | n + 1, x0, x1, x2, x3, t => (mk_ga t x0 11 1).bind fun v1 => (mk_ld 100 t v1 (2 : Int32)).bind fun v2 => if v2 ≤ x3 then (k2 x0 x1 (x2 + (1 : Int32)) t) else ((mk_ga t x0 11 8).bind fun v3 => (mk_ld 100 t v3 x2).bind fun v4 => (F_X12_has x1 x3 t).bind fun z5 => if z5.1 = 0 then (B_X12_blows_54 k2 (B_X12_blows_19 k2 n) x0 x1 x2 x3 v3 x2 v4 (0 : Int32) z5.2) else ((F_X12_puffIn x0 x3 x2 z5.2).bind fun z6 => B_X12_blows_54 k2 (B_X12_blows_19 k2 n) x0 x1 x2 x3 v3 x2 v4 z6.1 z6.2))
def B_X12_blows_117 (k70 : Nat → Int32 → Int32 → mk_S → Option (Unit × mk_S)) (x0 : Nat) (x1 : Int32) (x2 : Int32) (t : mk_S) : Option (Unit × mk_S) := k70 x0 x1 (x2 + (1 : Int32)) t
def B_X12_blows_70 : Nat → Nat → Int32 → Int32 → mk_S → Option (Unit × mk_S)
  | 0, _, _, _, _ => none
  | n + 1, x0, x1, x2, t => (mk_ga t x0 11 1).bind fun v1 => (mk_ld 100 t v1 (2 : Int32)).bind fun v2 => if v2 ≤ x2 then (some ((), t)) else ((F_X12_has x1 x2 t).bind fun z3 => if z3.1 = 0 then (B_X12_blows_117 (B_X12_blows_70 n) x0 x1 x2 z3.2) else ((mk_ga z3.2 x0 11 4).bind fun v4 => (mk_st 100 z3.2 v4 x2 (0 : Int32)).bind fun t5 => (mk_ga t5 x0 11 5).bind fun v6 => (mk_ld 100 t5 v6 x2).bind fun v7 => (mk_st 100 t5 v6 x2 (v7 + (1 : Int32))).bind fun t8 => (mk_ga t8 x0 11 6).bind fun v9 => (mk_ga t8 x0 11 1).bind fun v10 => (mk_ld 100 t8 v10 (5 : Int32)).bind fun v11 => (mk_st 100 t8 v9 x2 v11).bind fun t12 => B_X12_blows_117 (B_X12_blows_70 n) x0 x1 x2 t12))
def B_X12_blows_2 : Nat → Nat → Int32 → Int32 → mk_S → Option (Unit × mk_S)
  | 0, _, _, _, _ => none
  | n + 1, x0, x1, x2, t => (F_X12_cells x0 t).bind fun z1 => if z1.1 ≤ x2 then (B_X12_blows_70 mk_fu x0 x1 (0 : Int32) z1.2) else ((mk_ga z1.2 x0 11 8).bind fun v2 => (mk_st 100 z1.2 v2 x2 (0 : Int32)).bind fun t3 => B_X12_blows_19 (B_X12_blows_2 n) mk_fu x0 x1 x2 (0 : Int32) t3)
def F_X12_blows (x0 : Nat) (x1 : Int32) (t : mk_S) : Option (Unit × mk_S) := mk_gd t x0 11 (B_X12_blows_2 mk_fu x0 x1 (0 : Int32) t)
theorem o_X12_blows_54 (k2 : Nat → Int32 → Int32 → mk_S → Option (Unit × mk_S)) (k19 : Nat → Int32 → Int32 → Int32 → mk_S → Option (Unit × mk_S)) (h2 : ∀ (x0 : Nat) (x1 : Int32) (x2 : Int32) (t : mk_S), mk_O mk_wu M_X12_blows 2 [some (.ref x0), some (.int x1), some (.int x2), none] [] t (k2 x0 x1 x2 t)) (h19 : ∀ (x0 : Nat) (x1 : Int32) (x2 : Int32) (x3 : Int32) (t : mk_S), mk_O mk_wu M_X12_blows 19 [some (.ref x0), some (.int x1), some (.int x2), some (.int x3)] [] t (k19 x0 x1 x2 x3 t)) (x0 : Nat) (x1 : Int32) (x2 : Int32) (x3 : Int32) (s0 : Nat) (s1 : Int32) (s2 : Int32) (s3 : Int32) (t : mk_S) : mk_O mk_wu M_X12_blows 54 [some (.ref x0), some (.int x1), some (.int x2), some (.int x3)] [.int s3, .int s2, .int s1, .ref s0] t (B_X12_blows_54 k2 k19 x0 x1 x2 x3 s0 s1 s2 s3 t) := by
  unfold B_X12_blows_54
  refine xo_iadd dX12_blows_54 ?_
  refine xo_iast dX12_blows_55 (fun t1 => ?_)
  refine xo_iinc rfl (congrArg _ kc_1) (by decide) (mk_p1_v rfl rfl) dX12_blows_56 ?_
  refine xo_goto (tgt := 19) dX12_blows_59 rfl ?_
  exact mk_O.wk (h19 x0 x1 x2 (x3 + (1 : Int32)) t1) ⟨rfl, ⟨rfl, ⟨rfl, ⟨rfl, trivial⟩⟩⟩⟩
theorem o_X12_blows_19 (k2 : Nat → Int32 → Int32 → mk_S → Option (Unit × mk_S)) (h2 : ∀ (x0 : Nat) (x1 : Int32) (x2 : Int32) (t : mk_S), mk_O mk_wu M_X12_blows 2 [some (.ref x0), some (.int x1), some (.int x2), none] [] t (k2 x0 x1 x2 t)) : ∀ (n : Nat) (x0 : Nat) (x1 : Int32) (x2 : Int32) (x3 : Int32) (t : mk_S), mk_O mk_wu M_X12_blows 19 [some (.ref x0), some (.int x1), some (.int x2), some (.int x3)] [] t (B_X12_blows_19 k2 n x0 x1 x2 x3 t) := by
  intro n
  induction n with
  | zero =>
    intro x0 x1 x2 x3 t
    exact mk_O.none
  | succ n ih =>
    intro x0 x1 x2 x3 t
    rw [B_X12_blows_19]
    refine xo_iload_n rfl rfl dX12_blows_19 ?_
    refine xo_aload_n rfl rfl dX12_blows_20 ?_
    refine xo_geta dX12_blows_21 cl_11 fl_RX12_9 rfl (fun v1 => ?_)
    refine xo_iconst kc_2 dX12_blows_24 ?_
    refine xo_iald dX12_blows_25 (fun v2 => ?_)
    refine xo_icmp_ge (tgt := 62) dX12_blows_26 rfl (fun _ => ?_) (fun _ => ?_)
    · refine xo_iinc rfl (congrArg _ kc_1) (by decide) (mk_p1_v rfl rfl) dX12_blows_62 ?_
      refine xo_goto (tgt := 2) dX12_blows_65 rfl ?_
      exact mk_O.wk (h2 x0 x1 (x2 + (1 : Int32)) t) ⟨rfl, ⟨rfl, ⟨rfl, trivial⟩⟩⟩
    · refine xo_aload_n rfl rfl dX12_blows_29 ?_
      refine xo_geta dX12_blows_30 cl_11 fl_RX12_31 rfl (fun v3 => ?_)
      refine xo_iload_n rfl rfl dX12_blows_33 ?_
      refine xo_dup2 rfl rfl dX12_blows_34 ?_
      refine xo_iald dX12_blows_35 (fun v4 => ?_)
      refine xo_iload_n rfl rfl dX12_blows_36 ?_
      refine xo_iload_n rfl rfl dX12_blows_37 ?_
      refine mk_O.callS (N := M_X12_has) (As := [.int x1, .int x3]) (S := [.int v4, .int x2, .ref v3]) md_X12_has ms_X12_has lk_RX12_389 rfl (Nat.le_of_ble_eq_true rfl) (by decide) dX12_blows_38 rfl (fun z hz => c_X12_has x1 x3 t z hz) (fun z5 _ => ?_)
      show mk_O _ _ _ _ (.int z5.1 :: [.int v4, .int x2, .ref v3]) _ _
      refine xo_if_eq (tgt := 53) dX12_blows_41 rfl (fun _ => ?_) (fun _ => ?_)
      · refine xo_iconst kc_0 dX12_blows_53 ?_
        exact mk_O.wk (o_X12_blows_54 _ _ h2 ih x0 x1 x2 x3 v3 x2 v4 (0 : Int32) z5.2) ⟨rfl, ⟨rfl, ⟨rfl, ⟨rfl, trivial⟩⟩⟩⟩
      · refine xo_aload_n rfl rfl dX12_blows_44 ?_
        refine xo_iload_n rfl rfl dX12_blows_45 ?_
        refine xo_iload_n rfl rfl dX12_blows_46 ?_
        refine mk_O.callV (N := M_X12_puffIn) (ci := 11) (q := (RX12, TX12, 64)) (b := x0) (As1 := [.int x3, .int x2]) (S := [.int v4, .int x2, .ref v3]) md_X12_puffIn mv_X12_puffIn lk_RX12_392 rfl (Nat.le_of_ble_eq_true rfl) (by decide) dX12_blows_47 rfl rfl rfl (fun z hz => (c_X12_puffIn x0 x3 x2 z5.2 z hz).1) (fun z hz => (c_X12_puffIn x0 x3 x2 z5.2 z hz).2) (fun z6 _ => ?_)
        show mk_O _ _ _ _ (.int z6.1 :: [.int v4, .int x2, .ref v3]) _ _
        refine xo_goto (tgt := 54) dX12_blows_50 rfl ?_
        exact mk_O.wk (o_X12_blows_54 _ _ h2 ih x0 x1 x2 x3 v3 x2 v4 z6.1 z6.2) ⟨rfl, ⟨rfl, ⟨rfl, ⟨rfl, trivial⟩⟩⟩⟩
theorem o_X12_blows_117 (k70 : Nat → Int32 → Int32 → mk_S → Option (Unit × mk_S)) (h70 : ∀ (x0 : Nat) (x1 : Int32) (x2 : Int32) (t : mk_S), mk_O mk_wu M_X12_blows 70 [some (.ref x0), some (.int x1), some (.int x2), none] [] t (k70 x0 x1 x2 t)) (x0 : Nat) (x1 : Int32) (x2 : Int32) (t : mk_S) : mk_O mk_wu M_X12_blows 117 [some (.ref x0), some (.int x1), some (.int x2), none] [] t (B_X12_blows_117 k70 x0 x1 x2 t) := by
  unfold B_X12_blows_117
  refine xo_iinc rfl (congrArg _ kc_1) (by decide) (mk_p1_v rfl rfl) dX12_blows_117 ?_
  refine xo_goto (tgt := 70) dX12_blows_120 rfl ?_
  exact mk_O.wk (h70 x0 x1 (x2 + (1 : Int32)) t) ⟨rfl, ⟨rfl, ⟨rfl, trivial⟩⟩⟩
theorem o_X12_blows_70 : ∀ (n : Nat) (x0 : Nat) (x1 : Int32) (x2 : Int32) (t : mk_S), mk_O mk_wu M_X12_blows 70 [some (.ref x0), some (.int x1), some (.int x2), none] [] t (B_X12_blows_70 n x0 x1 x2 t) := by
  intro n
  induction n with
  | zero =>
    intro x0 x1 x2 t
    exact mk_O.none
  | succ n ih =>
    intro x0 x1 x2 t
    rw [B_X12_blows_70]
    refine xo_iload_n rfl rfl dX12_blows_70 ?_
    refine xo_aload_n rfl rfl dX12_blows_71 ?_
    refine xo_geta dX12_blows_72 cl_11 fl_RX12_9 rfl (fun v1 => ?_)
    refine xo_iconst kc_2 dX12_blows_75 ?_
    refine xo_iald dX12_blows_76 (fun v2 => ?_)
    refine xo_icmp_ge (tgt := 123) dX12_blows_77 rfl (fun _ => ?_) (fun _ => ?_)
    · exact xo_vret dX12_blows_123 rfl
    · refine xo_iload_n rfl rfl dX12_blows_80 ?_
      refine xo_iload_n rfl rfl dX12_blows_81 ?_
      refine mk_O.callS (N := M_X12_has) (As := [.int x1, .int x2]) (S := []) md_X12_has ms_X12_has lk_RX12_389 rfl (Nat.le_of_ble_eq_true rfl) (by decide) dX12_blows_82 rfl (fun z hz => c_X12_has x1 x2 t z hz) (fun z3 _ => ?_)
      show mk_O _ _ _ _ (.int z3.1 :: []) _ _
      refine xo_if_eq (tgt := 117) dX12_blows_85 rfl (fun _ => ?_) (fun _ => ?_)
      · exact mk_O.wk (o_X12_blows_117 _ ih x0 x1 x2 z3.2) ⟨rfl, ⟨rfl, ⟨rfl, trivial⟩⟩⟩
      · refine xo_aload_n rfl rfl dX12_blows_88 ?_
        refine xo_geta dX12_blows_89 cl_11 fl_RX12_19 rfl (fun v4 => ?_)
        refine xo_iload_n rfl rfl dX12_blows_92 ?_
        refine xo_iconst kc_0 dX12_blows_93 ?_
        refine xo_iast dX12_blows_94 (fun t5 => ?_)
        refine xo_aload_n rfl rfl dX12_blows_95 ?_
        refine xo_geta dX12_blows_96 cl_11 fl_RX12_22 rfl (fun v6 => ?_)
        refine xo_iload_n rfl rfl dX12_blows_99 ?_
        refine xo_dup2 rfl rfl dX12_blows_100 ?_
        refine xo_iald dX12_blows_101 (fun v7 => ?_)
        refine xo_iconst kc_1 dX12_blows_102 ?_
        refine xo_iadd dX12_blows_103 ?_
        refine xo_iast dX12_blows_104 (fun t8 => ?_)
        refine xo_aload_n rfl rfl dX12_blows_105 ?_
        refine xo_geta dX12_blows_106 cl_11 fl_RX12_25 rfl (fun v9 => ?_)
        refine xo_iload_n rfl rfl dX12_blows_109 ?_
        refine xo_aload_n rfl rfl dX12_blows_110 ?_
        refine xo_geta dX12_blows_111 cl_11 fl_RX12_9 rfl (fun v10 => ?_)
        refine xo_iconst kc_5 dX12_blows_114 ?_
        refine xo_iald dX12_blows_115 (fun v11 => ?_)
        refine xo_iast dX12_blows_116 (fun t12 => ?_)
        exact mk_O.wk (o_X12_blows_117 _ ih x0 x1 x2 t12) ⟨rfl, ⟨rfl, ⟨rfl, trivial⟩⟩⟩
theorem o_X12_blows_2 : ∀ (n : Nat) (x0 : Nat) (x1 : Int32) (x2 : Int32) (t : mk_S), mk_O mk_wu M_X12_blows 2 [some (.ref x0), some (.int x1), some (.int x2), none] [] t (B_X12_blows_2 n x0 x1 x2 t) := by
  intro n
  induction n with
  | zero =>
    intro x0 x1 x2 t
    exact mk_O.none
  | succ n ih =>
    intro x0 x1 x2 t
    rw [B_X12_blows_2]
    refine xo_iload_n rfl rfl dX12_blows_2 ?_
    refine xo_aload_n rfl rfl dX12_blows_3 ?_
    refine mk_O.callV (N := M_X12_cells) (ci := 11) (q := (RX12, TX12, 64)) (b := x0) (As1 := []) (S := [.int x2]) md_X12_cells mv_X12_cells lk_RX12_155 rfl (Nat.le_of_ble_eq_true rfl) (by decide) dX12_blows_4 rfl rfl rfl (fun z hz => (c_X12_cells x0 t z hz).1) (fun z hz => (c_X12_cells x0 t z hz).2) (fun z1 _ => ?_)
    show mk_O _ _ _ _ (.int z1.1 :: [.int x2]) _ _
    refine xo_icmp_ge (tgt := 68) dX12_blows_7 rfl (fun _ => ?_) (fun _ => ?_)
    · refine xo_iconst kc_0 dX12_blows_68 ?_
      refine xo_istore_n rfl (by decide) (mk_p1_v rfl rfl) dX12_blows_69 ?_
      exact mk_O.wk (o_X12_blows_70 mk_fu x0 x1 (0 : Int32) z1.2) ⟨rfl, ⟨rfl, ⟨rfl, trivial⟩⟩⟩
    · refine xo_aload_n rfl rfl dX12_blows_10 ?_
      refine xo_geta dX12_blows_11 cl_11 fl_RX12_31 rfl (fun v2 => ?_)
      refine xo_iload_n rfl rfl dX12_blows_14 ?_
      refine xo_iconst kc_0 dX12_blows_15 ?_
      refine xo_iast dX12_blows_16 (fun t3 => ?_)
      refine xo_iconst kc_0 dX12_blows_17 ?_
      refine xo_istore_n rfl (by decide) (mk_p1_v rfl rfl) dX12_blows_18 ?_
      exact mk_O.wk (o_X12_blows_19 _ ih mk_fu x0 x1 x2 (0 : Int32) t3) ⟨rfl, ⟨rfl, ⟨rfl, ⟨rfl, trivial⟩⟩⟩⟩
theorem p_X12_blows (x0 : Nat) (x1 : Int32) (t : mk_S) : mk_O mk_wu M_X12_blows 0 [some (.ref x0), some (.int x1), none, none] [] t (B_X12_blows_2 mk_fu x0 x1 (0 : Int32) t) := by
  refine xo_iconst kc_0 dX12_blows_0 ?_
  refine xo_istore_n rfl (by decide) (mk_p1_v rfl rfl) dX12_blows_1 ?_
  exact mk_O.wk (o_X12_blows_2 mk_fu x0 x1 (0 : Int32) t) ⟨rfl, ⟨rfl, ⟨rfl, trivial⟩⟩⟩
theorem c_X12_blows (x0 : Nat) (x1 : Int32) (t : mk_S) (z : Unit × mk_S) (h : F_X12_blows x0 x1 t = some z) : mk_is t x0 11 ∧ mk_Ct M_X12_blows [.ref x0, .int x1] t (mk_wu z.1, z.2) :=
  ⟨(mk_gd_spec h).1, mk_ct (w := mk_wu) (by decide +kernel) (Nat.le_of_ble_eq_true rfl) (p_X12_blows x0 x1 t) z (mk_gd_spec h).2⟩
