def B_X8_byteAt_28 (t : mk_S) : Option (Int32 × mk_S) := some ((-1 : Int32), t)
def F_X8_byteAt (x0 : Nat) (x1 : Int32) (t : mk_S) : Option (Int32 × mk_S) := mk_gd t x0 7 (if x1 < 0 then (B_X8_byteAt_28 t) else ((mk_gi t x0 7 1).bind fun v1 => if v1 ≤ x1 then (B_X8_byteAt_28 t) else (if (400 : Int32) ≤ x1 then (B_X8_byteAt_28 t) else ((mk_ga t x0 7 0).bind fun v2 => (mk_ld 100 t v2 x1).bind fun v3 => some (v3, t)))))
theorem o_X8_byteAt_28 (t : mk_S) : mk_O mk_wi M_X8_byteAt 28 [none, none] [] t (B_X8_byteAt_28  t) := by
  unfold B_X8_byteAt_28
  refine xo_iconst kc_m1 dX8_byteAt_28 ?_
  exact xo_iret dX8_byteAt_29 rfl
theorem p_X8_byteAt (x0 : Nat) (x1 : Int32) (t : mk_S) : mk_O mk_wi M_X8_byteAt 0 [some (.ref x0), some (.int x1)] [] t (if x1 < 0 then (B_X8_byteAt_28 t) else ((mk_gi t x0 7 1).bind fun v1 => if v1 ≤ x1 then (B_X8_byteAt_28 t) else (if (400 : Int32) ≤ x1 then (B_X8_byteAt_28 t) else ((mk_ga t x0 7 0).bind fun v2 => (mk_ld 100 t v2 x1).bind fun v3 => some (v3, t))))) := by
  refine xo_iload_n rfl rfl dX8_byteAt_0 ?_
  refine xo_if_lt (tgt := 28) dX8_byteAt_1 rfl (fun _ => ?_) (fun _ => ?_)
  · exact mk_O.wk (o_X8_byteAt_28 t) trivial
  · refine xo_iload_n rfl rfl dX8_byteAt_4 ?_
    refine xo_aload_n rfl rfl dX8_byteAt_5 ?_
    refine xo_geti dX8_byteAt_6 cl_7 fl_RX8_15 rfl (fun v1 => ?_)
    refine xo_icmp_ge (tgt := 28) dX8_byteAt_9 rfl (fun _ => ?_) (fun _ => ?_)
    · exact mk_O.wk (o_X8_byteAt_28 t) trivial
    · refine xo_iload_n rfl rfl dX8_byteAt_12 ?_
      refine xo_sipush ks_400 dX8_byteAt_13 ?_
      refine xo_icmp_ge (tgt := 28) dX8_byteAt_16 rfl (fun _ => ?_) (fun _ => ?_)
      · exact mk_O.wk (o_X8_byteAt_28 t) trivial
      · refine xo_aload_n rfl rfl dX8_byteAt_19 ?_
        refine xo_geta dX8_byteAt_20 cl_7 fl_RX8_9 rfl (fun v2 => ?_)
        refine xo_iload_n rfl rfl dX8_byteAt_23 ?_
        refine xo_iald dX8_byteAt_24 (fun v3 => ?_)
        refine xo_goto (tgt := 29) dX8_byteAt_25 rfl ?_
        exact xo_iret dX8_byteAt_29 rfl
theorem c_X8_byteAt (x0 : Nat) (x1 : Int32) (t : mk_S) (z : Int32 × mk_S) (h : F_X8_byteAt x0 x1 t = some z) : mk_is t x0 7 ∧ mk_Ct M_X8_byteAt [.ref x0, .int x1] t (mk_wi z.1, z.2) :=
  ⟨(mk_gd_spec h).1, mk_ct (w := mk_wi) (by decide +kernel) (Nat.le_of_ble_eq_true rfl) (p_X8_byteAt x0 x1 t) z (mk_gd_spec h).2⟩
def B_X8_readNumber_86 (k12 : Nat → mk_S → Option (Unit × mk_S)) (x0 : Nat) (s0 : Nat) (s1 : Int32) (t : mk_S) : Option (Unit × mk_S) := (mk_pi t s0 7 6 s1).bind fun t1 => (mk_gi t1 x0 7 2).bind fun v2 => (mk_pi t1 x0 7 2 (v2 + (1 : Int32))).bind fun t3 => k12 x0 t3
def B_X8_readNumber_12 : Nat → Nat → mk_S → Option (Unit × mk_S)
  | 0, _, _ => none
  | n + 1, x0, t => (mk_gi t x0 7 2).bind fun v1 => (mk_gi t x0 7 1).bind fun v2 => if v2 ≤ v1 then (some ((), t)) else ((mk_gi t x0 7 2).bind fun v3 => (F_X8_byteAt x0 v3 t).bind fun z4 => if z4.1 < (48 : Int32) then (some ((), z4.2)) else ((mk_gi z4.2 x0 7 2).bind fun v5 => (F_X8_byteAt x0 v5 z4.2).bind fun z6 => if (57 : Int32) < z6.1 then (some ((), z6.2)) else ((mk_gi z6.2 x0 7 2).bind fun v7 => (mk_gi z6.2 x0 7 5).bind fun v8 => if (5 : Int32) ≤ (v7 - v8) then (B_X8_readNumber_86 (B_X8_readNumber_12 n) x0 x0 (-1 : Int32) z6.2) else ((mk_gi z6.2 x0 7 6).bind fun v9 => (mk_gi z6.2 x0 7 2).bind fun v10 => (F_X8_byteAt x0 v10 z6.2).bind fun z11 => B_X8_readNumber_86 (B_X8_readNumber_12 n) x0 x0 (((v9 * (10 : Int32)) + z11.1) - (48 : Int32)) z11.2))))
def F_X8_readNumber (x0 : Nat) (t : mk_S) : Option (Unit × mk_S) := mk_gd t x0 7 ((mk_pi t x0 7 4 (256 : Int32)).bind fun t1 => (mk_pi t1 x0 7 6 (0 : Int32)).bind fun t2 => B_X8_readNumber_12 mk_fu x0 t2)
theorem o_X8_readNumber_86 (k12 : Nat → mk_S → Option (Unit × mk_S)) (h12 : ∀ (x0 : Nat) (t : mk_S), mk_O mk_wu M_X8_readNumber 12 [some (.ref x0)] [] t (k12 x0 t)) (x0 : Nat) (s0 : Nat) (s1 : Int32) (t : mk_S) : mk_O mk_wu M_X8_readNumber 86 [some (.ref x0)] [.int s1, .ref s0] t (B_X8_readNumber_86 k12 x0 s0 s1 t) := by
  unfold B_X8_readNumber_86
  refine xo_puti dX8_readNumber_86 cl_7 fl_RX8_31 rfl ft_7_6 (fun t1 => ?_)
  refine xo_aload_n rfl rfl dX8_readNumber_89 ?_
  refine xo_dup rfl dX8_readNumber_90 ?_
  refine xo_geti dX8_readNumber_91 cl_7 fl_RX8_19 rfl (fun v2 => ?_)
  refine xo_iconst kc_1 dX8_readNumber_94 ?_
  refine xo_iadd dX8_readNumber_95 ?_
  refine xo_puti dX8_readNumber_96 cl_7 fl_RX8_19 rfl ft_7_2 (fun t3 => ?_)
  refine xo_goto (tgt := 12) dX8_readNumber_99 rfl ?_
  exact mk_O.wk (h12 x0 t3) ⟨rfl, trivial⟩
theorem o_X8_readNumber_12 : ∀ (n : Nat) (x0 : Nat) (t : mk_S), mk_O mk_wu M_X8_readNumber 12 [some (.ref x0)] [] t (B_X8_readNumber_12 n x0 t) := by
  intro n
  induction n with
  | zero =>
    intro x0 t
    exact mk_O.none
  | succ n ih =>
    intro x0 t
    rw [B_X8_readNumber_12]
    refine xo_aload_n rfl rfl dX8_readNumber_12 ?_
    refine xo_geti dX8_readNumber_13 cl_7 fl_RX8_19 rfl (fun v1 => ?_)
    refine xo_aload_n rfl rfl dX8_readNumber_16 ?_
    refine xo_geti dX8_readNumber_17 cl_7 fl_RX8_15 rfl (fun v2 => ?_)
    refine xo_icmp_ge (tgt := 102) dX8_readNumber_20 rfl (fun _ => ?_) (fun _ => ?_)
    · exact xo_vret dX8_readNumber_102 rfl
    · refine xo_aload_n rfl rfl dX8_readNumber_23 ?_
      refine xo_aload_n rfl rfl dX8_readNumber_24 ?_
      refine xo_geti dX8_readNumber_25 cl_7 fl_RX8_19 rfl (fun v3 => ?_)
      refine mk_O.callV (N := M_X8_byteAt) (ci := 7) (q := (RX8, TX8, 7)) (b := x0) (As1 := [.int v3]) (S := []) md_X8_byteAt mv_X8_byteAt lk_RX8_34 rfl (Nat.le_of_ble_eq_true rfl) (by decide) dX8_readNumber_28 rfl rfl rfl (fun z hz => (c_X8_byteAt x0 v3 t z hz).1) (fun z hz => (c_X8_byteAt x0 v3 t z hz).2) (fun z4 _ => ?_)
      show mk_O _ _ _ _ (.int z4.1 :: []) _ _
      refine xo_bipush kb_48 dX8_readNumber_31 ?_
      refine xo_icmp_lt (tgt := 102) dX8_readNumber_33 rfl (fun _ => ?_) (fun _ => ?_)
      · exact xo_vret dX8_readNumber_102 rfl
      · refine xo_aload_n rfl rfl dX8_readNumber_36 ?_
        refine xo_aload_n rfl rfl dX8_readNumber_37 ?_
        refine xo_geti dX8_readNumber_38 cl_7 fl_RX8_19 rfl (fun v5 => ?_)
        refine mk_O.callV (N := M_X8_byteAt) (ci := 7) (q := (RX8, TX8, 7)) (b := x0) (As1 := [.int v5]) (S := []) md_X8_byteAt mv_X8_byteAt lk_RX8_34 rfl (Nat.le_of_ble_eq_true rfl) (by decide) dX8_readNumber_41 rfl rfl rfl (fun z hz => (c_X8_byteAt x0 v5 z4.2 z hz).1) (fun z hz => (c_X8_byteAt x0 v5 z4.2 z hz).2) (fun z6 _ => ?_)
        show mk_O _ _ _ _ (.int z6.1 :: []) _ _
        refine xo_bipush kb_57 dX8_readNumber_44 ?_
        refine xo_icmp_gt (tgt := 102) dX8_readNumber_46 rfl (fun _ => ?_) (fun _ => ?_)
        · exact xo_vret dX8_readNumber_102 rfl
        · refine xo_aload_n rfl rfl dX8_readNumber_49 ?_
          refine xo_aload_n rfl rfl dX8_readNumber_50 ?_
          refine xo_geti dX8_readNumber_51 cl_7 fl_RX8_19 rfl (fun v7 => ?_)
          refine xo_aload_n rfl rfl dX8_readNumber_54 ?_
          refine xo_geti dX8_readNumber_55 cl_7 fl_RX8_28 rfl (fun v8 => ?_)
          refine xo_isub dX8_readNumber_58 ?_
          refine xo_iconst kc_5 dX8_readNumber_59 ?_
          refine xo_icmp_ge (tgt := 85) dX8_readNumber_60 rfl (fun _ => ?_) (fun _ => ?_)
          · refine xo_iconst kc_m1 dX8_readNumber_85 ?_
            exact mk_O.wk (o_X8_readNumber_86 _ ih x0 x0 (-1 : Int32) z6.2) ⟨rfl, trivial⟩
          · refine xo_aload_n rfl rfl dX8_readNumber_63 ?_
            refine xo_geti dX8_readNumber_64 cl_7 fl_RX8_31 rfl (fun v9 => ?_)
            refine xo_bipush kb_10 dX8_readNumber_67 ?_
            refine xo_imul dX8_readNumber_69 ?_
            refine xo_aload_n rfl rfl dX8_readNumber_70 ?_
            refine xo_aload_n rfl rfl dX8_readNumber_71 ?_
            refine xo_geti dX8_readNumber_72 cl_7 fl_RX8_19 rfl (fun v10 => ?_)
            refine mk_O.callV (N := M_X8_byteAt) (ci := 7) (q := (RX8, TX8, 7)) (b := x0) (As1 := [.int v10]) (S := [.int (v9 * (10 : Int32)), .ref x0]) md_X8_byteAt mv_X8_byteAt lk_RX8_34 rfl (Nat.le_of_ble_eq_true rfl) (by decide) dX8_readNumber_75 rfl rfl rfl (fun z hz => (c_X8_byteAt x0 v10 z6.2 z hz).1) (fun z hz => (c_X8_byteAt x0 v10 z6.2 z hz).2) (fun z11 _ => ?_)
            show mk_O _ _ _ _ (.int z11.1 :: [.int (v9 * (10 : Int32)), .ref x0]) _ _
            refine xo_iadd dX8_readNumber_78 ?_
            refine xo_bipush kb_48 dX8_readNumber_79 ?_
            refine xo_isub dX8_readNumber_81 ?_
            refine xo_goto (tgt := 86) dX8_readNumber_82 rfl ?_
            exact mk_O.wk (o_X8_readNumber_86 _ ih x0 x0 (((v9 * (10 : Int32)) + z11.1) - (48 : Int32)) z11.2) ⟨rfl, trivial⟩
theorem p_X8_readNumber (x0 : Nat) (t : mk_S) : mk_O mk_wu M_X8_readNumber 0 [some (.ref x0)] [] t ((mk_pi t x0 7 4 (256 : Int32)).bind fun t1 => (mk_pi t1 x0 7 6 (0 : Int32)).bind fun t2 => B_X8_readNumber_12 mk_fu x0 t2) := by
  refine xo_aload_n rfl rfl dX8_readNumber_0 ?_
  refine xo_sipush ks_256 dX8_readNumber_1 ?_
  refine xo_puti dX8_readNumber_4 cl_7 fl_RX8_25 rfl ft_7_4 (fun t1 => ?_)
  refine xo_aload_n rfl rfl dX8_readNumber_7 ?_
  refine xo_iconst kc_0 dX8_readNumber_8 ?_
  refine xo_puti dX8_readNumber_9 cl_7 fl_RX8_31 rfl ft_7_6 (fun t2 => ?_)
  exact mk_O.wk (o_X8_readNumber_12 mk_fu x0 t2) ⟨rfl, trivial⟩
theorem c_X8_readNumber (x0 : Nat) (t : mk_S) (z : Unit × mk_S) (h : F_X8_readNumber x0 t = some z) : mk_is t x0 7 ∧ mk_Ct M_X8_readNumber [.ref x0] t (mk_wu z.1, z.2) :=
  ⟨(mk_gd_spec h).1, mk_ct (w := mk_wu) (by decide +kernel) (Nat.le_of_ble_eq_true rfl) (p_X8_readNumber x0 t) z (mk_gd_spec h).2⟩
def F_X8_named (x0 : Int32) (t : mk_S) : Option (Nat × mk_S) := if x0 = (300 : Int32) then (some (1000000, t)) else (if x0 = (301 : Int32) then (some (1000001, t)) else (if x0 = (302 : Int32) then (some (1000002, t)) else (if x0 = (303 : Int32) then (some (1000003, t)) else (if x0 = (304 : Int32) then (some (1000004, t)) else (if x0 = (305 : Int32) then (some (1000005, t)) else (if x0 = (306 : Int32) then (some (1000006, t)) else (if x0 = (307 : Int32) then (some (1000007, t)) else (if x0 = (308 : Int32) then (some (1000008, t)) else (if x0 = (309 : Int32) then (some (1000009, t)) else (if x0 = (310 : Int32) then (some (1000010, t)) else (if x0 = (311 : Int32) then (some (1000011, t)) else (if x0 = (312 : Int32) then (some (1000012, t)) else (if x0 = (313 : Int32) then (some (1000013, t)) else (if x0 = (314 : Int32) then (some (1000014, t)) else (if x0 = (315 : Int32) then (some (1000015, t)) else (if x0 = (316 : Int32) then (some (1000016, t)) else (if x0 = (317 : Int32) then (some (1000017, t)) else (if x0 = (318 : Int32) then (some (1000018, t)) else (if x0 = (319 : Int32) then (some (1000019, t)) else (some (1000020, t)))))))))))))))))))))
theorem p_X8_named (x0 : Int32) (t : mk_S) : mk_O mk_wn M_X8_named 0 [some (.int x0)] [] t (if x0 = (300 : Int32) then (some (1000000, t)) else (if x0 = (301 : Int32) then (some (1000001, t)) else (if x0 = (302 : Int32) then (some (1000002, t)) else (if x0 = (303 : Int32) then (some (1000003, t)) else (if x0 = (304 : Int32) then (some (1000004, t)) else (if x0 = (305 : Int32) then (some (1000005, t)) else (if x0 = (306 : Int32) then (some (1000006, t)) else (if x0 = (307 : Int32) then (some (1000007, t)) else (if x0 = (308 : Int32) then (some (1000008, t)) else (if x0 = (309 : Int32) then (some (1000009, t)) else (if x0 = (310 : Int32) then (some (1000010, t)) else (if x0 = (311 : Int32) then (some (1000011, t)) else (if x0 = (312 : Int32) then (some (1000012, t)) else (if x0 = (313 : Int32) then (some (1000013, t)) else (if x0 = (314 : Int32) then (some (1000014, t)) else (if x0 = (315 : Int32) then (some (1000015, t)) else (if x0 = (316 : Int32) then (some (1000016, t)) else (if x0 = (317 : Int32) then (some (1000017, t)) else (if x0 = (318 : Int32) then (some (1000018, t)) else (if x0 = (319 : Int32) then (some (1000019, t)) else (some (1000020, t)))))))))))))))))))))) := by
  refine xo_iload_n rfl rfl dX8_named_0 ?_
  refine mk_O.cs (fun n0 => ?_) (fun n0 => ?_)
  · refine xo_tab (kx := 300) (j := 0) n0 dX8_named_1 (by decide) (by decide) (by decide) rfl rfl ?_
    refine xo_str (i := 0) (by decide) rfl rfl dX8_named_96 ?_
    exact xo_aret dX8_named_98 rfl
  · refine mk_O.cs (fun n1 => ?_) (fun n1 => ?_)
    · refine xo_tab (kx := 301) (j := 1) n1 dX8_named_1 (by decide) (by decide) (by decide) rfl rfl ?_
      refine xo_str (i := 1) (by decide) rfl rfl dX8_named_99 ?_
      exact xo_aret dX8_named_101 rfl
    · refine mk_O.cs (fun n2 => ?_) (fun n2 => ?_)
      · refine xo_tab (kx := 302) (j := 2) n2 dX8_named_1 (by decide) (by decide) (by decide) rfl rfl ?_
        refine xo_str (i := 2) (by decide) rfl rfl dX8_named_102 ?_
        exact xo_aret dX8_named_104 rfl
      · refine mk_O.cs (fun n3 => ?_) (fun n3 => ?_)
        · refine xo_tab (kx := 303) (j := 3) n3 dX8_named_1 (by decide) (by decide) (by decide) rfl rfl ?_
          refine xo_str (i := 3) (by decide) rfl rfl dX8_named_105 ?_
          exact xo_aret dX8_named_107 rfl
        · refine mk_O.cs (fun n4 => ?_) (fun n4 => ?_)
          · refine xo_tab (kx := 304) (j := 4) n4 dX8_named_1 (by decide) (by decide) (by decide) rfl rfl ?_
            refine xo_str (i := 4) (by decide) rfl rfl dX8_named_108 ?_
            exact xo_aret dX8_named_110 rfl
          · refine mk_O.cs (fun n5 => ?_) (fun n5 => ?_)
            · refine xo_tab (kx := 305) (j := 5) n5 dX8_named_1 (by decide) (by decide) (by decide) rfl rfl ?_
              refine xo_str (i := 5) (by decide) rfl rfl dX8_named_111 ?_
              exact xo_aret dX8_named_113 rfl
            · refine mk_O.cs (fun n6 => ?_) (fun n6 => ?_)
              · refine xo_tab (kx := 306) (j := 6) n6 dX8_named_1 (by decide) (by decide) (by decide) rfl rfl ?_
                refine xo_str (i := 6) (by decide) rfl rfl dX8_named_114 ?_
                exact xo_aret dX8_named_116 rfl
              · refine mk_O.cs (fun n7 => ?_) (fun n7 => ?_)
                · refine xo_tab (kx := 307) (j := 7) n7 dX8_named_1 (by decide) (by decide) (by decide) rfl rfl ?_
                  refine xo_str (i := 7) (by decide) rfl rfl dX8_named_117 ?_
                  exact xo_aret dX8_named_119 rfl
                · refine mk_O.cs (fun n8 => ?_) (fun n8 => ?_)
                  · refine xo_tab (kx := 308) (j := 8) n8 dX8_named_1 (by decide) (by decide) (by decide) rfl rfl ?_
                    refine xo_str (i := 8) (by decide) rfl rfl dX8_named_120 ?_
                    exact xo_aret dX8_named_122 rfl
                  · refine mk_O.cs (fun n9 => ?_) (fun n9 => ?_)
                    · refine xo_tab (kx := 309) (j := 9) n9 dX8_named_1 (by decide) (by decide) (by decide) rfl rfl ?_
                      refine xo_str (i := 9) (by decide) rfl rfl dX8_named_123 ?_
                      exact xo_aret dX8_named_125 rfl
                    · refine mk_O.cs (fun n10 => ?_) (fun n10 => ?_)
                      · refine xo_tab (kx := 310) (j := 10) n10 dX8_named_1 (by decide) (by decide) (by decide) rfl rfl ?_
                        refine xo_str (i := 10) (by decide) rfl rfl dX8_named_126 ?_
                        exact xo_aret dX8_named_128 rfl
                      · refine mk_O.cs (fun n11 => ?_) (fun n11 => ?_)
                        · refine xo_tab (kx := 311) (j := 11) n11 dX8_named_1 (by decide) (by decide) (by decide) rfl rfl ?_
                          refine xo_str (i := 11) (by decide) rfl rfl dX8_named_129 ?_
                          exact xo_aret dX8_named_131 rfl
                        · refine mk_O.cs (fun n12 => ?_) (fun n12 => ?_)
                          · refine xo_tab (kx := 312) (j := 12) n12 dX8_named_1 (by decide) (by decide) (by decide) rfl rfl ?_
                            refine xo_str (i := 12) (by decide) rfl rfl dX8_named_132 ?_
                            exact xo_aret dX8_named_134 rfl
                          · refine mk_O.cs (fun n13 => ?_) (fun n13 => ?_)
                            · refine xo_tab (kx := 313) (j := 13) n13 dX8_named_1 (by decide) (by decide) (by decide) rfl rfl ?_
                              refine xo_str (i := 13) (by decide) rfl rfl dX8_named_135 ?_
                              exact xo_aret dX8_named_137 rfl
                            · refine mk_O.cs (fun n14 => ?_) (fun n14 => ?_)
                              · refine xo_tab (kx := 314) (j := 14) n14 dX8_named_1 (by decide) (by decide) (by decide) rfl rfl ?_
                                refine xo_str (i := 14) (by decide) rfl rfl dX8_named_138 ?_
                                exact xo_aret dX8_named_140 rfl
                              · refine mk_O.cs (fun n15 => ?_) (fun n15 => ?_)
                                · refine xo_tab (kx := 315) (j := 15) n15 dX8_named_1 (by decide) (by decide) (by decide) rfl rfl ?_
                                  refine xo_str (i := 15) (by decide) rfl rfl dX8_named_141 ?_
                                  exact xo_aret dX8_named_143 rfl
                                · refine mk_O.cs (fun n16 => ?_) (fun n16 => ?_)
                                  · refine xo_tab (kx := 316) (j := 16) n16 dX8_named_1 (by decide) (by decide) (by decide) rfl rfl ?_
                                    refine xo_str (i := 16) (by decide) rfl rfl dX8_named_144 ?_
                                    exact xo_aret dX8_named_146 rfl
                                  · refine mk_O.cs (fun n17 => ?_) (fun n17 => ?_)
                                    · refine xo_tab (kx := 317) (j := 17) n17 dX8_named_1 (by decide) (by decide) (by decide) rfl rfl ?_
                                      refine xo_str (i := 17) (by decide) rfl rfl dX8_named_147 ?_
                                      exact xo_aret dX8_named_149 rfl
                                    · refine mk_O.cs (fun n18 => ?_) (fun n18 => ?_)
                                      · refine xo_tab (kx := 318) (j := 18) n18 dX8_named_1 (by decide) (by decide) (by decide) rfl rfl ?_
                                        refine xo_str (i := 18) (by decide) rfl rfl dX8_named_150 ?_
                                        exact xo_aret dX8_named_152 rfl
                                      · refine mk_O.cs (fun n19 => ?_) (fun n19 => ?_)
                                        · refine xo_tab (kx := 319) (j := 19) n19 dX8_named_1 (by decide) (by decide) (by decide) rfl rfl ?_
                                          refine xo_str (i := 19) (by decide) rfl rfl dX8_named_153 ?_
                                          exact xo_aret dX8_named_155 rfl
                                        · refine xo_tabo dX8_named_1 (by have q0 := lv_neT (a := 300) n0 (by decide); have q1 := lv_neT (a := 301) n1 (by decide); have q2 := lv_neT (a := 302) n2 (by decide); have q3 := lv_neT (a := 303) n3 (by decide); have q4 := lv_neT (a := 304) n4 (by decide); have q5 := lv_neT (a := 305) n5 (by decide); have q6 := lv_neT (a := 306) n6 (by decide); have q7 := lv_neT (a := 307) n7 (by decide); have q8 := lv_neT (a := 308) n8 (by decide); have q9 := lv_neT (a := 309) n9 (by decide); have q10 := lv_neT (a := 310) n10 (by decide); have q11 := lv_neT (a := 311) n11 (by decide); have q12 := lv_neT (a := 312) n12 (by decide); have q13 := lv_neT (a := 313) n13 (by decide); have q14 := lv_neT (a := 314) n14 (by decide); have q15 := lv_neT (a := 315) n15 (by decide); have q16 := lv_neT (a := 316) n16 (by decide); have q17 := lv_neT (a := 317) n17 (by decide); have q18 := lv_neT (a := 318) n18 (by decide); have q19 := lv_neT (a := 319) n19 (by decide); omega) rfl ?_
                                          refine xo_str (i := 20) (by decide) rfl rfl dX8_named_156 ?_
                                          exact xo_aret dX8_named_158 rfl
theorem c_X8_named (x0 : Int32) (t : mk_S) (z : Nat × mk_S) (h : F_X8_named x0 t = some z) : mk_Ct M_X8_named [.int x0] t (mk_wn z.1, z.2) :=
  mk_ct (w := mk_wn) (by decide +kernel) (Nat.le_of_ble_eq_true rfl) (p_X8_named x0 t) z h
def B_X8_isHere_20 : Nat → Nat → Nat → Int32 → mk_S → Option (Int32 × mk_S)
  | 0, _, _, _, _ => none
  | n + 1, x0, x1, x2, t => (mk_sln x1 t).bind fun z1 => if z1.1 ≤ x2 then (mk_rz (1 : Int32) z1.2) else ((mk_gi z1.2 x0 7 5).bind fun v2 => if (400 : Int32) ≤ (v2 + x2) then (mk_rz (0 : Int32) z1.2) else ((mk_ga z1.2 x0 7 0).bind fun v3 => (mk_gi z1.2 x0 7 5).bind fun v4 => (mk_ld 100 z1.2 v3 (v4 + x2)).bind fun v5 => (mk_sch x1 x2 z1.2).bind fun z6 => if v5 = z6.1 then (B_X8_isHere_20 n x0 x1 (x2 + (1 : Int32)) z6.2) else (mk_rz (0 : Int32) z6.2)))
def F_X8_isHere (x0 : Nat) (x1 : Nat) (t : mk_S) : Option (Int32 × mk_S) := mk_gd t x0 7 ((mk_gi t x0 7 2).bind fun v1 => (mk_gi t x0 7 5).bind fun v2 => (mk_sln x1 t).bind fun z3 => if (v1 - v2) = z3.1 then (B_X8_isHere_20 mk_fu x0 x1 (0 : Int32) z3.2) else (mk_rz (0 : Int32) z3.2))
theorem o_X8_isHere_20 : ∀ (n : Nat) (x0 : Nat) (x1 : Nat) (x2 : Int32) (t : mk_S), mk_O mk_wi M_X8_isHere 20 [some (.ref x0), some (.ref x1), some (.int x2)] [] t (B_X8_isHere_20 n x0 x1 x2 t) := by
  intro n
  induction n with
  | zero =>
    intro x0 x1 x2 t
    exact mk_O.none
  | succ n ih =>
    intro x0 x1 x2 t
    rw [B_X8_isHere_20]
    refine xo_iload_n rfl rfl dX8_isHere_20 ?_
    refine xo_aload_n rfl rfl dX8_isHere_21 ?_
    refine xo_sln (mk_w3 (i := 35) rfl rfl) (Nat.le_of_ble_eq_true rfl) (by decide) dX8_isHere_22 (fun z1 _ => ?_)
    refine xo_icmp_ge (tgt := 67) dX8_isHere_25 rfl (fun _ => ?_) (fun _ => ?_)
    · refine xo_iconst kc_1 dX8_isHere_67 ?_
      exact xo_zret dX8_isHere_68 rfl
    · refine xo_aload_n rfl rfl dX8_isHere_28 ?_
      refine xo_geti dX8_isHere_29 cl_7 fl_RX8_28 rfl (fun v2 => ?_)
      refine xo_iload_n rfl rfl dX8_isHere_32 ?_
      refine xo_iadd dX8_isHere_33 ?_
      refine xo_sipush ks_400 dX8_isHere_34 ?_
      refine xo_icmp_ge (tgt := 59) dX8_isHere_37 rfl (fun _ => ?_) (fun _ => ?_)
      · refine xo_iconst kc_0 dX8_isHere_59 ?_
        exact xo_zret dX8_isHere_60 rfl
      · refine xo_aload_n rfl rfl dX8_isHere_40 ?_
        refine xo_geta dX8_isHere_41 cl_7 fl_RX8_9 rfl (fun v3 => ?_)
        refine xo_aload_n rfl rfl dX8_isHere_44 ?_
        refine xo_geti dX8_isHere_45 cl_7 fl_RX8_28 rfl (fun v4 => ?_)
        refine xo_iload_n rfl rfl dX8_isHere_48 ?_
        refine xo_iadd dX8_isHere_49 ?_
        refine xo_iald dX8_isHere_50 (fun v5 => ?_)
        refine xo_aload_n rfl rfl dX8_isHere_51 ?_
        refine xo_iload_n rfl rfl dX8_isHere_52 ?_
        refine xo_sch (mk_w3 (i := 45) rfl rfl) (Nat.le_of_ble_eq_true rfl) (by decide) dX8_isHere_53 (fun z6 _ => ?_)
        refine xo_icmp_eq (tgt := 61) dX8_isHere_56 rfl (fun _ => ?_) (fun _ => ?_)
        · refine xo_iinc rfl (congrArg _ kc_1) (by decide) (mk_p1_v rfl rfl) dX8_isHere_61 ?_
          refine xo_goto (tgt := 20) dX8_isHere_64 rfl ?_
          exact mk_O.wk (ih x0 x1 (x2 + (1 : Int32)) z6.2) ⟨rfl, ⟨rfl, ⟨rfl, trivial⟩⟩⟩
        · refine xo_iconst kc_0 dX8_isHere_59 ?_
          exact xo_zret dX8_isHere_60 rfl
theorem p_X8_isHere (x0 : Nat) (x1 : Nat) (t : mk_S) : mk_O mk_wi M_X8_isHere 0 [some (.ref x0), some (.ref x1), none] [] t ((mk_gi t x0 7 2).bind fun v1 => (mk_gi t x0 7 5).bind fun v2 => (mk_sln x1 t).bind fun z3 => if (v1 - v2) = z3.1 then (B_X8_isHere_20 mk_fu x0 x1 (0 : Int32) z3.2) else (mk_rz (0 : Int32) z3.2)) := by
  refine xo_aload_n rfl rfl dX8_isHere_0 ?_
  refine xo_geti dX8_isHere_1 cl_7 fl_RX8_19 rfl (fun v1 => ?_)
  refine xo_aload_n rfl rfl dX8_isHere_4 ?_
  refine xo_geti dX8_isHere_5 cl_7 fl_RX8_28 rfl (fun v2 => ?_)
  refine xo_isub dX8_isHere_8 ?_
  refine xo_aload_n rfl rfl dX8_isHere_9 ?_
  refine xo_sln (mk_w3 (i := 35) rfl rfl) (Nat.le_of_ble_eq_true rfl) (by decide) dX8_isHere_10 (fun z3 _ => ?_)
  refine xo_icmp_eq (tgt := 18) dX8_isHere_13 rfl (fun _ => ?_) (fun _ => ?_)
  · refine xo_iconst kc_0 dX8_isHere_18 ?_
    refine xo_istore_n rfl (by decide) (mk_p1_v rfl rfl) dX8_isHere_19 ?_
    exact mk_O.wk (o_X8_isHere_20 mk_fu x0 x1 (0 : Int32) z3.2) ⟨rfl, ⟨rfl, ⟨rfl, trivial⟩⟩⟩
  · refine xo_iconst kc_0 dX8_isHere_16 ?_
    exact xo_zret dX8_isHere_17 rfl
theorem c_X8_isHere (x0 : Nat) (x1 : Nat) (t : mk_S) (z : Int32 × mk_S) (h : F_X8_isHere x0 x1 t = some z) : mk_is t x0 7 ∧ mk_Ct M_X8_isHere [.ref x0, .ref x1] t (mk_wi z.1, z.2) :=
  ⟨(mk_gd_spec h).1, mk_ct (w := mk_wi) (by decide +kernel) (Nat.le_of_ble_eq_true rfl) (p_X8_isHere x0 x1 t) z (mk_gd_spec h).2⟩
def B_X8_readWord_94 (k61 : Nat → Int32 → mk_S → Option (Unit × mk_S)) (x0 : Nat) (x1 : Int32) (t : mk_S) : Option (Unit × mk_S) := k61 x0 (x1 + (1 : Int32)) t
def B_X8_readWord_61 : Nat → Nat → Int32 → mk_S → Option (Unit × mk_S)
  | 0, _, _, _ => none
  | n + 1, x0, x1, t => if (320 : Int32) ≤ x1 then (some ((), t)) else ((mk_gi t x0 7 4).bind fun v1 => if v1 = (259 : Int32) then ((F_X8_named x1 t).bind fun z2 => (F_X8_isHere x0 z2.1 z2.2).bind fun z3 => if z3.1 = 0 then (B_X8_readWord_94 (B_X8_readWord_61 n) x0 x1 z3.2) else ((mk_pi z3.2 x0 7 4 x1).bind fun t4 => B_X8_readWord_94 (B_X8_readWord_61 n) x0 x1 t4)) else (some ((), t)))
def B_X8_readWord_50 (x0 : Nat) (t : mk_S) : Option (Unit × mk_S) := (mk_pi t x0 7 4 (259 : Int32)).bind fun t1 => B_X8_readWord_61 mk_fu x0 (300 : Int32) t1
def B_X8_readWord_0 : Nat → Nat → mk_S → Option (Unit × mk_S)
  | 0, _, _ => none
  | n + 1, x0, t => (mk_gi t x0 7 2).bind fun v1 => (mk_gi t x0 7 1).bind fun v2 => if v2 ≤ v1 then (B_X8_readWord_50 x0 t) else ((mk_gi t x0 7 2).bind fun v3 => (F_X8_byteAt x0 v3 t).bind fun z4 => if z4.1 < (97 : Int32) then (B_X8_readWord_50 x0 z4.2) else ((mk_gi z4.2 x0 7 2).bind fun v5 => (F_X8_byteAt x0 v5 z4.2).bind fun z6 => if (122 : Int32) < z6.1 then (B_X8_readWord_50 x0 z6.2) else ((mk_gi z6.2 x0 7 2).bind fun v7 => (mk_pi z6.2 x0 7 2 (v7 + (1 : Int32))).bind fun t8 => B_X8_readWord_0 n x0 t8)))
def F_X8_readWord (x0 : Nat) (t : mk_S) : Option (Unit × mk_S) := mk_gd t x0 7 (B_X8_readWord_0 mk_fu x0 t)
theorem o_X8_readWord_94 (k61 : Nat → Int32 → mk_S → Option (Unit × mk_S)) (h61 : ∀ (x0 : Nat) (x1 : Int32) (t : mk_S), mk_O mk_wu M_X8_readWord 61 [some (.ref x0), some (.int x1)] [] t (k61 x0 x1 t)) (x0 : Nat) (x1 : Int32) (t : mk_S) : mk_O mk_wu M_X8_readWord 94 [some (.ref x0), some (.int x1)] [] t (B_X8_readWord_94 k61 x0 x1 t) := by
  unfold B_X8_readWord_94
  refine xo_iinc rfl (congrArg _ kc_1) (by decide) (mk_p1_v rfl rfl) dX8_readWord_94 ?_
  refine xo_goto (tgt := 61) dX8_readWord_97 rfl ?_
  exact mk_O.wk (h61 x0 (x1 + (1 : Int32)) t) ⟨rfl, ⟨rfl, trivial⟩⟩
theorem o_X8_readWord_61 : ∀ (n : Nat) (x0 : Nat) (x1 : Int32) (t : mk_S), mk_O mk_wu M_X8_readWord 61 [some (.ref x0), some (.int x1)] [] t (B_X8_readWord_61 n x0 x1 t) := by
  intro n
  induction n with
  | zero =>
    intro x0 x1 t
    exact mk_O.none
  | succ n ih =>
    intro x0 x1 t
    rw [B_X8_readWord_61]
    refine xo_iload_n rfl rfl dX8_readWord_61 ?_
    refine xo_sipush ks_320 dX8_readWord_62 ?_
    refine xo_icmp_ge (tgt := 100) dX8_readWord_65 rfl (fun _ => ?_) (fun _ => ?_)
    · exact xo_vret dX8_readWord_100 rfl
    · refine xo_aload_n rfl rfl dX8_readWord_68 ?_
      refine xo_geti dX8_readWord_69 cl_7 fl_RX8_25 rfl (fun v1 => ?_)
      refine xo_sipush ks_259 dX8_readWord_72 ?_
      refine xo_icmp_ne (tgt := 100) dX8_readWord_75 rfl (fun _ => ?_) (fun _ => ?_)
      · refine xo_aload_n rfl rfl dX8_readWord_78 ?_
        refine xo_iload_n rfl rfl dX8_readWord_79 ?_
        refine mk_O.callS (N := M_X8_named) (As := [.int x1]) (S := [.ref x0]) md_X8_named ms_X8_named lk_RX8_48 rfl (Nat.le_of_ble_eq_true rfl) (by decide) dX8_readWord_80 rfl (fun z hz => c_X8_named x1 t z hz) (fun z2 _ => ?_)
        show mk_O _ _ _ _ (.ref z2.1 :: [.ref x0]) _ _
        refine mk_O.callV (N := M_X8_isHere) (ci := 7) (q := (RX8, TX8, 7)) (b := x0) (As1 := [.ref z2.1]) (S := []) md_X8_isHere mv_X8_isHere lk_RX8_52 rfl (Nat.le_of_ble_eq_true rfl) (by decide) dX8_readWord_83 rfl rfl rfl (fun z hz => (c_X8_isHere x0 z2.1 z2.2 z hz).1) (fun z hz => (c_X8_isHere x0 z2.1 z2.2 z hz).2) (fun z3 _ => ?_)
        show mk_O _ _ _ _ (.int z3.1 :: []) _ _
        refine xo_if_eq (tgt := 94) dX8_readWord_86 rfl (fun _ => ?_) (fun _ => ?_)
        · exact mk_O.wk (o_X8_readWord_94 _ ih x0 x1 z3.2) ⟨rfl, ⟨rfl, trivial⟩⟩
        · refine xo_aload_n rfl rfl dX8_readWord_89 ?_
          refine xo_iload_n rfl rfl dX8_readWord_90 ?_
          refine xo_puti dX8_readWord_91 cl_7 fl_RX8_25 rfl ft_7_4 (fun t4 => ?_)
          exact mk_O.wk (o_X8_readWord_94 _ ih x0 x1 t4) ⟨rfl, ⟨rfl, trivial⟩⟩
      · exact xo_vret dX8_readWord_100 rfl
theorem o_X8_readWord_50 (x0 : Nat) (t : mk_S) : mk_O mk_wu M_X8_readWord 50 [some (.ref x0), none] [] t (B_X8_readWord_50 x0 t) := by
  unfold B_X8_readWord_50
  refine xo_aload_n rfl rfl dX8_readWord_50 ?_
  refine xo_sipush ks_259 dX8_readWord_51 ?_
  refine xo_puti dX8_readWord_54 cl_7 fl_RX8_25 rfl ft_7_4 (fun t1 => ?_)
  refine xo_sipush ks_300 dX8_readWord_57 ?_
  refine xo_istore_n rfl (by decide) (mk_p1_v rfl rfl) dX8_readWord_60 ?_
  exact mk_O.wk (o_X8_readWord_61 mk_fu x0 (300 : Int32) t1) ⟨rfl, ⟨rfl, trivial⟩⟩
theorem o_X8_readWord_0 : ∀ (n : Nat) (x0 : Nat) (t : mk_S), mk_O mk_wu M_X8_readWord 0 [some (.ref x0), none] [] t (B_X8_readWord_0 n x0 t) := by
  intro n
  induction n with
  | zero =>
    intro x0 t
    exact mk_O.none
  | succ n ih =>
    intro x0 t
    rw [B_X8_readWord_0]
    refine xo_aload_n rfl rfl dX8_readWord_0 ?_
    refine xo_geti dX8_readWord_1 cl_7 fl_RX8_19 rfl (fun v1 => ?_)
    refine xo_aload_n rfl rfl dX8_readWord_4 ?_
    refine xo_geti dX8_readWord_5 cl_7 fl_RX8_15 rfl (fun v2 => ?_)
    refine xo_icmp_ge (tgt := 50) dX8_readWord_8 rfl (fun _ => ?_) (fun _ => ?_)
    · exact mk_O.wk (o_X8_readWord_50 x0 t) ⟨rfl, trivial⟩
    · refine xo_aload_n rfl rfl dX8_readWord_11 ?_
      refine xo_aload_n rfl rfl dX8_readWord_12 ?_
      refine xo_geti dX8_readWord_13 cl_7 fl_RX8_19 rfl (fun v3 => ?_)
      refine mk_O.callV (N := M_X8_byteAt) (ci := 7) (q := (RX8, TX8, 7)) (b := x0) (As1 := [.int v3]) (S := []) md_X8_byteAt mv_X8_byteAt lk_RX8_34 rfl (Nat.le_of_ble_eq_true rfl) (by decide) dX8_readWord_16 rfl rfl rfl (fun z hz => (c_X8_byteAt x0 v3 t z hz).1) (fun z hz => (c_X8_byteAt x0 v3 t z hz).2) (fun z4 _ => ?_)
      show mk_O _ _ _ _ (.int z4.1 :: []) _ _
      refine xo_bipush kb_97 dX8_readWord_19 ?_
      refine xo_icmp_lt (tgt := 50) dX8_readWord_21 rfl (fun _ => ?_) (fun _ => ?_)
      · exact mk_O.wk (o_X8_readWord_50 x0 z4.2) ⟨rfl, trivial⟩
      · refine xo_aload_n rfl rfl dX8_readWord_24 ?_
        refine xo_aload_n rfl rfl dX8_readWord_25 ?_
        refine xo_geti dX8_readWord_26 cl_7 fl_RX8_19 rfl (fun v5 => ?_)
        refine mk_O.callV (N := M_X8_byteAt) (ci := 7) (q := (RX8, TX8, 7)) (b := x0) (As1 := [.int v5]) (S := []) md_X8_byteAt mv_X8_byteAt lk_RX8_34 rfl (Nat.le_of_ble_eq_true rfl) (by decide) dX8_readWord_29 rfl rfl rfl (fun z hz => (c_X8_byteAt x0 v5 z4.2 z hz).1) (fun z hz => (c_X8_byteAt x0 v5 z4.2 z hz).2) (fun z6 _ => ?_)
        show mk_O _ _ _ _ (.int z6.1 :: []) _ _
        refine xo_bipush kb_122 dX8_readWord_32 ?_
        refine xo_icmp_gt (tgt := 50) dX8_readWord_34 rfl (fun _ => ?_) (fun _ => ?_)
        · exact mk_O.wk (o_X8_readWord_50 x0 z6.2) ⟨rfl, trivial⟩
        · refine xo_aload_n rfl rfl dX8_readWord_37 ?_
          refine xo_dup rfl dX8_readWord_38 ?_
          refine xo_geti dX8_readWord_39 cl_7 fl_RX8_19 rfl (fun v7 => ?_)
          refine xo_iconst kc_1 dX8_readWord_42 ?_
          refine xo_iadd dX8_readWord_43 ?_
          refine xo_puti dX8_readWord_44 cl_7 fl_RX8_19 rfl ft_7_2 (fun t8 => ?_)
          refine xo_goto (tgt := 0) dX8_readWord_47 rfl ?_
          exact mk_O.wk (ih x0 t8) ⟨rfl, trivial⟩
theorem p_X8_readWord (x0 : Nat) (t : mk_S) : mk_O mk_wu M_X8_readWord 0 [some (.ref x0), none] [] t (B_X8_readWord_0 mk_fu x0 t) := by
  exact mk_O.wk (o_X8_readWord_0 mk_fu x0 t) ⟨rfl, trivial⟩
theorem c_X8_readWord (x0 : Nat) (t : mk_S) (z : Unit × mk_S) (h : F_X8_readWord x0 t = some z) : mk_is t x0 7 ∧ mk_Ct M_X8_readWord [.ref x0] t (mk_wu z.1, z.2) :=
  ⟨(mk_gd_spec h).1, mk_ct (w := mk_wu) (by decide +kernel) (Nat.le_of_ble_eq_true rfl) (p_X8_readWord x0 t) z (mk_gd_spec h).2⟩
def B_X8_readSign_71 (s0 : Nat) (s1 : Int32) (t : mk_S) : Option (Unit × mk_S) := (mk_pi t s0 7 4 s1).bind fun t1 => some ((), t1)
def B_X8_readSign_32 (x0 : Nat) (x1 : Int32) (t : mk_S) : Option (Unit × mk_S) := (mk_gi t x0 7 2).bind fun v1 => (F_X8_byteAt x0 v1 t).bind fun z2 => if z2.1 = (61 : Int32) then ((mk_gi z2.2 x0 7 2).bind fun v3 => (mk_pi z2.2 x0 7 2 (v3 + (1 : Int32))).bind fun t4 => if x1 = (60 : Int32) then (B_X8_readSign_71 x0 (257 : Int32) t4) else (B_X8_readSign_71 x0 (258 : Int32) t4)) else (some ((), z2.2))
def B_X8_readSign_20 (x0 : Nat) (x1 : Int32) (t : mk_S) : Option (Unit × mk_S) := if x1 = (60 : Int32) then (B_X8_readSign_32 x0 x1 t) else (if x1 = (62 : Int32) then (B_X8_readSign_32 x0 x1 t) else (some ((), t)))
def F_X8_readSign (x0 : Nat) (x1 : Int32) (t : mk_S) : Option (Unit × mk_S) := mk_gd t x0 7 ((mk_pi t x0 7 4 x1).bind fun t1 => if x1 = (-1 : Int32) then (B_X8_readSign_20 x0 x1 t1) else ((mk_gi t1 x0 7 2).bind fun v2 => (mk_pi t1 x0 7 2 (v2 + (1 : Int32))).bind fun t3 => B_X8_readSign_20 x0 x1 t3))
theorem o_X8_readSign_71 (s0 : Nat) (s1 : Int32) (t : mk_S) : mk_O mk_wu M_X8_readSign 71 [none, none] [.int s1, .ref s0] t (B_X8_readSign_71 s0 s1 t) := by
  unfold B_X8_readSign_71
  refine xo_puti dX8_readSign_71 cl_7 fl_RX8_25 rfl ft_7_4 (fun t1 => ?_)
  exact xo_vret dX8_readSign_74 rfl
theorem o_X8_readSign_32 (x0 : Nat) (x1 : Int32) (t : mk_S) : mk_O mk_wu M_X8_readSign 32 [some (.ref x0), some (.int x1)] [] t (B_X8_readSign_32 x0 x1 t) := by
  unfold B_X8_readSign_32
  refine xo_aload_n rfl rfl dX8_readSign_32 ?_
  refine xo_aload_n rfl rfl dX8_readSign_33 ?_
  refine xo_geti dX8_readSign_34 cl_7 fl_RX8_19 rfl (fun v1 => ?_)
  refine mk_O.callV (N := M_X8_byteAt) (ci := 7) (q := (RX8, TX8, 7)) (b := x0) (As1 := [.int v1]) (S := []) md_X8_byteAt mv_X8_byteAt lk_RX8_34 rfl (Nat.le_of_ble_eq_true rfl) (by decide) dX8_readSign_37 rfl rfl rfl (fun z hz => (c_X8_byteAt x0 v1 t z hz).1) (fun z hz => (c_X8_byteAt x0 v1 t z hz).2) (fun z2 _ => ?_)
  show mk_O _ _ _ _ (.int z2.1 :: []) _ _
  refine xo_bipush kb_61 dX8_readSign_40 ?_
  refine xo_icmp_ne (tgt := 74) dX8_readSign_42 rfl (fun _ => ?_) (fun _ => ?_)
  · refine xo_aload_n rfl rfl dX8_readSign_45 ?_
    refine xo_dup rfl dX8_readSign_46 ?_
    refine xo_geti dX8_readSign_47 cl_7 fl_RX8_19 rfl (fun v3 => ?_)
    refine xo_iconst kc_1 dX8_readSign_50 ?_
    refine xo_iadd dX8_readSign_51 ?_
    refine xo_puti dX8_readSign_52 cl_7 fl_RX8_19 rfl ft_7_2 (fun t4 => ?_)
    refine xo_aload_n rfl rfl dX8_readSign_55 ?_
    refine xo_iload_n rfl rfl dX8_readSign_56 ?_
    refine xo_bipush kb_60 dX8_readSign_57 ?_
    refine xo_icmp_ne (tgt := 68) dX8_readSign_59 rfl (fun _ => ?_) (fun _ => ?_)
    · refine xo_sipush ks_257 dX8_readSign_62 ?_
      refine xo_goto (tgt := 71) dX8_readSign_65 rfl ?_
      exact mk_O.wk (o_X8_readSign_71 x0 (257 : Int32) t4) trivial
    · refine xo_sipush ks_258 dX8_readSign_68 ?_
      exact mk_O.wk (o_X8_readSign_71 x0 (258 : Int32) t4) trivial
  · exact xo_vret dX8_readSign_74 rfl
theorem o_X8_readSign_20 (x0 : Nat) (x1 : Int32) (t : mk_S) : mk_O mk_wu M_X8_readSign 20 [some (.ref x0), some (.int x1)] [] t (B_X8_readSign_20 x0 x1 t) := by
  unfold B_X8_readSign_20
  refine xo_iload_n rfl rfl dX8_readSign_20 ?_
  refine xo_bipush kb_60 dX8_readSign_21 ?_
  refine xo_icmp_eq (tgt := 32) dX8_readSign_23 rfl (fun _ => ?_) (fun _ => ?_)
  · exact mk_O.wk (o_X8_readSign_32 x0 x1 t) ⟨rfl, ⟨rfl, trivial⟩⟩
  · refine xo_iload_n rfl rfl dX8_readSign_26 ?_
    refine xo_bipush kb_62 dX8_readSign_27 ?_
    refine xo_icmp_ne (tgt := 74) dX8_readSign_29 rfl (fun _ => ?_) (fun _ => ?_)
    · exact mk_O.wk (o_X8_readSign_32 x0 x1 t) ⟨rfl, ⟨rfl, trivial⟩⟩
    · exact xo_vret dX8_readSign_74 rfl
theorem p_X8_readSign (x0 : Nat) (x1 : Int32) (t : mk_S) : mk_O mk_wu M_X8_readSign 0 [some (.ref x0), some (.int x1)] [] t ((mk_pi t x0 7 4 x1).bind fun t1 => if x1 = (-1 : Int32) then (B_X8_readSign_20 x0 x1 t1) else ((mk_gi t1 x0 7 2).bind fun v2 => (mk_pi t1 x0 7 2 (v2 + (1 : Int32))).bind fun t3 => B_X8_readSign_20 x0 x1 t3)) := by
  refine xo_aload_n rfl rfl dX8_readSign_0 ?_
  refine xo_iload_n rfl rfl dX8_readSign_1 ?_
  refine xo_puti dX8_readSign_2 cl_7 fl_RX8_25 rfl ft_7_4 (fun t1 => ?_)
  refine xo_iload_n rfl rfl dX8_readSign_5 ?_
  refine xo_iconst kc_m1 dX8_readSign_6 ?_
  refine xo_icmp_eq (tgt := 20) dX8_readSign_7 rfl (fun _ => ?_) (fun _ => ?_)
  · exact mk_O.wk (o_X8_readSign_20 x0 x1 t1) ⟨rfl, ⟨rfl, trivial⟩⟩
  · refine xo_aload_n rfl rfl dX8_readSign_10 ?_
    refine xo_dup rfl dX8_readSign_11 ?_
    refine xo_geti dX8_readSign_12 cl_7 fl_RX8_19 rfl (fun v2 => ?_)
    refine xo_iconst kc_1 dX8_readSign_15 ?_
    refine xo_iadd dX8_readSign_16 ?_
    refine xo_puti dX8_readSign_17 cl_7 fl_RX8_19 rfl ft_7_2 (fun t3 => ?_)
    exact mk_O.wk (o_X8_readSign_20 x0 x1 t3) ⟨rfl, ⟨rfl, trivial⟩⟩
theorem c_X8_readSign (x0 : Nat) (x1 : Int32) (t : mk_S) (z : Unit × mk_S) (h : F_X8_readSign x0 x1 t = some z) : mk_is t x0 7 ∧ mk_Ct M_X8_readSign [.ref x0, .int x1] t (mk_wu z.1, z.2) :=
  ⟨(mk_gd_spec h).1, mk_ct (w := mk_wu) (by decide +kernel) (Nat.le_of_ble_eq_true rfl) (p_X8_readSign x0 x1 t) z (mk_gd_spec h).2⟩
def B_X8_advance_92 (x0 : Nat) (x1 : Int32) (t : mk_S) : Option (Unit × mk_S) := (F_X8_readSign x0 x1 t).bind fun z1 => some ((), z1.2)
def B_X8_advance_73 (x0 : Nat) (x1 : Int32) (t : mk_S) : Option (Unit × mk_S) := if x1 < (97 : Int32) then (B_X8_advance_92 x0 x1 t) else (if (122 : Int32) < x1 then (B_X8_advance_92 x0 x1 t) else ((F_X8_readWord x0 t).bind fun z1 => some ((), z1.2)))
def B_X8_advance_37 (x0 : Nat) (t : mk_S) : Option (Unit × mk_S) := (mk_gi t x0 7 2).bind fun v1 => (mk_pi t x0 7 5 v1).bind fun t2 => (mk_gi t2 x0 7 2).bind fun v3 => (F_X8_byteAt x0 v3 t2).bind fun z4 => if z4.1 < (48 : Int32) then (B_X8_advance_73 x0 z4.1 z4.2) else (if (57 : Int32) < z4.1 then (B_X8_advance_73 x0 z4.1 z4.2) else ((F_X8_readNumber x0 z4.2).bind fun z5 => some ((), z5.2)))
def B_X8_advance_0 : Nat → Nat → mk_S → Option (Unit × mk_S)
  | 0, _, _ => none
  | n + 1, x0, t => (mk_gi t x0 7 2).bind fun v1 => (mk_gi t x0 7 1).bind fun v2 => if v2 ≤ v1 then (B_X8_advance_37 x0 t) else ((mk_gi t x0 7 2).bind fun v3 => (F_X8_byteAt x0 v3 t).bind fun z4 => if z4.1 = (32 : Int32) then ((mk_gi z4.2 x0 7 2).bind fun v5 => (mk_pi z4.2 x0 7 2 (v5 + (1 : Int32))).bind fun t6 => B_X8_advance_0 n x0 t6) else (B_X8_advance_37 x0 z4.2))
def F_X8_advance (x0 : Nat) (t : mk_S) : Option (Unit × mk_S) := mk_gd t x0 7 (B_X8_advance_0 mk_fu x0 t)
theorem o_X8_advance_92 (x0 : Nat) (x1 : Int32) (t : mk_S) : mk_O mk_wu M_X8_advance 92 [some (.ref x0), some (.int x1)] [] t (B_X8_advance_92 x0 x1 t) := by
  unfold B_X8_advance_92
  refine xo_aload_n rfl rfl dX8_advance_92 ?_
  refine xo_iload_n rfl rfl dX8_advance_93 ?_
  refine mk_O.callV (N := M_X8_readSign) (ci := 7) (q := (RX8, TX8, 7)) (b := x0) (As1 := [.int x1]) (S := []) md_X8_readSign mv_X8_readSign lk_RX8_44 rfl (Nat.le_of_ble_eq_true rfl) (by decide) dX8_advance_94 rfl rfl rfl (fun z hz => (c_X8_readSign x0 x1 t z hz).1) (fun z hz => (c_X8_readSign x0 x1 t z hz).2) (fun z1 _ => ?_)
  show mk_O _ _ _ _ [] _ _
  exact xo_vret dX8_advance_97 rfl
theorem o_X8_advance_73 (x0 : Nat) (x1 : Int32) (t : mk_S) : mk_O mk_wu M_X8_advance 73 [some (.ref x0), some (.int x1)] [] t (B_X8_advance_73 x0 x1 t) := by
  unfold B_X8_advance_73
  refine xo_iload_n rfl rfl dX8_advance_73 ?_
  refine xo_bipush kb_97 dX8_advance_74 ?_
  refine xo_icmp_lt (tgt := 92) dX8_advance_76 rfl (fun _ => ?_) (fun _ => ?_)
  · exact mk_O.wk (o_X8_advance_92 x0 x1 t) ⟨rfl, ⟨rfl, trivial⟩⟩
  · refine xo_iload_n rfl rfl dX8_advance_79 ?_
    refine xo_bipush kb_122 dX8_advance_80 ?_
    refine xo_icmp_gt (tgt := 92) dX8_advance_82 rfl (fun _ => ?_) (fun _ => ?_)
    · exact mk_O.wk (o_X8_advance_92 x0 x1 t) ⟨rfl, ⟨rfl, trivial⟩⟩
    · refine xo_aload_n rfl rfl dX8_advance_85 ?_
      refine mk_O.callV (N := M_X8_readWord) (ci := 7) (q := (RX8, TX8, 7)) (b := x0) (As1 := []) (S := []) md_X8_readWord mv_X8_readWord lk_RX8_41 rfl (Nat.le_of_ble_eq_true rfl) (by decide) dX8_advance_86 rfl rfl rfl (fun z hz => (c_X8_readWord x0 t z hz).1) (fun z hz => (c_X8_readWord x0 t z hz).2) (fun z1 _ => ?_)
      show mk_O _ _ _ _ [] _ _
      refine xo_goto (tgt := 97) dX8_advance_89 rfl ?_
      exact xo_vret dX8_advance_97 rfl
theorem o_X8_advance_37 (x0 : Nat) (t : mk_S) : mk_O mk_wu M_X8_advance 37 [some (.ref x0), none] [] t (B_X8_advance_37 x0 t) := by
  unfold B_X8_advance_37
  refine xo_aload_n rfl rfl dX8_advance_37 ?_
  refine xo_aload_n rfl rfl dX8_advance_38 ?_
  refine xo_geti dX8_advance_39 cl_7 fl_RX8_19 rfl (fun v1 => ?_)
  refine xo_puti dX8_advance_42 cl_7 fl_RX8_28 rfl ft_7_5 (fun t2 => ?_)
  refine xo_aload_n rfl rfl dX8_advance_45 ?_
  refine xo_aload_n rfl rfl dX8_advance_46 ?_
  refine xo_geti dX8_advance_47 cl_7 fl_RX8_19 rfl (fun v3 => ?_)
  refine mk_O.callV (N := M_X8_byteAt) (ci := 7) (q := (RX8, TX8, 7)) (b := x0) (As1 := [.int v3]) (S := []) md_X8_byteAt mv_X8_byteAt lk_RX8_34 rfl (Nat.le_of_ble_eq_true rfl) (by decide) dX8_advance_50 rfl rfl rfl (fun z hz => (c_X8_byteAt x0 v3 t2 z hz).1) (fun z hz => (c_X8_byteAt x0 v3 t2 z hz).2) (fun z4 _ => ?_)
  show mk_O _ _ _ _ (.int z4.1 :: []) _ _
  refine xo_istore_n rfl (by decide) (mk_p1_v rfl rfl) dX8_advance_53 ?_
  refine xo_iload_n rfl rfl dX8_advance_54 ?_
  refine xo_bipush kb_48 dX8_advance_55 ?_
  refine xo_icmp_lt (tgt := 73) dX8_advance_57 rfl (fun _ => ?_) (fun _ => ?_)
  · exact mk_O.wk (o_X8_advance_73 x0 z4.1 z4.2) ⟨rfl, ⟨rfl, trivial⟩⟩
  · refine xo_iload_n rfl rfl dX8_advance_60 ?_
    refine xo_bipush kb_57 dX8_advance_61 ?_
    refine xo_icmp_gt (tgt := 73) dX8_advance_63 rfl (fun _ => ?_) (fun _ => ?_)
    · exact mk_O.wk (o_X8_advance_73 x0 z4.1 z4.2) ⟨rfl, ⟨rfl, trivial⟩⟩
    · refine xo_aload_n rfl rfl dX8_advance_66 ?_
      refine mk_O.callV (N := M_X8_readNumber) (ci := 7) (q := (RX8, TX8, 7)) (b := x0) (As1 := []) (S := []) md_X8_readNumber mv_X8_readNumber lk_RX8_38 rfl (Nat.le_of_ble_eq_true rfl) (by decide) dX8_advance_67 rfl rfl rfl (fun z hz => (c_X8_readNumber x0 z4.2 z hz).1) (fun z hz => (c_X8_readNumber x0 z4.2 z hz).2) (fun z5 _ => ?_)
      show mk_O _ _ _ _ [] _ _
      refine xo_goto (tgt := 97) dX8_advance_70 rfl ?_
      exact xo_vret dX8_advance_97 rfl
theorem o_X8_advance_0 : ∀ (n : Nat) (x0 : Nat) (t : mk_S), mk_O mk_wu M_X8_advance 0 [some (.ref x0), none] [] t (B_X8_advance_0 n x0 t) := by
  intro n
  induction n with
  | zero =>
    intro x0 t
    exact mk_O.none
  | succ n ih =>
    intro x0 t
    rw [B_X8_advance_0]
    refine xo_aload_n rfl rfl dX8_advance_0 ?_
    refine xo_geti dX8_advance_1 cl_7 fl_RX8_19 rfl (fun v1 => ?_)
    refine xo_aload_n rfl rfl dX8_advance_4 ?_
    refine xo_geti dX8_advance_5 cl_7 fl_RX8_15 rfl (fun v2 => ?_)
    refine xo_icmp_ge (tgt := 37) dX8_advance_8 rfl (fun _ => ?_) (fun _ => ?_)
    · exact mk_O.wk (o_X8_advance_37 x0 t) ⟨rfl, trivial⟩
    · refine xo_aload_n rfl rfl dX8_advance_11 ?_
      refine xo_aload_n rfl rfl dX8_advance_12 ?_
      refine xo_geti dX8_advance_13 cl_7 fl_RX8_19 rfl (fun v3 => ?_)
      refine mk_O.callV (N := M_X8_byteAt) (ci := 7) (q := (RX8, TX8, 7)) (b := x0) (As1 := [.int v3]) (S := []) md_X8_byteAt mv_X8_byteAt lk_RX8_34 rfl (Nat.le_of_ble_eq_true rfl) (by decide) dX8_advance_16 rfl rfl rfl (fun z hz => (c_X8_byteAt x0 v3 t z hz).1) (fun z hz => (c_X8_byteAt x0 v3 t z hz).2) (fun z4 _ => ?_)
      show mk_O _ _ _ _ (.int z4.1 :: []) _ _
      refine xo_bipush kb_32 dX8_advance_19 ?_
      refine xo_icmp_ne (tgt := 37) dX8_advance_21 rfl (fun _ => ?_) (fun _ => ?_)
      · refine xo_aload_n rfl rfl dX8_advance_24 ?_
        refine xo_dup rfl dX8_advance_25 ?_
        refine xo_geti dX8_advance_26 cl_7 fl_RX8_19 rfl (fun v5 => ?_)
        refine xo_iconst kc_1 dX8_advance_29 ?_
        refine xo_iadd dX8_advance_30 ?_
        refine xo_puti dX8_advance_31 cl_7 fl_RX8_19 rfl ft_7_2 (fun t6 => ?_)
        refine xo_goto (tgt := 0) dX8_advance_34 rfl ?_
        exact mk_O.wk (ih x0 t6) ⟨rfl, trivial⟩
      · exact mk_O.wk (o_X8_advance_37 x0 z4.2) ⟨rfl, trivial⟩
theorem p_X8_advance (x0 : Nat) (t : mk_S) : mk_O mk_wu M_X8_advance 0 [some (.ref x0), none] [] t (B_X8_advance_0 mk_fu x0 t) := by
  exact mk_O.wk (o_X8_advance_0 mk_fu x0 t) ⟨rfl, trivial⟩
theorem c_X8_advance (x0 : Nat) (t : mk_S) (z : Unit × mk_S) (h : F_X8_advance x0 t = some z) : mk_is t x0 7 ∧ mk_Ct M_X8_advance [.ref x0] t (mk_wu z.1, z.2) :=
  ⟨(mk_gd_spec h).1, mk_ct (w := mk_wu) (by decide +kernel) (Nat.le_of_ble_eq_true rfl) (p_X8_advance x0 t) z (mk_gd_spec h).2⟩
def F_X8_fail (x0 : Nat) (x1 : Int32) (t : mk_S) : Option (Unit × mk_S) := mk_gd t x0 7 ((mk_gi t x0 7 3).bind fun v1 => if v1 = 0 then ((mk_gi t x0 7 5).bind fun v2 => (mk_pi t x0 7 3 (((1 : Int32) + ((8 : Int32) * v2)) + x1)).bind fun t3 => some ((), t3)) else (some ((), t)))
theorem p_X8_fail (x0 : Nat) (x1 : Int32) (t : mk_S) : mk_O mk_wu M_X8_fail 0 [some (.ref x0), some (.int x1)] [] t ((mk_gi t x0 7 3).bind fun v1 => if v1 = 0 then ((mk_gi t x0 7 5).bind fun v2 => (mk_pi t x0 7 3 (((1 : Int32) + ((8 : Int32) * v2)) + x1)).bind fun t3 => some ((), t3)) else (some ((), t))) := by
  refine xo_aload_n rfl rfl dX8_fail_0 ?_
  refine xo_geti dX8_fail_1 cl_7 fl_RX8_22 rfl (fun v1 => ?_)
  refine xo_if_ne (tgt := 22) dX8_fail_4 rfl (fun _ => ?_) (fun _ => ?_)
  · refine xo_aload_n rfl rfl dX8_fail_7 ?_
    refine xo_iconst kc_1 dX8_fail_8 ?_
    refine xo_bipush kb_8 dX8_fail_9 ?_
    refine xo_aload_n rfl rfl dX8_fail_11 ?_
    refine xo_geti dX8_fail_12 cl_7 fl_RX8_28 rfl (fun v2 => ?_)
    refine xo_imul dX8_fail_15 ?_
    refine xo_iadd dX8_fail_16 ?_
    refine xo_iload_n rfl rfl dX8_fail_17 ?_
    refine xo_iadd dX8_fail_18 ?_
    refine xo_puti dX8_fail_19 cl_7 fl_RX8_22 rfl ft_7_3 (fun t3 => ?_)
    exact xo_vret dX8_fail_22 rfl
  · exact xo_vret dX8_fail_22 rfl
theorem c_X8_fail (x0 : Nat) (x1 : Int32) (t : mk_S) (z : Unit × mk_S) (h : F_X8_fail x0 x1 t = some z) : mk_is t x0 7 ∧ mk_Ct M_X8_fail [.ref x0, .int x1] t (mk_wu z.1, z.2) :=
  ⟨(mk_gd_spec h).1, mk_ct (w := mk_wu) (by decide +kernel) (Nat.le_of_ble_eq_true rfl) (p_X8_fail x0 x1 t) z (mk_gd_spec h).2⟩
def B_X4_mayStand_55 (t : mk_S) : Option (Int32 × mk_S) := mk_rz (0 : Int32) t
def B_X4_mayStand_73 (t : mk_S) : Option (Int32 × mk_S) := mk_rz (0 : Int32) t
def B_X4_mayStand_91 (t : mk_S) : Option (Int32 × mk_S) := mk_rz (0 : Int32) t
def F_X4_mayStand (x0 : Int32) (x1 : Nat) (x2 : Int32) (t : mk_S) : Option (Int32 × mk_S) := if x0 = (300 : Int32) then (if x2 = 0 then ((mk_gi t x1 3 2).bind fun v1 => if (6 : Int32) ≤ v1 then (B_X4_mayStand_55 t) else (mk_rz (1 : Int32) t)) else (B_X4_mayStand_55 t)) else (if x0 = (317 : Int32) then (mk_rz x2 t) else (if x0 = (318 : Int32) then (if x2 = 0 then ((mk_gi t x1 3 3).bind fun v2 => if (4 : Int32) ≤ v2 then (B_X4_mayStand_73 t) else (mk_rz (1 : Int32) t)) else (B_X4_mayStand_73 t)) else (if x2 = 0 then ((mk_gi t x1 3 4).bind fun v3 => if (4 : Int32) ≤ v3 then (B_X4_mayStand_91 t) else (mk_rz (1 : Int32) t)) else (B_X4_mayStand_91 t))))
theorem o_X4_mayStand_55 (t : mk_S) : mk_O mk_wi M_X4_mayStand 55 [none, none, none] [] t (B_X4_mayStand_55  t) := by
  unfold B_X4_mayStand_55
  refine xo_iconst kc_0 dX4_mayStand_55 ?_
  exact xo_zret dX4_mayStand_56 rfl
theorem o_X4_mayStand_73 (t : mk_S) : mk_O mk_wi M_X4_mayStand 73 [none, none, none] [] t (B_X4_mayStand_73  t) := by
  unfold B_X4_mayStand_73
  refine xo_iconst kc_0 dX4_mayStand_73 ?_
  exact xo_zret dX4_mayStand_74 rfl
theorem o_X4_mayStand_91 (t : mk_S) : mk_O mk_wi M_X4_mayStand 91 [none, none, none] [] t (B_X4_mayStand_91  t) := by
  unfold B_X4_mayStand_91
  refine xo_iconst kc_0 dX4_mayStand_91 ?_
  exact xo_zret dX4_mayStand_92 rfl
theorem p_X4_mayStand (x0 : Int32) (x1 : Nat) (x2 : Int32) (t : mk_S) : mk_O mk_wi M_X4_mayStand 0 [some (.int x0), some (.ref x1), some (.int x2)] [] t (if x0 = (300 : Int32) then (if x2 = 0 then ((mk_gi t x1 3 2).bind fun v1 => if (6 : Int32) ≤ v1 then (B_X4_mayStand_55 t) else (mk_rz (1 : Int32) t)) else (B_X4_mayStand_55 t)) else (if x0 = (317 : Int32) then (mk_rz x2 t) else (if x0 = (318 : Int32) then (if x2 = 0 then ((mk_gi t x1 3 3).bind fun v2 => if (4 : Int32) ≤ v2 then (B_X4_mayStand_73 t) else (mk_rz (1 : Int32) t)) else (B_X4_mayStand_73 t)) else (if x2 = 0 then ((mk_gi t x1 3 4).bind fun v3 => if (4 : Int32) ≤ v3 then (B_X4_mayStand_91 t) else (mk_rz (1 : Int32) t)) else (B_X4_mayStand_91 t))))) := by
  refine xo_iload_n rfl rfl dX4_mayStand_0 ?_
  refine mk_O.cs (fun n0 => ?_) (fun n0 => ?_)
  · refine xo_look (off := 37) dX4_mayStand_1 rfl (by rw [n0]; decide) rfl ?_
    refine xo_iload_n rfl rfl dX4_mayStand_38 ?_
    refine xo_if_ne (tgt := 55) dX4_mayStand_39 rfl (fun _ => ?_) (fun _ => ?_)
    · refine xo_aload_n rfl rfl dX4_mayStand_42 ?_
      refine xo_geti dX4_mayStand_43 cl_3 fl_RX4_60 rfl (fun v1 => ?_)
      refine xo_bipush kb_6 dX4_mayStand_46 ?_
      refine xo_icmp_ge (tgt := 55) dX4_mayStand_48 rfl (fun _ => ?_) (fun _ => ?_)
      · exact mk_O.wk (o_X4_mayStand_55 t) trivial
      · refine xo_iconst kc_1 dX4_mayStand_51 ?_
        refine xo_goto (tgt := 56) dX4_mayStand_52 rfl ?_
        exact xo_zret dX4_mayStand_56 rfl
    · exact mk_O.wk (o_X4_mayStand_55 t) trivial
  · refine mk_O.cs (fun n1 => ?_) (fun n1 => ?_)
    · refine xo_look (off := 35) dX4_mayStand_1 rfl (by rw [n1]; decide) rfl ?_
      refine xo_iload_n rfl rfl dX4_mayStand_36 ?_
      exact xo_zret dX4_mayStand_37 rfl
    · refine mk_O.cs (fun n2 => ?_) (fun n2 => ?_)
      · refine xo_look (off := 56) dX4_mayStand_1 rfl (by rw [n2]; decide) rfl ?_
        refine xo_iload_n rfl rfl dX4_mayStand_57 ?_
        refine xo_if_ne (tgt := 73) dX4_mayStand_58 rfl (fun _ => ?_) (fun _ => ?_)
        · refine xo_aload_n rfl rfl dX4_mayStand_61 ?_
          refine xo_geti dX4_mayStand_62 cl_3 fl_RX4_63 rfl (fun v2 => ?_)
          refine xo_iconst kc_4 dX4_mayStand_65 ?_
          refine xo_icmp_ge (tgt := 73) dX4_mayStand_66 rfl (fun _ => ?_) (fun _ => ?_)
          · exact mk_O.wk (o_X4_mayStand_73 t) trivial
          · refine xo_iconst kc_1 dX4_mayStand_69 ?_
            refine xo_goto (tgt := 74) dX4_mayStand_70 rfl ?_
            exact xo_zret dX4_mayStand_74 rfl
        · exact mk_O.wk (o_X4_mayStand_73 t) trivial
      · refine xo_look (off := 74) dX4_mayStand_1 rfl ((lv_osw n0 (by decide)).trans ((lv_osw n1 (by decide)).trans ((lv_osw n2 (by decide)).trans (rfl)))) rfl ?_
        refine xo_iload_n rfl rfl dX4_mayStand_75 ?_
        refine xo_if_ne (tgt := 91) dX4_mayStand_76 rfl (fun _ => ?_) (fun _ => ?_)
        · refine xo_aload_n rfl rfl dX4_mayStand_79 ?_
          refine xo_geti dX4_mayStand_80 cl_3 fl_RX4_66 rfl (fun v3 => ?_)
          refine xo_iconst kc_4 dX4_mayStand_83 ?_
          refine xo_icmp_ge (tgt := 91) dX4_mayStand_84 rfl (fun _ => ?_) (fun _ => ?_)
          · exact mk_O.wk (o_X4_mayStand_91 t) trivial
          · refine xo_iconst kc_1 dX4_mayStand_87 ?_
            refine xo_goto (tgt := 92) dX4_mayStand_88 rfl ?_
            exact xo_zret dX4_mayStand_92 rfl
        · exact mk_O.wk (o_X4_mayStand_91 t) trivial
theorem c_X4_mayStand (x0 : Int32) (x1 : Nat) (x2 : Int32) (t : mk_S) (z : Int32 × mk_S) (h : F_X4_mayStand x0 x1 x2 t = some z) : mk_Ct M_X4_mayStand [.int x0, .ref x1, .int x2] t (mk_wi z.1, z.2) :=
  mk_ct (w := mk_wi) (by decide +kernel) (Nat.le_of_ble_eq_true rfl) (p_X4_mayStand x0 x1 x2 t) z h
def F_X8_isSound (x0 : Nat) (t : mk_S) : Option (Int32 × mk_S) := mk_gd t x0 7 ((mk_gi t x0 7 3).bind fun v1 => if v1 = 0 then (mk_rz (1 : Int32) t) else (mk_rz (0 : Int32) t))
theorem p_X8_isSound (x0 : Nat) (t : mk_S) : mk_O mk_wi M_X8_isSound 0 [some (.ref x0)] [] t ((mk_gi t x0 7 3).bind fun v1 => if v1 = 0 then (mk_rz (1 : Int32) t) else (mk_rz (0 : Int32) t)) := by
  refine xo_aload_n rfl rfl dX8_isSound_0 ?_
  refine xo_geti dX8_isSound_1 cl_7 fl_RX8_22 rfl (fun v1 => ?_)
  refine xo_if_ne (tgt := 11) dX8_isSound_4 rfl (fun _ => ?_) (fun _ => ?_)
  · refine xo_iconst kc_1 dX8_isSound_7 ?_
    refine xo_goto (tgt := 12) dX8_isSound_8 rfl ?_
    exact xo_zret dX8_isSound_12 rfl
  · refine xo_iconst kc_0 dX8_isSound_11 ?_
    exact xo_zret dX8_isSound_12 rfl
theorem c_X8_isSound (x0 : Nat) (t : mk_S) (z : Int32 × mk_S) (h : F_X8_isSound x0 t = some z) : mk_is t x0 7 ∧ mk_Ct M_X8_isSound [.ref x0] t (mk_wi z.1, z.2) :=
  ⟨(mk_gd_spec h).1, mk_ct (w := mk_wi) (by decide +kernel) (Nat.le_of_ble_eq_true rfl) (p_X8_isSound x0 t) z (mk_gd_spec h).2⟩
def B_X11_within_14 (t : mk_S) : Option (Int32 × mk_S) := mk_rz (0 : Int32) t
def F_X11_within (x0 : Int32) (x1 : Int32) (x2 : Int32) (t : mk_S) : Option (Int32 × mk_S) := if x0 < x1 then (B_X11_within_14 t) else (if x2 < x0 then (B_X11_within_14 t) else (mk_rz (1 : Int32) t))
theorem o_X11_within_14 (t : mk_S) : mk_O mk_wi M_X11_within 14 [none, none, none] [] t (B_X11_within_14  t) := by
  unfold B_X11_within_14
  refine xo_iconst kc_0 dX11_within_14 ?_
  exact xo_zret dX11_within_15 rfl
theorem p_X11_within (x0 : Int32) (x1 : Int32) (x2 : Int32) (t : mk_S) : mk_O mk_wi M_X11_within 0 [some (.int x0), some (.int x1), some (.int x2)] [] t (if x0 < x1 then (B_X11_within_14 t) else (if x2 < x0 then (B_X11_within_14 t) else (mk_rz (1 : Int32) t))) := by
  refine xo_iload_n rfl rfl dX11_within_0 ?_
  refine xo_iload_n rfl rfl dX11_within_1 ?_
  refine xo_icmp_lt (tgt := 14) dX11_within_2 rfl (fun _ => ?_) (fun _ => ?_)
  · exact mk_O.wk (o_X11_within_14 t) trivial
  · refine xo_iload_n rfl rfl dX11_within_5 ?_
    refine xo_iload_n rfl rfl dX11_within_6 ?_
    refine xo_icmp_gt (tgt := 14) dX11_within_7 rfl (fun _ => ?_) (fun _ => ?_)
    · exact mk_O.wk (o_X11_within_14 t) trivial
    · refine xo_iconst kc_1 dX11_within_10 ?_
      refine xo_goto (tgt := 15) dX11_within_11 rfl ?_
      exact xo_zret dX11_within_15 rfl
theorem c_X11_within (x0 : Int32) (x1 : Int32) (x2 : Int32) (t : mk_S) (z : Int32 × mk_S) (h : F_X11_within x0 x1 x2 t = some z) : mk_Ct M_X11_within [.int x0, .int x1, .int x2] t (mk_wi z.1, z.2) :=
  mk_ct (w := mk_wi) (by decide +kernel) (Nat.le_of_ble_eq_true rfl) (p_X11_within x0 x1 x2 t) z h
def B_X4_next_46 (x0 : Nat) (x1 : Int32) (t : mk_S) : Option (Int32 × mk_S) := (F_X8_isSound x0 t).bind fun z1 => if z1.1 = 0 then (some (x1, z1.2)) else ((mk_gi z1.2 x0 7 6).bind fun v2 => some (v2, z1.2))
def F_X4_next (x0 : Nat) (x1 : Int32) (x2 : Int32) (t : mk_S) : Option (Int32 × mk_S) := (F_X8_isSound x0 t).bind fun z1 => if z1.1 = 0 then (B_X4_next_46 x0 x1 z1.2) else ((F_X8_advance x0 z1.2).bind fun z2 => (mk_gi z2.2 x0 7 4).bind fun v3 => if v3 = (256 : Int32) then ((mk_gi z2.2 x0 7 6).bind fun v4 => (F_X11_within v4 x1 x2 z2.2).bind fun z5 => if z5.1 = 0 then ((F_X8_fail x0 (1 : Int32) z5.2).bind fun z6 => B_X4_next_46 x0 x1 z6.2) else (B_X4_next_46 x0 x1 z5.2)) else ((F_X8_fail x0 (0 : Int32) z2.2).bind fun z7 => B_X4_next_46 x0 x1 z7.2))
theorem o_X4_next_46 (x0 : Nat) (x1 : Int32) (t : mk_S) : mk_O mk_wi M_X4_next 46 [some (.ref x0), some (.int x1), none] [] t (B_X4_next_46 x0 x1 t) := by
  unfold B_X4_next_46
  refine xo_aload_n rfl rfl dX4_next_46 ?_
  refine mk_O.callV (N := M_X8_isSound) (ci := 7) (q := (RX8, TX8, 7)) (b := x0) (As1 := []) (S := []) md_X8_isSound mv_X8_isSound lk_RX4_28 rfl (Nat.le_of_ble_eq_true rfl) (by decide) dX4_next_47 rfl rfl rfl (fun z hz => (c_X8_isSound x0 t z hz).1) (fun z hz => (c_X8_isSound x0 t z hz).2) (fun z1 _ => ?_)
  show mk_O _ _ _ _ (.int z1.1 :: []) _ _
  refine xo_if_eq (tgt := 60) dX4_next_50 rfl (fun _ => ?_) (fun _ => ?_)
  · refine xo_iload_n rfl rfl dX4_next_60 ?_
    exact xo_iret dX4_next_61 rfl
  · refine xo_aload_n rfl rfl dX4_next_53 ?_
    refine xo_geti dX4_next_54 cl_7 fl_RX4_105 rfl (fun v2 => ?_)
    refine xo_goto (tgt := 61) dX4_next_57 rfl ?_
    exact xo_iret dX4_next_61 rfl
theorem p_X4_next (x0 : Nat) (x1 : Int32) (x2 : Int32) (t : mk_S) : mk_O mk_wi M_X4_next 0 [some (.ref x0), some (.int x1), some (.int x2)] [] t ((F_X8_isSound x0 t).bind fun z1 => if z1.1 = 0 then (B_X4_next_46 x0 x1 z1.2) else ((F_X8_advance x0 z1.2).bind fun z2 => (mk_gi z2.2 x0 7 4).bind fun v3 => if v3 = (256 : Int32) then ((mk_gi z2.2 x0 7 6).bind fun v4 => (F_X11_within v4 x1 x2 z2.2).bind fun z5 => if z5.1 = 0 then ((F_X8_fail x0 (1 : Int32) z5.2).bind fun z6 => B_X4_next_46 x0 x1 z6.2) else (B_X4_next_46 x0 x1 z5.2)) else ((F_X8_fail x0 (0 : Int32) z2.2).bind fun z7 => B_X4_next_46 x0 x1 z7.2))) := by
  refine xo_aload_n rfl rfl dX4_next_0 ?_
  refine mk_O.callV (N := M_X8_isSound) (ci := 7) (q := (RX8, TX8, 7)) (b := x0) (As1 := []) (S := []) md_X8_isSound mv_X8_isSound lk_RX4_28 rfl (Nat.le_of_ble_eq_true rfl) (by decide) dX4_next_1 rfl rfl rfl (fun z hz => (c_X8_isSound x0 t z hz).1) (fun z hz => (c_X8_isSound x0 t z hz).2) (fun z1 _ => ?_)
  show mk_O _ _ _ _ (.int z1.1 :: []) _ _
  refine xo_if_eq (tgt := 46) dX4_next_4 rfl (fun _ => ?_) (fun _ => ?_)
  · exact mk_O.wk (o_X4_next_46 x0 x1 z1.2) ⟨rfl, ⟨rfl, trivial⟩⟩
  · refine xo_aload_n rfl rfl dX4_next_7 ?_
    refine mk_O.callV (N := M_X8_advance) (ci := 7) (q := (RX8, TX8, 7)) (b := x0) (As1 := []) (S := []) md_X8_advance mv_X8_advance lk_RX4_19 rfl (Nat.le_of_ble_eq_true rfl) (by decide) dX4_next_8 rfl rfl rfl (fun z hz => (c_X8_advance x0 z1.2 z hz).1) (fun z hz => (c_X8_advance x0 z1.2 z hz).2) (fun z2 _ => ?_)
    show mk_O _ _ _ _ [] _ _
    refine xo_aload_n rfl rfl dX4_next_11 ?_
    refine xo_geti dX4_next_12 cl_7 fl_RX4_32 rfl (fun v3 => ?_)
    refine xo_sipush ks_256 dX4_next_15 ?_
    refine xo_icmp_eq (tgt := 29) dX4_next_18 rfl (fun _ => ?_) (fun _ => ?_)
    · refine xo_aload_n rfl rfl dX4_next_29 ?_
      refine xo_geti dX4_next_30 cl_7 fl_RX4_105 rfl (fun v4 => ?_)
      refine xo_iload_n rfl rfl dX4_next_33 ?_
      refine xo_iload_n rfl rfl dX4_next_34 ?_
      refine mk_O.callS (N := M_X11_within) (As := [.int v4, .int x1, .int x2]) (S := []) md_X11_within ms_X11_within lk_RX4_108 rfl (Nat.le_of_ble_eq_true rfl) (by decide) dX4_next_35 rfl (fun z hz => c_X11_within v4 x1 x2 z2.2 z hz) (fun z5 _ => ?_)
      show mk_O _ _ _ _ (.int z5.1 :: []) _ _
      refine xo_if_ne (tgt := 46) dX4_next_38 rfl (fun _ => ?_) (fun _ => ?_)
      · refine xo_aload_n rfl rfl dX4_next_41 ?_
        refine xo_iconst kc_1 dX4_next_42 ?_
        refine mk_O.callV (N := M_X8_fail) (ci := 7) (q := (RX8, TX8, 7)) (b := x0) (As1 := [.int (1 : Int32)]) (S := []) md_X8_fail mv_X8_fail lk_RX4_36 rfl (Nat.le_of_ble_eq_true rfl) (by decide) dX4_next_43 rfl rfl rfl (fun z hz => (c_X8_fail x0 (1 : Int32) z5.2 z hz).1) (fun z hz => (c_X8_fail x0 (1 : Int32) z5.2 z hz).2) (fun z6 _ => ?_)
        show mk_O _ _ _ _ [] _ _
        exact mk_O.wk (o_X4_next_46 x0 x1 z6.2) ⟨rfl, ⟨rfl, trivial⟩⟩
      · exact mk_O.wk (o_X4_next_46 x0 x1 z5.2) ⟨rfl, ⟨rfl, trivial⟩⟩
    · refine xo_aload_n rfl rfl dX4_next_21 ?_
      refine xo_iconst kc_0 dX4_next_22 ?_
      refine mk_O.callV (N := M_X8_fail) (ci := 7) (q := (RX8, TX8, 7)) (b := x0) (As1 := [.int (0 : Int32)]) (S := []) md_X8_fail mv_X8_fail lk_RX4_36 rfl (Nat.le_of_ble_eq_true rfl) (by decide) dX4_next_23 rfl rfl rfl (fun z hz => (c_X8_fail x0 (0 : Int32) z2.2 z hz).1) (fun z hz => (c_X8_fail x0 (0 : Int32) z2.2 z hz).2) (fun z7 _ => ?_)
      show mk_O _ _ _ _ [] _ _
      refine xo_goto (tgt := 46) dX4_next_26 rfl ?_
      exact mk_O.wk (o_X4_next_46 x0 x1 z7.2) ⟨rfl, ⟨rfl, trivial⟩⟩
theorem c_X4_next (x0 : Nat) (x1 : Int32) (x2 : Int32) (t : mk_S) (z : Int32 × mk_S) (h : F_X4_next x0 x1 x2 t = some z) : mk_Ct M_X4_next [.ref x0, .int x1, .int x2] t (mk_wi z.1, z.2) :=
  mk_ct (w := mk_wi) (by decide +kernel) (Nat.le_of_ble_eq_true rfl) (p_X4_next x0 x1 x2 t) z h
def F_X4_readPlateau (x0 : Nat) (x1 : Nat) (t : mk_S) : Option (Unit × mk_S) := (F_X4_next x0 (2 : Int32) (6 : Int32) t).bind fun z1 => (mk_pi z1.2 x1 3 0 z1.1).bind fun t2 => (F_X4_next x0 (1 : Int32) (9 : Int32) t2).bind fun z3 => (mk_pi z3.2 x1 3 1 z3.1).bind fun t4 => some ((), t4)
theorem p_X4_readPlateau (x0 : Nat) (x1 : Nat) (t : mk_S) : mk_O mk_wu M_X4_readPlateau 0 [some (.ref x0), some (.ref x1)] [] t ((F_X4_next x0 (2 : Int32) (6 : Int32) t).bind fun z1 => (mk_pi z1.2 x1 3 0 z1.1).bind fun t2 => (F_X4_next x0 (1 : Int32) (9 : Int32) t2).bind fun z3 => (mk_pi z3.2 x1 3 1 z3.1).bind fun t4 => some ((), t4)) := by
  refine xo_aload_n rfl rfl dX4_readPlateau_0 ?_
  refine xo_aload_n rfl rfl dX4_readPlateau_1 ?_
  refine xo_iconst kc_2 dX4_readPlateau_2 ?_
  refine xo_bipush kb_6 dX4_readPlateau_3 ?_
  refine mk_O.callS (N := M_X4_next) (As := [.ref x0, .int (2 : Int32), .int (6 : Int32)]) (S := [.ref x1]) md_X4_next ms_X4_next lk_RX4_69 rfl (Nat.le_of_ble_eq_true rfl) (by decide) dX4_readPlateau_5 rfl (fun z hz => c_X4_next x0 (2 : Int32) (6 : Int32) t z hz) (fun z1 _ => ?_)
  show mk_O _ _ _ _ (.int z1.1 :: [.ref x1]) _ _
  refine xo_puti dX4_readPlateau_8 cl_3 fl_RX4_73 rfl ft_3_0 (fun t2 => ?_)
  refine xo_aload_n rfl rfl dX4_readPlateau_11 ?_
  refine xo_aload_n rfl rfl dX4_readPlateau_12 ?_
  refine xo_iconst kc_1 dX4_readPlateau_13 ?_
  refine xo_bipush kb_9 dX4_readPlateau_14 ?_
  refine mk_O.callS (N := M_X4_next) (As := [.ref x0, .int (1 : Int32), .int (9 : Int32)]) (S := [.ref x1]) md_X4_next ms_X4_next lk_RX4_69 rfl (Nat.le_of_ble_eq_true rfl) (by decide) dX4_readPlateau_16 rfl (fun z hz => c_X4_next x0 (1 : Int32) (9 : Int32) t2 z hz) (fun z3 _ => ?_)
  show mk_O _ _ _ _ (.int z3.1 :: [.ref x1]) _ _
  refine xo_puti dX4_readPlateau_19 cl_3 fl_RX4_76 rfl ft_3_1 (fun t4 => ?_)
  exact xo_vret dX4_readPlateau_22 rfl
theorem c_X4_readPlateau (x0 : Nat) (x1 : Nat) (t : mk_S) (z : Unit × mk_S) (h : F_X4_readPlateau x0 x1 t = some z) : mk_Ct M_X4_readPlateau [.ref x0, .ref x1] t (mk_wu z.1, z.2) :=
  mk_ct (w := mk_wu) (by decide +kernel) (Nat.le_of_ble_eq_true rfl) (p_X4_readPlateau x0 x1 t) z h
def F_X4_readPerson (x0 : Nat) (x1 : Nat) (t : mk_S) : Option (Unit × mk_S) := (mk_gi t x1 3 2).bind fun v1 => (mk_ga t x1 3 5).bind fun v2 => (F_X3_cells x1 t).bind fun z3 => (F_X4_next x0 (0 : Int32) (z3.1 - (1 : Int32)) z3.2).bind fun z4 => (mk_st 100 z4.2 v2 v1 z4.1).bind fun t5 => (mk_ga t5 x1 3 6).bind fun v6 => (F_X4_next x0 (0 : Int32) (20 : Int32) t5).bind fun z7 => (mk_st 100 z7.2 v6 v1 z7.1).bind fun t8 => (mk_ga t8 x1 3 7).bind fun v9 => (F_X4_next x0 (0 : Int32) (3 : Int32) t8).bind fun z10 => (mk_st 100 z10.2 v9 v1 z10.1).bind fun t11 => (mk_gi t11 x1 3 2).bind fun v12 => (mk_pi t11 x1 3 2 (v12 + (1 : Int32))).bind fun t13 => some ((), t13)
theorem p_X4_readPerson (x0 : Nat) (x1 : Nat) (t : mk_S) : mk_O mk_wu M_X4_readPerson 0 [some (.ref x0), some (.ref x1), none] [] t ((mk_gi t x1 3 2).bind fun v1 => (mk_ga t x1 3 5).bind fun v2 => (F_X3_cells x1 t).bind fun z3 => (F_X4_next x0 (0 : Int32) (z3.1 - (1 : Int32)) z3.2).bind fun z4 => (mk_st 100 z4.2 v2 v1 z4.1).bind fun t5 => (mk_ga t5 x1 3 6).bind fun v6 => (F_X4_next x0 (0 : Int32) (20 : Int32) t5).bind fun z7 => (mk_st 100 z7.2 v6 v1 z7.1).bind fun t8 => (mk_ga t8 x1 3 7).bind fun v9 => (F_X4_next x0 (0 : Int32) (3 : Int32) t8).bind fun z10 => (mk_st 100 z10.2 v9 v1 z10.1).bind fun t11 => (mk_gi t11 x1 3 2).bind fun v12 => (mk_pi t11 x1 3 2 (v12 + (1 : Int32))).bind fun t13 => some ((), t13)) := by
  refine xo_aload_n rfl rfl dX4_readPerson_0 ?_
  refine xo_geti dX4_readPerson_1 cl_3 fl_RX4_60 rfl (fun v1 => ?_)
  refine xo_istore_n rfl (by decide) (mk_p1_v rfl rfl) dX4_readPerson_4 ?_
  refine xo_aload_n rfl rfl dX4_readPerson_5 ?_
  refine xo_geta dX4_readPerson_6 cl_3 fl_RX4_79 rfl (fun v2 => ?_)
  refine xo_iload_n rfl rfl dX4_readPerson_9 ?_
  refine xo_aload_n rfl rfl dX4_readPerson_10 ?_
  refine xo_iconst kc_0 dX4_readPerson_11 ?_
  refine xo_aload_n rfl rfl dX4_readPerson_12 ?_
  refine mk_O.callV (N := M_X3_cells) (ci := 3) (q := (RX3, TX3, 12)) (b := x1) (As1 := []) (S := [.int (0 : Int32), .ref x0, .int v1, .ref v2]) md_X3_cells mv_X3_cells lk_RX4_83 rfl (Nat.le_of_ble_eq_true rfl) (by decide) dX4_readPerson_13 rfl rfl rfl (fun z hz => (c_X3_cells x1 t z hz).1) (fun z hz => (c_X3_cells x1 t z hz).2) (fun z3 _ => ?_)
  show mk_O _ _ _ _ (.int z3.1 :: [.int (0 : Int32), .ref x0, .int v1, .ref v2]) _ _
  refine xo_iconst kc_1 dX4_readPerson_16 ?_
  refine xo_isub dX4_readPerson_17 ?_
  refine mk_O.callS (N := M_X4_next) (As := [.ref x0, .int (0 : Int32), .int (z3.1 - (1 : Int32))]) (S := [.int v1, .ref v2]) md_X4_next ms_X4_next lk_RX4_69 rfl (Nat.le_of_ble_eq_true rfl) (by decide) dX4_readPerson_18 rfl (fun z hz => c_X4_next x0 (0 : Int32) (z3.1 - (1 : Int32)) z3.2 z hz) (fun z4 _ => ?_)
  show mk_O _ _ _ _ (.int z4.1 :: [.int v1, .ref v2]) _ _
  refine xo_iast dX4_readPerson_21 (fun t5 => ?_)
  refine xo_aload_n rfl rfl dX4_readPerson_22 ?_
  refine xo_geta dX4_readPerson_23 cl_3 fl_RX4_87 rfl (fun v6 => ?_)
  refine xo_iload_n rfl rfl dX4_readPerson_26 ?_
  refine xo_aload_n rfl rfl dX4_readPerson_27 ?_
  refine xo_iconst kc_0 dX4_readPerson_28 ?_
  refine xo_bipush kb_20 dX4_readPerson_29 ?_
  refine mk_O.callS (N := M_X4_next) (As := [.ref x0, .int (0 : Int32), .int (20 : Int32)]) (S := [.int v1, .ref v6]) md_X4_next ms_X4_next lk_RX4_69 rfl (Nat.le_of_ble_eq_true rfl) (by decide) dX4_readPerson_31 rfl (fun z hz => c_X4_next x0 (0 : Int32) (20 : Int32) t5 z hz) (fun z7 _ => ?_)
  show mk_O _ _ _ _ (.int z7.1 :: [.int v1, .ref v6]) _ _
  refine xo_iast dX4_readPerson_34 (fun t8 => ?_)
  refine xo_aload_n rfl rfl dX4_readPerson_35 ?_
  refine xo_geta dX4_readPerson_36 cl_3 fl_RX4_90 rfl (fun v9 => ?_)
  refine xo_iload_n rfl rfl dX4_readPerson_39 ?_
  refine xo_aload_n rfl rfl dX4_readPerson_40 ?_
  refine xo_iconst kc_0 dX4_readPerson_41 ?_
  refine xo_iconst kc_3 dX4_readPerson_42 ?_
  refine mk_O.callS (N := M_X4_next) (As := [.ref x0, .int (0 : Int32), .int (3 : Int32)]) (S := [.int v1, .ref v9]) md_X4_next ms_X4_next lk_RX4_69 rfl (Nat.le_of_ble_eq_true rfl) (by decide) dX4_readPerson_43 rfl (fun z hz => c_X4_next x0 (0 : Int32) (3 : Int32) t8 z hz) (fun z10 _ => ?_)
  show mk_O _ _ _ _ (.int z10.1 :: [.int v1, .ref v9]) _ _
  refine xo_iast dX4_readPerson_46 (fun t11 => ?_)
  refine xo_aload_n rfl rfl dX4_readPerson_47 ?_
  refine xo_dup rfl dX4_readPerson_48 ?_
  refine xo_geti dX4_readPerson_49 cl_3 fl_RX4_60 rfl (fun v12 => ?_)
  refine xo_iconst kc_1 dX4_readPerson_52 ?_
  refine xo_iadd dX4_readPerson_53 ?_
  refine xo_puti dX4_readPerson_54 cl_3 fl_RX4_60 rfl ft_3_2 (fun t13 => ?_)
  exact xo_vret dX4_readPerson_57 rfl
theorem c_X4_readPerson (x0 : Nat) (x1 : Nat) (t : mk_S) (z : Unit × mk_S) (h : F_X4_readPerson x0 x1 t = some z) : mk_Ct M_X4_readPerson [.ref x0, .ref x1] t (mk_wu z.1, z.2) :=
  mk_ct (w := mk_wu) (by decide +kernel) (Nat.le_of_ble_eq_true rfl) (p_X4_readPerson x0 x1 t) z h
def F_X4_readMill (x0 : Nat) (x1 : Nat) (t : mk_S) : Option (Unit × mk_S) := (mk_gi t x1 3 3).bind fun v1 => (mk_ga t x1 3 8).bind fun v2 => (F_X3_cells x1 t).bind fun z3 => (F_X4_next x0 (0 : Int32) (z3.1 - (1 : Int32)) z3.2).bind fun z4 => (mk_st 100 z4.2 v2 v1 z4.1).bind fun t5 => (mk_ga t5 x1 3 9).bind fun v6 => (F_X4_next x0 (1 : Int32) (20 : Int32) t5).bind fun z7 => (mk_st 100 z7.2 v6 v1 z7.1).bind fun t8 => (mk_gi t8 x1 3 3).bind fun v9 => (mk_pi t8 x1 3 3 (v9 + (1 : Int32))).bind fun t10 => some ((), t10)
theorem p_X4_readMill (x0 : Nat) (x1 : Nat) (t : mk_S) : mk_O mk_wu M_X4_readMill 0 [some (.ref x0), some (.ref x1), none] [] t ((mk_gi t x1 3 3).bind fun v1 => (mk_ga t x1 3 8).bind fun v2 => (F_X3_cells x1 t).bind fun z3 => (F_X4_next x0 (0 : Int32) (z3.1 - (1 : Int32)) z3.2).bind fun z4 => (mk_st 100 z4.2 v2 v1 z4.1).bind fun t5 => (mk_ga t5 x1 3 9).bind fun v6 => (F_X4_next x0 (1 : Int32) (20 : Int32) t5).bind fun z7 => (mk_st 100 z7.2 v6 v1 z7.1).bind fun t8 => (mk_gi t8 x1 3 3).bind fun v9 => (mk_pi t8 x1 3 3 (v9 + (1 : Int32))).bind fun t10 => some ((), t10)) := by
  refine xo_aload_n rfl rfl dX4_readMill_0 ?_
  refine xo_geti dX4_readMill_1 cl_3 fl_RX4_63 rfl (fun v1 => ?_)
  refine xo_istore_n rfl (by decide) (mk_p1_v rfl rfl) dX4_readMill_4 ?_
  refine xo_aload_n rfl rfl dX4_readMill_5 ?_
  refine xo_geta dX4_readMill_6 cl_3 fl_RX4_93 rfl (fun v2 => ?_)
  refine xo_iload_n rfl rfl dX4_readMill_9 ?_
  refine xo_aload_n rfl rfl dX4_readMill_10 ?_
  refine xo_iconst kc_0 dX4_readMill_11 ?_
  refine xo_aload_n rfl rfl dX4_readMill_12 ?_
  refine mk_O.callV (N := M_X3_cells) (ci := 3) (q := (RX3, TX3, 12)) (b := x1) (As1 := []) (S := [.int (0 : Int32), .ref x0, .int v1, .ref v2]) md_X3_cells mv_X3_cells lk_RX4_83 rfl (Nat.le_of_ble_eq_true rfl) (by decide) dX4_readMill_13 rfl rfl rfl (fun z hz => (c_X3_cells x1 t z hz).1) (fun z hz => (c_X3_cells x1 t z hz).2) (fun z3 _ => ?_)
  show mk_O _ _ _ _ (.int z3.1 :: [.int (0 : Int32), .ref x0, .int v1, .ref v2]) _ _
  refine xo_iconst kc_1 dX4_readMill_16 ?_
  refine xo_isub dX4_readMill_17 ?_
  refine mk_O.callS (N := M_X4_next) (As := [.ref x0, .int (0 : Int32), .int (z3.1 - (1 : Int32))]) (S := [.int v1, .ref v2]) md_X4_next ms_X4_next lk_RX4_69 rfl (Nat.le_of_ble_eq_true rfl) (by decide) dX4_readMill_18 rfl (fun z hz => c_X4_next x0 (0 : Int32) (z3.1 - (1 : Int32)) z3.2 z hz) (fun z4 _ => ?_)
  show mk_O _ _ _ _ (.int z4.1 :: [.int v1, .ref v2]) _ _
  refine xo_iast dX4_readMill_21 (fun t5 => ?_)
  refine xo_aload_n rfl rfl dX4_readMill_22 ?_
  refine xo_geta dX4_readMill_23 cl_3 fl_RX4_96 rfl (fun v6 => ?_)
  refine xo_iload_n rfl rfl dX4_readMill_26 ?_
  refine xo_aload_n rfl rfl dX4_readMill_27 ?_
  refine xo_iconst kc_1 dX4_readMill_28 ?_
  refine xo_bipush kb_20 dX4_readMill_29 ?_
  refine mk_O.callS (N := M_X4_next) (As := [.ref x0, .int (1 : Int32), .int (20 : Int32)]) (S := [.int v1, .ref v6]) md_X4_next ms_X4_next lk_RX4_69 rfl (Nat.le_of_ble_eq_true rfl) (by decide) dX4_readMill_31 rfl (fun z hz => c_X4_next x0 (1 : Int32) (20 : Int32) t5 z hz) (fun z7 _ => ?_)
  show mk_O _ _ _ _ (.int z7.1 :: [.int v1, .ref v6]) _ _
  refine xo_iast dX4_readMill_34 (fun t8 => ?_)
  refine xo_aload_n rfl rfl dX4_readMill_35 ?_
  refine xo_dup rfl dX4_readMill_36 ?_
  refine xo_geti dX4_readMill_37 cl_3 fl_RX4_63 rfl (fun v9 => ?_)
  refine xo_iconst kc_1 dX4_readMill_40 ?_
  refine xo_iadd dX4_readMill_41 ?_
  refine xo_puti dX4_readMill_42 cl_3 fl_RX4_63 rfl ft_3_3 (fun t10 => ?_)
  exact xo_vret dX4_readMill_45 rfl
theorem c_X4_readMill (x0 : Nat) (x1 : Nat) (t : mk_S) (z : Unit × mk_S) (h : F_X4_readMill x0 x1 t = some z) : mk_Ct M_X4_readMill [.ref x0, .ref x1] t (mk_wu z.1, z.2) :=
  mk_ct (w := mk_wu) (by decide +kernel) (Nat.le_of_ble_eq_true rfl) (p_X4_readMill x0 x1 t) z h
def F_X4_readRoof (x0 : Nat) (x1 : Nat) (t : mk_S) : Option (Unit × mk_S) := (mk_gi t x1 3 4).bind fun v1 => (mk_ga t x1 3 10).bind fun v2 => (F_X3_cells x1 t).bind fun z3 => (F_X4_next x0 (0 : Int32) (z3.1 - (1 : Int32)) z3.2).bind fun z4 => (mk_st 100 z4.2 v2 v1 z4.1).bind fun t5 => (mk_ga t5 x1 3 11).bind fun v6 => (F_X4_next x0 (0 : Int32) (40 : Int32) t5).bind fun z7 => (mk_st 100 z7.2 v6 v1 z7.1).bind fun t8 => (mk_gi t8 x1 3 4).bind fun v9 => (mk_pi t8 x1 3 4 (v9 + (1 : Int32))).bind fun t10 => some ((), t10)
theorem p_X4_readRoof (x0 : Nat) (x1 : Nat) (t : mk_S) : mk_O mk_wu M_X4_readRoof 0 [some (.ref x0), some (.ref x1), none] [] t ((mk_gi t x1 3 4).bind fun v1 => (mk_ga t x1 3 10).bind fun v2 => (F_X3_cells x1 t).bind fun z3 => (F_X4_next x0 (0 : Int32) (z3.1 - (1 : Int32)) z3.2).bind fun z4 => (mk_st 100 z4.2 v2 v1 z4.1).bind fun t5 => (mk_ga t5 x1 3 11).bind fun v6 => (F_X4_next x0 (0 : Int32) (40 : Int32) t5).bind fun z7 => (mk_st 100 z7.2 v6 v1 z7.1).bind fun t8 => (mk_gi t8 x1 3 4).bind fun v9 => (mk_pi t8 x1 3 4 (v9 + (1 : Int32))).bind fun t10 => some ((), t10)) := by
  refine xo_aload_n rfl rfl dX4_readRoof_0 ?_
  refine xo_geti dX4_readRoof_1 cl_3 fl_RX4_66 rfl (fun v1 => ?_)
  refine xo_istore_n rfl (by decide) (mk_p1_v rfl rfl) dX4_readRoof_4 ?_
  refine xo_aload_n rfl rfl dX4_readRoof_5 ?_
  refine xo_geta dX4_readRoof_6 cl_3 fl_RX4_99 rfl (fun v2 => ?_)
  refine xo_iload_n rfl rfl dX4_readRoof_9 ?_
  refine xo_aload_n rfl rfl dX4_readRoof_10 ?_
  refine xo_iconst kc_0 dX4_readRoof_11 ?_
  refine xo_aload_n rfl rfl dX4_readRoof_12 ?_
  refine mk_O.callV (N := M_X3_cells) (ci := 3) (q := (RX3, TX3, 12)) (b := x1) (As1 := []) (S := [.int (0 : Int32), .ref x0, .int v1, .ref v2]) md_X3_cells mv_X3_cells lk_RX4_83 rfl (Nat.le_of_ble_eq_true rfl) (by decide) dX4_readRoof_13 rfl rfl rfl (fun z hz => (c_X3_cells x1 t z hz).1) (fun z hz => (c_X3_cells x1 t z hz).2) (fun z3 _ => ?_)
  show mk_O _ _ _ _ (.int z3.1 :: [.int (0 : Int32), .ref x0, .int v1, .ref v2]) _ _
  refine xo_iconst kc_1 dX4_readRoof_16 ?_
  refine xo_isub dX4_readRoof_17 ?_
  refine mk_O.callS (N := M_X4_next) (As := [.ref x0, .int (0 : Int32), .int (z3.1 - (1 : Int32))]) (S := [.int v1, .ref v2]) md_X4_next ms_X4_next lk_RX4_69 rfl (Nat.le_of_ble_eq_true rfl) (by decide) dX4_readRoof_18 rfl (fun z hz => c_X4_next x0 (0 : Int32) (z3.1 - (1 : Int32)) z3.2 z hz) (fun z4 _ => ?_)
  show mk_O _ _ _ _ (.int z4.1 :: [.int v1, .ref v2]) _ _
  refine xo_iast dX4_readRoof_21 (fun t5 => ?_)
  refine xo_aload_n rfl rfl dX4_readRoof_22 ?_
  refine xo_geta dX4_readRoof_23 cl_3 fl_RX4_102 rfl (fun v6 => ?_)
  refine xo_iload_n rfl rfl dX4_readRoof_26 ?_
  refine xo_aload_n rfl rfl dX4_readRoof_27 ?_
  refine xo_iconst kc_0 dX4_readRoof_28 ?_
  refine xo_bipush kb_40 dX4_readRoof_29 ?_
  refine mk_O.callS (N := M_X4_next) (As := [.ref x0, .int (0 : Int32), .int (40 : Int32)]) (S := [.int v1, .ref v6]) md_X4_next ms_X4_next lk_RX4_69 rfl (Nat.le_of_ble_eq_true rfl) (by decide) dX4_readRoof_31 rfl (fun z hz => c_X4_next x0 (0 : Int32) (40 : Int32) t5 z hz) (fun z7 _ => ?_)
  show mk_O _ _ _ _ (.int z7.1 :: [.int v1, .ref v6]) _ _
  refine xo_iast dX4_readRoof_34 (fun t8 => ?_)
  refine xo_aload_n rfl rfl dX4_readRoof_35 ?_
  refine xo_dup rfl dX4_readRoof_36 ?_
  refine xo_geti dX4_readRoof_37 cl_3 fl_RX4_66 rfl (fun v9 => ?_)
  refine xo_iconst kc_1 dX4_readRoof_40 ?_
  refine xo_iadd dX4_readRoof_41 ?_
  refine xo_puti dX4_readRoof_42 cl_3 fl_RX4_66 rfl ft_3_4 (fun t10 => ?_)
  exact xo_vret dX4_readRoof_45 rfl
theorem c_X4_readRoof (x0 : Nat) (x1 : Nat) (t : mk_S) (z : Unit × mk_S) (h : F_X4_readRoof x0 x1 t = some z) : mk_Ct M_X4_readRoof [.ref x0, .ref x1] t (mk_wu z.1, z.2) :=
  mk_ct (w := mk_wu) (by decide +kernel) (Nat.le_of_ble_eq_true rfl) (p_X4_readRoof x0 x1 t) z h
def B_X4_readClause_64 (x0 : Nat) (t : mk_S) : Option (Unit × mk_S) := (F_X8_fail x0 (4 : Int32) t).bind fun z1 => some ((), z1.2)
def B_X4_readClause_58 (x0 : Nat) (x1 : Nat) (x3 : Int32) (s0 : Int32) (s1 : Nat) (s2 : Int32) (t : mk_S) : Option (Unit × mk_S) := (F_X4_mayStand s0 s1 s2 t).bind fun z1 => if z1.1 = 0 then (B_X4_readClause_64 x0 z1.2) else (if x3 = (317 : Int32) then ((F_X4_readPlateau x0 x1 z1.2).bind fun z2 => some ((), z2.2)) else (if x3 = (300 : Int32) then ((F_X4_readPerson x0 x1 z1.2).bind fun z3 => some ((), z3.2)) else (if x3 = (318 : Int32) then ((F_X4_readMill x0 x1 z1.2).bind fun z4 => some ((), z4.2)) else ((F_X4_readRoof x0 x1 z1.2).bind fun z5 => some ((), z5.2)))))
def B_X4_readClause_41 (x0 : Nat) (x1 : Nat) (x2 : Int32) (x3 : Int32) (t : mk_S) : Option (Unit × mk_S) := if (40 : Int32) ≤ x2 then (B_X4_readClause_64 x0 t) else (if x2 = 0 then (B_X4_readClause_58 x0 x1 x3 x3 x1 (1 : Int32) t) else (B_X4_readClause_58 x0 x1 x3 x3 x1 (0 : Int32) t))
def F_X4_readClause (x0 : Nat) (x1 : Nat) (x2 : Int32) (t : mk_S) : Option (Unit × mk_S) := (mk_gi t x0 7 4).bind fun v1 => if v1 = (317 : Int32) then (B_X4_readClause_41 x0 x1 x2 v1 t) else (if v1 = (300 : Int32) then (B_X4_readClause_41 x0 x1 x2 v1 t) else (if v1 = (318 : Int32) then (B_X4_readClause_41 x0 x1 x2 v1 t) else (if v1 = (319 : Int32) then (B_X4_readClause_41 x0 x1 x2 v1 t) else ((F_X8_fail x0 (0 : Int32) t).bind fun z2 => some ((), z2.2)))))
theorem o_X4_readClause_64 (x0 : Nat) (t : mk_S) : mk_O mk_wu M_X4_readClause 64 [some (.ref x0), none, none, none] [] t (B_X4_readClause_64 x0 t) := by
  unfold B_X4_readClause_64
  refine xo_aload_n rfl rfl dX4_readClause_64 ?_
  refine xo_iconst kc_4 dX4_readClause_65 ?_
  refine mk_O.callV (N := M_X8_fail) (ci := 7) (q := (RX8, TX8, 7)) (b := x0) (As1 := [.int (4 : Int32)]) (S := []) md_X8_fail mv_X8_fail lk_RX4_36 rfl (Nat.le_of_ble_eq_true rfl) (by decide) dX4_readClause_66 rfl rfl rfl (fun z hz => (c_X8_fail x0 (4 : Int32) t z hz).1) (fun z hz => (c_X8_fail x0 (4 : Int32) t z hz).2) (fun z1 _ => ?_)
  show mk_O _ _ _ _ [] _ _
  refine xo_goto (tgt := 122) dX4_readClause_69 rfl ?_
  exact xo_vret dX4_readClause_122 rfl
theorem o_X4_readClause_58 (x0 : Nat) (x1 : Nat) (x3 : Int32) (s0 : Int32) (s1 : Nat) (s2 : Int32) (t : mk_S) : mk_O mk_wu M_X4_readClause 58 [some (.ref x0), some (.ref x1), none, some (.int x3)] [.int s2, .ref s1, .int s0] t (B_X4_readClause_58 x0 x1 x3 s0 s1 s2 t) := by
  unfold B_X4_readClause_58
  refine mk_O.callS (N := M_X4_mayStand) (As := [.int s0, .ref s1, .int s2]) (S := []) md_X4_mayStand ms_X4_mayStand lk_RX4_43 rfl (Nat.le_of_ble_eq_true rfl) (by decide) dX4_readClause_58 rfl (fun z hz => c_X4_mayStand s0 s1 s2 t z hz) (fun z1 _ => ?_)
  show mk_O _ _ _ _ (.int z1.1 :: []) _ _
  refine xo_if_ne (tgt := 72) dX4_readClause_61 rfl (fun _ => ?_) (fun _ => ?_)
  · exact mk_O.wk (o_X4_readClause_64 x0 z1.2) ⟨rfl, trivial⟩
  · refine xo_iload_n rfl rfl dX4_readClause_72 ?_
    refine xo_sipush ks_317 dX4_readClause_73 ?_
    refine xo_icmp_ne (tgt := 87) dX4_readClause_76 rfl (fun _ => ?_) (fun _ => ?_)
    · refine xo_aload_n rfl rfl dX4_readClause_79 ?_
      refine xo_aload_n rfl rfl dX4_readClause_80 ?_
      refine mk_O.callS (N := M_X4_readPlateau) (As := [.ref x0, .ref x1]) (S := []) md_X4_readPlateau ms_X4_readPlateau lk_RX4_47 rfl (Nat.le_of_ble_eq_true rfl) (by decide) dX4_readClause_81 rfl (fun z hz => c_X4_readPlateau x0 x1 z1.2 z hz) (fun z2 _ => ?_)
      show mk_O _ _ _ _ [] _ _
      refine xo_goto (tgt := 122) dX4_readClause_84 rfl ?_
      exact xo_vret dX4_readClause_122 rfl
    · refine xo_iload_n rfl rfl dX4_readClause_87 ?_
      refine xo_sipush ks_300 dX4_readClause_88 ?_
      refine xo_icmp_ne (tgt := 102) dX4_readClause_91 rfl (fun _ => ?_) (fun _ => ?_)
      · refine xo_aload_n rfl rfl dX4_readClause_94 ?_
        refine xo_aload_n rfl rfl dX4_readClause_95 ?_
        refine mk_O.callS (N := M_X4_readPerson) (As := [.ref x0, .ref x1]) (S := []) md_X4_readPerson ms_X4_readPerson lk_RX4_51 rfl (Nat.le_of_ble_eq_true rfl) (by decide) dX4_readClause_96 rfl (fun z hz => c_X4_readPerson x0 x1 z1.2 z hz) (fun z3 _ => ?_)
        show mk_O _ _ _ _ [] _ _
        refine xo_goto (tgt := 122) dX4_readClause_99 rfl ?_
        exact xo_vret dX4_readClause_122 rfl
      · refine xo_iload_n rfl rfl dX4_readClause_102 ?_
        refine xo_sipush ks_318 dX4_readClause_103 ?_
        refine xo_icmp_ne (tgt := 117) dX4_readClause_106 rfl (fun _ => ?_) (fun _ => ?_)
        · refine xo_aload_n rfl rfl dX4_readClause_109 ?_
          refine xo_aload_n rfl rfl dX4_readClause_110 ?_
          refine mk_O.callS (N := M_X4_readMill) (As := [.ref x0, .ref x1]) (S := []) md_X4_readMill ms_X4_readMill lk_RX4_54 rfl (Nat.le_of_ble_eq_true rfl) (by decide) dX4_readClause_111 rfl (fun z hz => c_X4_readMill x0 x1 z1.2 z hz) (fun z4 _ => ?_)
          show mk_O _ _ _ _ [] _ _
          refine xo_goto (tgt := 122) dX4_readClause_114 rfl ?_
          exact xo_vret dX4_readClause_122 rfl
        · refine xo_aload_n rfl rfl dX4_readClause_117 ?_
          refine xo_aload_n rfl rfl dX4_readClause_118 ?_
          refine mk_O.callS (N := M_X4_readRoof) (As := [.ref x0, .ref x1]) (S := []) md_X4_readRoof ms_X4_readRoof lk_RX4_57 rfl (Nat.le_of_ble_eq_true rfl) (by decide) dX4_readClause_119 rfl (fun z hz => c_X4_readRoof x0 x1 z1.2 z hz) (fun z5 _ => ?_)
          show mk_O _ _ _ _ [] _ _
          exact xo_vret dX4_readClause_122 rfl
theorem o_X4_readClause_41 (x0 : Nat) (x1 : Nat) (x2 : Int32) (x3 : Int32) (t : mk_S) : mk_O mk_wu M_X4_readClause 41 [some (.ref x0), some (.ref x1), some (.int x2), some (.int x3)] [] t (B_X4_readClause_41 x0 x1 x2 x3 t) := by
  unfold B_X4_readClause_41
  refine xo_iload_n rfl rfl dX4_readClause_41 ?_
  refine xo_bipush kb_40 dX4_readClause_42 ?_
  refine xo_icmp_ge (tgt := 64) dX4_readClause_44 rfl (fun _ => ?_) (fun _ => ?_)
  · exact mk_O.wk (o_X4_readClause_64 x0 t) ⟨rfl, trivial⟩
  · refine xo_iload_n rfl rfl dX4_readClause_47 ?_
    refine xo_aload_n rfl rfl dX4_readClause_48 ?_
    refine xo_iload_n rfl rfl dX4_readClause_49 ?_
    refine xo_if_ne (tgt := 57) dX4_readClause_50 rfl (fun _ => ?_) (fun _ => ?_)
    · refine xo_iconst kc_1 dX4_readClause_53 ?_
      refine xo_goto (tgt := 58) dX4_readClause_54 rfl ?_
      exact mk_O.wk (o_X4_readClause_58 x0 x1 x3 x3 x1 (1 : Int32) t) ⟨rfl, ⟨rfl, ⟨rfl, trivial⟩⟩⟩
    · refine xo_iconst kc_0 dX4_readClause_57 ?_
      exact mk_O.wk (o_X4_readClause_58 x0 x1 x3 x3 x1 (0 : Int32) t) ⟨rfl, ⟨rfl, ⟨rfl, trivial⟩⟩⟩
theorem p_X4_readClause (x0 : Nat) (x1 : Nat) (x2 : Int32) (t : mk_S) : mk_O mk_wu M_X4_readClause 0 [some (.ref x0), some (.ref x1), some (.int x2), none] [] t ((mk_gi t x0 7 4).bind fun v1 => if v1 = (317 : Int32) then (B_X4_readClause_41 x0 x1 x2 v1 t) else (if v1 = (300 : Int32) then (B_X4_readClause_41 x0 x1 x2 v1 t) else (if v1 = (318 : Int32) then (B_X4_readClause_41 x0 x1 x2 v1 t) else (if v1 = (319 : Int32) then (B_X4_readClause_41 x0 x1 x2 v1 t) else ((F_X8_fail x0 (0 : Int32) t).bind fun z2 => some ((), z2.2)))))) := by
  refine xo_aload_n rfl rfl dX4_readClause_0 ?_
  refine xo_geti dX4_readClause_1 cl_7 fl_RX4_32 rfl (fun v1 => ?_)
  refine xo_istore_n rfl (by decide) (mk_p1_v rfl rfl) dX4_readClause_4 ?_
  refine xo_iload_n rfl rfl dX4_readClause_5 ?_
  refine xo_sipush ks_317 dX4_readClause_6 ?_
  refine xo_icmp_eq (tgt := 41) dX4_readClause_9 rfl (fun _ => ?_) (fun _ => ?_)
  · exact mk_O.wk (o_X4_readClause_41 x0 x1 x2 v1 t) ⟨rfl, ⟨rfl, ⟨rfl, ⟨rfl, trivial⟩⟩⟩⟩
  · refine xo_iload_n rfl rfl dX4_readClause_12 ?_
    refine xo_sipush ks_300 dX4_readClause_13 ?_
    refine xo_icmp_eq (tgt := 41) dX4_readClause_16 rfl (fun _ => ?_) (fun _ => ?_)
    · exact mk_O.wk (o_X4_readClause_41 x0 x1 x2 v1 t) ⟨rfl, ⟨rfl, ⟨rfl, ⟨rfl, trivial⟩⟩⟩⟩
    · refine xo_iload_n rfl rfl dX4_readClause_19 ?_
      refine xo_sipush ks_318 dX4_readClause_20 ?_
      refine xo_icmp_eq (tgt := 41) dX4_readClause_23 rfl (fun _ => ?_) (fun _ => ?_)
      · exact mk_O.wk (o_X4_readClause_41 x0 x1 x2 v1 t) ⟨rfl, ⟨rfl, ⟨rfl, ⟨rfl, trivial⟩⟩⟩⟩
      · refine xo_iload_n rfl rfl dX4_readClause_26 ?_
        refine xo_sipush ks_319 dX4_readClause_27 ?_
        refine xo_icmp_eq (tgt := 41) dX4_readClause_30 rfl (fun _ => ?_) (fun _ => ?_)
        · exact mk_O.wk (o_X4_readClause_41 x0 x1 x2 v1 t) ⟨rfl, ⟨rfl, ⟨rfl, ⟨rfl, trivial⟩⟩⟩⟩
        · refine xo_aload_n rfl rfl dX4_readClause_33 ?_
          refine xo_iconst kc_0 dX4_readClause_34 ?_
          refine mk_O.callV (N := M_X8_fail) (ci := 7) (q := (RX8, TX8, 7)) (b := x0) (As1 := [.int (0 : Int32)]) (S := []) md_X8_fail mv_X8_fail lk_RX4_36 rfl (Nat.le_of_ble_eq_true rfl) (by decide) dX4_readClause_35 rfl rfl rfl (fun z hz => (c_X8_fail x0 (0 : Int32) t z hz).1) (fun z hz => (c_X8_fail x0 (0 : Int32) t z hz).2) (fun z2 _ => ?_)
          show mk_O _ _ _ _ [] _ _
          refine xo_goto (tgt := 122) dX4_readClause_38 rfl ?_
          exact xo_vret dX4_readClause_122 rfl
theorem c_X4_readClause (x0 : Nat) (x1 : Nat) (x2 : Int32) (t : mk_S) (z : Unit × mk_S) (h : F_X4_readClause x0 x1 x2 t = some z) : mk_Ct M_X4_readClause [.ref x0, .ref x1, .int x2] t (mk_wu z.1, z.2) :=
  mk_ct (w := mk_wu) (by decide +kernel) (Nat.le_of_ble_eq_true rfl) (p_X4_readClause x0 x1 x2 t) z h
def B_X4_read_64 (k12 : Nat → Nat → Int32 → Int32 → mk_S → Option (Int32 × mk_S)) (x0 : Nat) (x1 : Nat) (x3 : Int32) (s0 : Int32) (t : mk_S) : Option (Int32 × mk_S) := k12 x0 x1 s0 (x3 + (1 : Int32)) t
def B_X4_read_63 (k12 : Nat → Nat → Int32 → Int32 → mk_S → Option (Int32 × mk_S)) (x0 : Nat) (x1 : Nat) (x3 : Int32) (t : mk_S) : Option (Int32 × mk_S) := B_X4_read_64 k12 x0 x1 x3 (0 : Int32) t
def B_X4_read_43 (k12 : Nat → Nat → Int32 → Int32 → mk_S → Option (Int32 × mk_S)) (x0 : Nat) (x1 : Nat) (x3 : Int32) (t : mk_S) : Option (Int32 × mk_S) := (F_X8_isSound x0 t).bind fun z1 => if z1.1 = 0 then (B_X4_read_63 k12 x0 x1 x3 z1.2) else ((mk_gi z1.2 x0 7 4).bind fun v2 => if v2 = (59 : Int32) then (B_X4_read_64 k12 x0 x1 x3 (1 : Int32) z1.2) else (B_X4_read_63 k12 x0 x1 x3 z1.2))
def B_X4_read_71 (x0 : Nat) (t : mk_S) : Option (Int32 × mk_S) := (F_X8_isSound x0 t).bind fun z1 => if z1.1 = 0 then ((mk_gi z1.2 x0 7 3).bind fun v2 => some (v2, z1.2)) else ((mk_gi z1.2 x0 7 4).bind fun v3 => if v3 = (-1 : Int32) then ((mk_gi z1.2 x0 7 3).bind fun v4 => some (v4, z1.2)) else ((F_X8_fail x0 (0 : Int32) z1.2).bind fun z5 => (mk_gi z5.2 x0 7 3).bind fun v6 => some (v6, z5.2)))
def B_X4_read_12 : Nat → Nat → Nat → Int32 → Int32 → mk_S → Option (Int32 × mk_S)
  | 0, _, _, _, _, _ => none
  | n + 1, x0, x1, x2, x3, t => if (40 : Int32) < x3 then (B_X4_read_71 x0 t) else (if x2 = 0 then (B_X4_read_71 x0 t) else ((F_X8_advance x0 t).bind fun z1 => (F_X4_readClause x0 x1 x3 z1.2).bind fun z2 => (F_X8_isSound x0 z2.2).bind fun z3 => if z3.1 = 0 then (B_X4_read_43 (B_X4_read_12 n) x0 x1 x3 z3.2) else ((F_X8_advance x0 z3.2).bind fun z4 => B_X4_read_43 (B_X4_read_12 n) x0 x1 x3 z4.2)))
def F_X4_read (x0 : Nat) (x1 : Nat) (t : mk_S) : Option (Int32 × mk_S) := (F_X8_open x0 t).bind fun z1 => (F_X3_clear x1 z1.2).bind fun z2 => B_X4_read_12 mk_fu x0 x1 (1 : Int32) (0 : Int32) z2.2
theorem o_X4_read_64 (k12 : Nat → Nat → Int32 → Int32 → mk_S → Option (Int32 × mk_S)) (h12 : ∀ (x0 : Nat) (x1 : Nat) (x2 : Int32) (x3 : Int32) (t : mk_S), mk_O mk_wi M_X4_read 12 [some (.ref x0), some (.ref x1), some (.int x2), some (.int x3)] [] t (k12 x0 x1 x2 x3 t)) (x0 : Nat) (x1 : Nat) (x3 : Int32) (s0 : Int32) (t : mk_S) : mk_O mk_wi M_X4_read 64 [some (.ref x0), some (.ref x1), none, some (.int x3)] [.int s0] t (B_X4_read_64 k12 x0 x1 x3 s0 t) := by
  unfold B_X4_read_64
  refine xo_istore_n rfl (by decide) (mk_p1_v rfl rfl) dX4_read_64 ?_
  refine xo_iinc rfl (congrArg _ kc_1) (by decide) (mk_p1_v rfl rfl) dX4_read_65 ?_
  refine xo_goto (tgt := 12) dX4_read_68 rfl ?_
  exact mk_O.wk (h12 x0 x1 s0 (x3 + (1 : Int32)) t) ⟨rfl, ⟨rfl, ⟨rfl, ⟨rfl, trivial⟩⟩⟩⟩
theorem o_X4_read_63 (k12 : Nat → Nat → Int32 → Int32 → mk_S → Option (Int32 × mk_S)) (h12 : ∀ (x0 : Nat) (x1 : Nat) (x2 : Int32) (x3 : Int32) (t : mk_S), mk_O mk_wi M_X4_read 12 [some (.ref x0), some (.ref x1), some (.int x2), some (.int x3)] [] t (k12 x0 x1 x2 x3 t)) (x0 : Nat) (x1 : Nat) (x3 : Int32) (t : mk_S) : mk_O mk_wi M_X4_read 63 [some (.ref x0), some (.ref x1), none, some (.int x3)] [] t (B_X4_read_63 k12 x0 x1 x3 t) := by
  unfold B_X4_read_63
  refine xo_iconst kc_0 dX4_read_63 ?_
  exact mk_O.wk (o_X4_read_64 _ h12 x0 x1 x3 (0 : Int32) t) ⟨rfl, ⟨rfl, ⟨rfl, trivial⟩⟩⟩
theorem o_X4_read_43 (k12 : Nat → Nat → Int32 → Int32 → mk_S → Option (Int32 × mk_S)) (h12 : ∀ (x0 : Nat) (x1 : Nat) (x2 : Int32) (x3 : Int32) (t : mk_S), mk_O mk_wi M_X4_read 12 [some (.ref x0), some (.ref x1), some (.int x2), some (.int x3)] [] t (k12 x0 x1 x2 x3 t)) (x0 : Nat) (x1 : Nat) (x3 : Int32) (t : mk_S) : mk_O mk_wi M_X4_read 43 [some (.ref x0), some (.ref x1), none, some (.int x3)] [] t (B_X4_read_43 k12 x0 x1 x3 t) := by
  unfold B_X4_read_43
  refine xo_aload_n rfl rfl dX4_read_43 ?_
  refine mk_O.callV (N := M_X8_isSound) (ci := 7) (q := (RX8, TX8, 7)) (b := x0) (As1 := []) (S := []) md_X8_isSound mv_X8_isSound lk_RX4_28 rfl (Nat.le_of_ble_eq_true rfl) (by decide) dX4_read_44 rfl rfl rfl (fun z hz => (c_X8_isSound x0 t z hz).1) (fun z hz => (c_X8_isSound x0 t z hz).2) (fun z1 _ => ?_)
  show mk_O _ _ _ _ (.int z1.1 :: []) _ _
  refine xo_if_eq (tgt := 63) dX4_read_47 rfl (fun _ => ?_) (fun _ => ?_)
  · exact mk_O.wk (o_X4_read_63 _ h12 x0 x1 x3 z1.2) ⟨rfl, ⟨rfl, ⟨rfl, trivial⟩⟩⟩
  · refine xo_aload_n rfl rfl dX4_read_50 ?_
    refine xo_geti dX4_read_51 cl_7 fl_RX4_32 rfl (fun v2 => ?_)
    refine xo_bipush kb_59 dX4_read_54 ?_
    refine xo_icmp_ne (tgt := 63) dX4_read_56 rfl (fun _ => ?_) (fun _ => ?_)
    · refine xo_iconst kc_1 dX4_read_59 ?_
      refine xo_goto (tgt := 64) dX4_read_60 rfl ?_
      exact mk_O.wk (o_X4_read_64 _ h12 x0 x1 x3 (1 : Int32) z1.2) ⟨rfl, ⟨rfl, ⟨rfl, trivial⟩⟩⟩
    · exact mk_O.wk (o_X4_read_63 _ h12 x0 x1 x3 z1.2) ⟨rfl, ⟨rfl, ⟨rfl, trivial⟩⟩⟩
theorem o_X4_read_71 (x0 : Nat) (t : mk_S) : mk_O mk_wi M_X4_read 71 [some (.ref x0), none, none, none] [] t (B_X4_read_71 x0 t) := by
  unfold B_X4_read_71
  refine xo_aload_n rfl rfl dX4_read_71 ?_
  refine mk_O.callV (N := M_X8_isSound) (ci := 7) (q := (RX8, TX8, 7)) (b := x0) (As1 := []) (S := []) md_X8_isSound mv_X8_isSound lk_RX4_28 rfl (Nat.le_of_ble_eq_true rfl) (by decide) dX4_read_72 rfl rfl rfl (fun z hz => (c_X8_isSound x0 t z hz).1) (fun z hz => (c_X8_isSound x0 t z hz).2) (fun z1 _ => ?_)
  show mk_O _ _ _ _ (.int z1.1 :: []) _ _
  refine xo_if_eq (tgt := 91) dX4_read_75 rfl (fun _ => ?_) (fun _ => ?_)
  · refine xo_aload_n rfl rfl dX4_read_91 ?_
    refine xo_geti dX4_read_92 cl_7 fl_RX4_40 rfl (fun v2 => ?_)
    exact xo_iret dX4_read_95 rfl
  · refine xo_aload_n rfl rfl dX4_read_78 ?_
    refine xo_geti dX4_read_79 cl_7 fl_RX4_32 rfl (fun v3 => ?_)
    refine xo_iconst kc_m1 dX4_read_82 ?_
    refine xo_icmp_eq (tgt := 91) dX4_read_83 rfl (fun _ => ?_) (fun _ => ?_)
    · refine xo_aload_n rfl rfl dX4_read_91 ?_
      refine xo_geti dX4_read_92 cl_7 fl_RX4_40 rfl (fun v4 => ?_)
      exact xo_iret dX4_read_95 rfl
    · refine xo_aload_n rfl rfl dX4_read_86 ?_
      refine xo_iconst kc_0 dX4_read_87 ?_
      refine mk_O.callV (N := M_X8_fail) (ci := 7) (q := (RX8, TX8, 7)) (b := x0) (As1 := [.int (0 : Int32)]) (S := []) md_X8_fail mv_X8_fail lk_RX4_36 rfl (Nat.le_of_ble_eq_true rfl) (by decide) dX4_read_88 rfl rfl rfl (fun z hz => (c_X8_fail x0 (0 : Int32) z1.2 z hz).1) (fun z hz => (c_X8_fail x0 (0 : Int32) z1.2 z hz).2) (fun z5 _ => ?_)
      show mk_O _ _ _ _ [] _ _
      refine xo_aload_n rfl rfl dX4_read_91 ?_
      refine xo_geti dX4_read_92 cl_7 fl_RX4_40 rfl (fun v6 => ?_)
      exact xo_iret dX4_read_95 rfl
theorem o_X4_read_12 : ∀ (n : Nat) (x0 : Nat) (x1 : Nat) (x2 : Int32) (x3 : Int32) (t : mk_S), mk_O mk_wi M_X4_read 12 [some (.ref x0), some (.ref x1), some (.int x2), some (.int x3)] [] t (B_X4_read_12 n x0 x1 x2 x3 t) := by
  intro n
  induction n with
  | zero =>
    intro x0 x1 x2 x3 t
    exact mk_O.none
  | succ n ih =>
    intro x0 x1 x2 x3 t
    rw [B_X4_read_12]
    refine xo_iload_n rfl rfl dX4_read_12 ?_
    refine xo_bipush kb_40 dX4_read_13 ?_
    refine xo_icmp_gt (tgt := 71) dX4_read_15 rfl (fun _ => ?_) (fun _ => ?_)
    · exact mk_O.wk (o_X4_read_71 x0 t) ⟨rfl, trivial⟩
    · refine xo_iload_n rfl rfl dX4_read_18 ?_
      refine xo_if_eq (tgt := 71) dX4_read_19 rfl (fun _ => ?_) (fun _ => ?_)
      · exact mk_O.wk (o_X4_read_71 x0 t) ⟨rfl, trivial⟩
      · refine xo_aload_n rfl rfl dX4_read_22 ?_
        refine mk_O.callV (N := M_X8_advance) (ci := 7) (q := (RX8, TX8, 7)) (b := x0) (As1 := []) (S := []) md_X8_advance mv_X8_advance lk_RX4_19 rfl (Nat.le_of_ble_eq_true rfl) (by decide) dX4_read_23 rfl rfl rfl (fun z hz => (c_X8_advance x0 t z hz).1) (fun z hz => (c_X8_advance x0 t z hz).2) (fun z1 _ => ?_)
        show mk_O _ _ _ _ [] _ _
        refine xo_aload_n rfl rfl dX4_read_26 ?_
        refine xo_aload_n rfl rfl dX4_read_27 ?_
        refine xo_iload_n rfl rfl dX4_read_28 ?_
        refine mk_O.callS (N := M_X4_readClause) (As := [.ref x0, .ref x1, .int x3]) (S := []) md_X4_readClause ms_X4_readClause lk_RX4_22 rfl (Nat.le_of_ble_eq_true rfl) (by decide) dX4_read_29 rfl (fun z hz => c_X4_readClause x0 x1 x3 z1.2 z hz) (fun z2 _ => ?_)
        show mk_O _ _ _ _ [] _ _
        refine xo_aload_n rfl rfl dX4_read_32 ?_
        refine mk_O.callV (N := M_X8_isSound) (ci := 7) (q := (RX8, TX8, 7)) (b := x0) (As1 := []) (S := []) md_X8_isSound mv_X8_isSound lk_RX4_28 rfl (Nat.le_of_ble_eq_true rfl) (by decide) dX4_read_33 rfl rfl rfl (fun z hz => (c_X8_isSound x0 z2.2 z hz).1) (fun z hz => (c_X8_isSound x0 z2.2 z hz).2) (fun z3 _ => ?_)
        show mk_O _ _ _ _ (.int z3.1 :: []) _ _
        refine xo_if_eq (tgt := 43) dX4_read_36 rfl (fun _ => ?_) (fun _ => ?_)
        · exact mk_O.wk (o_X4_read_43 _ ih x0 x1 x3 z3.2) ⟨rfl, ⟨rfl, ⟨rfl, trivial⟩⟩⟩
        · refine xo_aload_n rfl rfl dX4_read_39 ?_
          refine mk_O.callV (N := M_X8_advance) (ci := 7) (q := (RX8, TX8, 7)) (b := x0) (As1 := []) (S := []) md_X8_advance mv_X8_advance lk_RX4_19 rfl (Nat.le_of_ble_eq_true rfl) (by decide) dX4_read_40 rfl rfl rfl (fun z hz => (c_X8_advance x0 z3.2 z hz).1) (fun z hz => (c_X8_advance x0 z3.2 z hz).2) (fun z4 _ => ?_)
          show mk_O _ _ _ _ [] _ _
          exact mk_O.wk (o_X4_read_43 _ ih x0 x1 x3 z4.2) ⟨rfl, ⟨rfl, ⟨rfl, trivial⟩⟩⟩
theorem p_X4_read (x0 : Nat) (x1 : Nat) (t : mk_S) : mk_O mk_wi M_X4_read 0 [some (.ref x0), some (.ref x1), none, none] [] t ((F_X8_open x0 t).bind fun z1 => (F_X3_clear x1 z1.2).bind fun z2 => B_X4_read_12 mk_fu x0 x1 (1 : Int32) (0 : Int32) z2.2) := by
  refine xo_aload_n rfl rfl dX4_read_0 ?_
  refine mk_O.callV (N := M_X8_open) (ci := 7) (q := (RX8, TX8, 7)) (b := x0) (As1 := []) (S := []) md_X8_open mv_X8_open lk_RX4_9 rfl (Nat.le_of_ble_eq_true rfl) (by decide) dX4_read_1 rfl rfl rfl (fun z hz => (c_X8_open x0 t z hz).1) (fun z hz => (c_X8_open x0 t z hz).2) (fun z1 _ => ?_)
  show mk_O _ _ _ _ [] _ _
  refine xo_aload_n rfl rfl dX4_read_4 ?_
  refine mk_O.callV (N := M_X3_clear) (ci := 3) (q := (RX3, TX3, 12)) (b := x1) (As1 := []) (S := []) md_X3_clear mv_X3_clear lk_RX4_14 rfl (Nat.le_of_ble_eq_true rfl) (by decide) dX4_read_5 rfl rfl rfl (fun z hz => (c_X3_clear x1 z1.2 z hz).1) (fun z hz => (c_X3_clear x1 z1.2 z hz).2) (fun z2 _ => ?_)
  show mk_O _ _ _ _ [] _ _
  refine xo_iconst kc_1 dX4_read_8 ?_
  refine xo_istore_n rfl (by decide) (mk_p1_v rfl rfl) dX4_read_9 ?_
  refine xo_iconst kc_0 dX4_read_10 ?_
  refine xo_istore_n rfl (by decide) (mk_p1_v rfl rfl) dX4_read_11 ?_
  exact mk_O.wk (o_X4_read_12 mk_fu x0 x1 (1 : Int32) (0 : Int32) z2.2) ⟨rfl, ⟨rfl, ⟨rfl, ⟨rfl, trivial⟩⟩⟩⟩
theorem c_X4_read (x0 : Nat) (x1 : Nat) (t : mk_S) (z : Int32 × mk_S) (h : F_X4_read x0 x1 t = some z) : mk_Ct M_X4_read [.ref x0, .ref x1] t (mk_wi z.1, z.2) :=
  mk_ct (w := mk_wi) (by decide +kernel) (Nat.le_of_ble_eq_true rfl) (p_X4_read x0 x1 t) z h
def F_X5_clear (x0 : Nat) (t : mk_S) : Option (Unit × mk_S) := mk_gd t x0 4 ((mk_pi t x0 4 2 (0 : Int32)).bind fun t1 => (mk_pi t1 x0 4 3 (0 : Int32)).bind fun t2 => some ((), t2))
theorem p_X5_clear (x0 : Nat) (t : mk_S) : mk_O mk_wu M_X5_clear 0 [some (.ref x0)] [] t ((mk_pi t x0 4 2 (0 : Int32)).bind fun t1 => (mk_pi t1 x0 4 3 (0 : Int32)).bind fun t2 => some ((), t2)) := by
  refine xo_aload_n rfl rfl dX5_clear_0 ?_
  refine xo_iconst kc_0 dX5_clear_1 ?_
  refine xo_puti dX5_clear_2 cl_4 fl_RX5_18 rfl ft_4_2 (fun t1 => ?_)
  refine xo_aload_n rfl rfl dX5_clear_5 ?_
  refine xo_iconst kc_0 dX5_clear_6 ?_
  refine xo_puti dX5_clear_7 cl_4 fl_RX5_22 rfl ft_4_3 (fun t2 => ?_)
  exact xo_vret dX5_clear_10 rfl
theorem c_X5_clear (x0 : Nat) (t : mk_S) (z : Unit × mk_S) (h : F_X5_clear x0 t = some z) : mk_is t x0 4 ∧ mk_Ct M_X5_clear [.ref x0] t (mk_wu z.1, z.2) :=
  ⟨(mk_gd_spec h).1, mk_ct (w := mk_wu) (by decide +kernel) (Nat.le_of_ble_eq_true rfl) (p_X5_clear x0 t) z (mk_gd_spec h).2⟩
def F_X5_add (x0 : Nat) (x1 : Int32) (x2 : Int32) (t : mk_S) : Option (Unit × mk_S) := mk_gd t x0 4 ((mk_gi t x0 4 2).bind fun v1 => if (400 : Int32) ≤ v1 then (some ((), t)) else ((mk_ga t x0 4 0).bind fun v2 => (mk_gi t x0 4 2).bind fun v3 => (mk_st 100 t v2 v3 x1).bind fun t4 => (mk_ga t4 x0 4 1).bind fun v5 => (mk_gi t4 x0 4 2).bind fun v6 => (mk_st 100 t4 v5 v6 x2).bind fun t7 => (mk_gi t7 x0 4 2).bind fun v8 => (mk_pi t7 x0 4 2 (v8 + (1 : Int32))).bind fun t9 => some ((), t9)))
theorem p_X5_add (x0 : Nat) (x1 : Int32) (x2 : Int32) (t : mk_S) : mk_O mk_wu M_X5_add 0 [some (.ref x0), some (.int x1), some (.int x2)] [] t ((mk_gi t x0 4 2).bind fun v1 => if (400 : Int32) ≤ v1 then (some ((), t)) else ((mk_ga t x0 4 0).bind fun v2 => (mk_gi t x0 4 2).bind fun v3 => (mk_st 100 t v2 v3 x1).bind fun t4 => (mk_ga t4 x0 4 1).bind fun v5 => (mk_gi t4 x0 4 2).bind fun v6 => (mk_st 100 t4 v5 v6 x2).bind fun t7 => (mk_gi t7 x0 4 2).bind fun v8 => (mk_pi t7 x0 4 2 (v8 + (1 : Int32))).bind fun t9 => some ((), t9))) := by
  refine xo_aload_n rfl rfl dX5_add_0 ?_
  refine xo_geti dX5_add_1 cl_4 fl_RX5_18 rfl (fun v1 => ?_)
  refine xo_sipush ks_400 dX5_add_4 ?_
  refine xo_icmp_ge (tgt := 40) dX5_add_7 rfl (fun _ => ?_) (fun _ => ?_)
  · exact xo_vret dX5_add_40 rfl
  · refine xo_aload_n rfl rfl dX5_add_10 ?_
    refine xo_geta dX5_add_11 cl_4 fl_RX5_9 rfl (fun v2 => ?_)
    refine xo_aload_n rfl rfl dX5_add_14 ?_
    refine xo_geti dX5_add_15 cl_4 fl_RX5_18 rfl (fun v3 => ?_)
    refine xo_iload_n rfl rfl dX5_add_18 ?_
    refine xo_iast dX5_add_19 (fun t4 => ?_)
    refine xo_aload_n rfl rfl dX5_add_20 ?_
    refine xo_geta dX5_add_21 cl_4 fl_RX5_15 rfl (fun v5 => ?_)
    refine xo_aload_n rfl rfl dX5_add_24 ?_
    refine xo_geti dX5_add_25 cl_4 fl_RX5_18 rfl (fun v6 => ?_)
    refine xo_iload_n rfl rfl dX5_add_28 ?_
    refine xo_iast dX5_add_29 (fun t7 => ?_)
    refine xo_aload_n rfl rfl dX5_add_30 ?_
    refine xo_dup rfl dX5_add_31 ?_
    refine xo_geti dX5_add_32 cl_4 fl_RX5_18 rfl (fun v8 => ?_)
    refine xo_iconst kc_1 dX5_add_35 ?_
    refine xo_iadd dX5_add_36 ?_
    refine xo_puti dX5_add_37 cl_4 fl_RX5_18 rfl ft_4_2 (fun t9 => ?_)
    exact xo_vret dX5_add_40 rfl
theorem c_X5_add (x0 : Nat) (x1 : Int32) (x2 : Int32) (t : mk_S) (z : Unit × mk_S) (h : F_X5_add x0 x1 x2 t = some z) : mk_is t x0 4 ∧ mk_Ct M_X5_add [.ref x0, .int x1, .int x2] t (mk_wu z.1, z.2) :=
  ⟨(mk_gd_spec h).1, mk_ct (w := mk_wu) (by decide +kernel) (Nat.le_of_ble_eq_true rfl) (p_X5_add x0 x1 x2 t) z (mk_gd_spec h).2⟩
def F_X5_addClause (x0 : Nat) (x1 : Int32) (x2 : Int32) (t : mk_S) : Option (Unit × mk_S) := mk_gd t x0 4 ((mk_gi t x0 4 3).bind fun v1 => if (12 : Int32) ≤ v1 then (some ((), t)) else ((mk_ga t x0 4 4).bind fun v2 => (mk_gi t x0 4 3).bind fun v3 => (mk_st 100 t v2 v3 x1).bind fun t4 => (mk_ga t4 x0 4 5).bind fun v5 => (mk_gi t4 x0 4 3).bind fun v6 => (mk_st 100 t4 v5 v6 x2).bind fun t7 => (mk_ga t7 x0 4 6).bind fun v8 => (mk_gi t7 x0 4 3).bind fun v9 => (mk_gi t7 x0 4 2).bind fun v10 => (mk_st 100 t7 v8 v9 v10).bind fun t11 => (mk_gi t11 x0 4 3).bind fun v12 => (mk_pi t11 x0 4 3 (v12 + (1 : Int32))).bind fun t13 => some ((), t13)))
theorem p_X5_addClause (x0 : Nat) (x1 : Int32) (x2 : Int32) (t : mk_S) : mk_O mk_wu M_X5_addClause 0 [some (.ref x0), some (.int x1), some (.int x2)] [] t ((mk_gi t x0 4 3).bind fun v1 => if (12 : Int32) ≤ v1 then (some ((), t)) else ((mk_ga t x0 4 4).bind fun v2 => (mk_gi t x0 4 3).bind fun v3 => (mk_st 100 t v2 v3 x1).bind fun t4 => (mk_ga t4 x0 4 5).bind fun v5 => (mk_gi t4 x0 4 3).bind fun v6 => (mk_st 100 t4 v5 v6 x2).bind fun t7 => (mk_ga t7 x0 4 6).bind fun v8 => (mk_gi t7 x0 4 3).bind fun v9 => (mk_gi t7 x0 4 2).bind fun v10 => (mk_st 100 t7 v8 v9 v10).bind fun t11 => (mk_gi t11 x0 4 3).bind fun v12 => (mk_pi t11 x0 4 3 (v12 + (1 : Int32))).bind fun t13 => some ((), t13))) := by
  refine xo_aload_n rfl rfl dX5_addClause_0 ?_
  refine xo_geti dX5_addClause_1 cl_4 fl_RX5_22 rfl (fun v1 => ?_)
  refine xo_bipush kb_12 dX5_addClause_4 ?_
  refine xo_icmp_ge (tgt := 52) dX5_addClause_6 rfl (fun _ => ?_) (fun _ => ?_)
  · exact xo_vret dX5_addClause_52 rfl
  · refine xo_aload_n rfl rfl dX5_addClause_9 ?_
    refine xo_geta dX5_addClause_10 cl_4 fl_RX5_25 rfl (fun v2 => ?_)
    refine xo_aload_n rfl rfl dX5_addClause_13 ?_
    refine xo_geti dX5_addClause_14 cl_4 fl_RX5_22 rfl (fun v3 => ?_)
    refine xo_iload_n rfl rfl dX5_addClause_17 ?_
    refine xo_iast dX5_addClause_18 (fun t4 => ?_)
    refine xo_aload_n rfl rfl dX5_addClause_19 ?_
    refine xo_geta dX5_addClause_20 cl_4 fl_RX5_28 rfl (fun v5 => ?_)
    refine xo_aload_n rfl rfl dX5_addClause_23 ?_
    refine xo_geti dX5_addClause_24 cl_4 fl_RX5_22 rfl (fun v6 => ?_)
    refine xo_iload_n rfl rfl dX5_addClause_27 ?_
    refine xo_iast dX5_addClause_28 (fun t7 => ?_)
    refine xo_aload_n rfl rfl dX5_addClause_29 ?_
    refine xo_geta dX5_addClause_30 cl_4 fl_RX5_31 rfl (fun v8 => ?_)
    refine xo_aload_n rfl rfl dX5_addClause_33 ?_
    refine xo_geti dX5_addClause_34 cl_4 fl_RX5_22 rfl (fun v9 => ?_)
    refine xo_aload_n rfl rfl dX5_addClause_37 ?_
    refine xo_geti dX5_addClause_38 cl_4 fl_RX5_18 rfl (fun v10 => ?_)
    refine xo_iast dX5_addClause_41 (fun t11 => ?_)
    refine xo_aload_n rfl rfl dX5_addClause_42 ?_
    refine xo_dup rfl dX5_addClause_43 ?_
    refine xo_geti dX5_addClause_44 cl_4 fl_RX5_22 rfl (fun v12 => ?_)
    refine xo_iconst kc_1 dX5_addClause_47 ?_
    refine xo_iadd dX5_addClause_48 ?_
    refine xo_puti dX5_addClause_49 cl_4 fl_RX5_22 rfl ft_4_3 (fun t13 => ?_)
    exact xo_vret dX5_addClause_52 rfl
theorem c_X5_addClause (x0 : Nat) (x1 : Int32) (x2 : Int32) (t : mk_S) (z : Unit × mk_S) (h : F_X5_addClause x0 x1 x2 t = some z) : mk_is t x0 4 ∧ mk_Ct M_X5_addClause [.ref x0, .int x1, .int x2] t (mk_wu z.1, z.2) :=
  ⟨(mk_gd_spec h).1, mk_ct (w := mk_wu) (by decide +kernel) (Nat.le_of_ble_eq_true rfl) (p_X5_addClause x0 x1 x2 t) z (mk_gd_spec h).2⟩
def F_X6_init (x0 : Nat) (t : mk_S) : Option (Unit × mk_S) := mk_gd t x0 5 ((mk_na 100 t (400 : Int32)).bind fun z1 => (mk_pa z1.2 x0 5 0 z1.1).bind fun t2 => if z1.1 < z1.2.1.length then (mk_pi t2 x0 5 1 (0 : Int32)).bind fun t3 => (mk_pi t3 x0 5 2 (0 : Int32)).bind fun t4 => (mk_pi t4 x0 5 3 (0 : Int32)).bind fun t5 => (mk_pi t5 x0 5 4 (0 : Int32)).bind fun t6 => (mk_pi t6 x0 5 5 (0 : Int32)).bind fun t7 => (mk_pi t7 x0 5 6 (0 : Int32)).bind fun t8 => (mk_pi t8 x0 5 7 (0 : Int32)).bind fun t9 => some ((), t9) else none)
theorem p_X6_init (x0 : Nat) (t : mk_S) : mk_O mk_wu M_X6_init 0 [some (.ref x0)] [] t ((mk_na 100 t (400 : Int32)).bind fun z1 => (mk_pa z1.2 x0 5 0 z1.1).bind fun t2 => if z1.1 < z1.2.1.length then (mk_pi t2 x0 5 1 (0 : Int32)).bind fun t3 => (mk_pi t3 x0 5 2 (0 : Int32)).bind fun t4 => (mk_pi t4 x0 5 3 (0 : Int32)).bind fun t5 => (mk_pi t5 x0 5 4 (0 : Int32)).bind fun t6 => (mk_pi t6 x0 5 5 (0 : Int32)).bind fun t7 => (mk_pi t7 x0 5 6 (0 : Int32)).bind fun t8 => (mk_pi t8 x0 5 7 (0 : Int32)).bind fun t9 => some ((), t9) else none) := by
  refine xo_aload_n rfl rfl dX6_init_0 ?_
  refine xo_obj lo_RX6_3 (by decide) (Nat.le_of_ble_eq_true rfl) dX6_init_1 ?_
  refine xo_aload_n rfl rfl dX6_init_4 ?_
  refine xo_sipush ks_400 dX6_init_5 ?_
  refine xo_newai (mk_w1 (i := 65) rfl rfl) dX6_init_8 (fun z1 _ => ?_)
  refine xo_puta dX6_init_10 cl_5 ⟨RX6, TX6, 8, rfl, by decide, (mk_w1 (i := 72) rfl rfl)⟩ rfl ft_5_0 (fun _ => rfl) (fun _ => rfl) rfl rfl (fun t2 => ?_)
  refine xo_aload_n rfl rfl dX6_init_13 ?_
  refine xo_iconst kc_0 dX6_init_14 ?_
  refine xo_puti dX6_init_15 cl_5 fl_RX6_15 rfl ft_5_1 (fun t3 => ?_)
  refine xo_aload_n rfl rfl dX6_init_18 ?_
  refine xo_iconst kc_0 dX6_init_19 ?_
  refine xo_puti dX6_init_20 cl_5 fl_RX6_19 rfl ft_5_2 (fun t4 => ?_)
  refine xo_aload_n rfl rfl dX6_init_23 ?_
  refine xo_iconst kc_0 dX6_init_24 ?_
  refine xo_puti dX6_init_25 cl_5 fl_RX6_22 rfl ft_5_3 (fun t5 => ?_)
  refine xo_aload_n rfl rfl dX6_init_28 ?_
  refine xo_iconst kc_0 dX6_init_29 ?_
  refine xo_puti dX6_init_30 cl_5 fl_RX6_25 rfl ft_5_4 (fun t6 => ?_)
  refine xo_aload_n rfl rfl dX6_init_33 ?_
  refine xo_iconst kc_0 dX6_init_34 ?_
  refine xo_puti dX6_init_35 cl_5 fl_RX6_28 rfl ft_5_5 (fun t7 => ?_)
  refine xo_aload_n rfl rfl dX6_init_38 ?_
  refine xo_iconst kc_0 dX6_init_39 ?_
  refine xo_puti dX6_init_40 cl_5 fl_RX6_31 rfl ft_5_6 (fun t8 => ?_)
  refine xo_aload_n rfl rfl dX6_init_43 ?_
  refine xo_iconst kc_0 dX6_init_44 ?_
  refine xo_puti dX6_init_45 cl_5 fl_RX6_34 rfl ft_5_7 (fun t9 => ?_)
  exact xo_vret dX6_init_48 rfl
theorem c_X6_init (x0 : Nat) (t : mk_S) (z : Unit × mk_S) (h : F_X6_init x0 t = some z) : mk_is t x0 5 ∧ mk_Ct M_X6_init [.ref x0] t (mk_wu z.1, z.2) :=
  ⟨(mk_gd_spec h).1, mk_ct (w := mk_wu) (by decide +kernel) (Nat.le_of_ble_eq_true rfl) (p_X6_init x0 t) z (mk_gd_spec h).2⟩
def B_X6_readClause_32 (x0 : Nat) (x2 : Nat) (t : mk_S) : Option (Unit × mk_S) := (mk_gi t x2 4 2).bind fun v1 => (mk_pi t x0 5 6 v1).bind fun t2 => (mk_pi t2 x0 5 5 (0 : Int32)).bind fun t3 => (mk_pi t3 x0 5 4 (1 : Int32)).bind fun t4 => some ((), t4)
def F_X6_readClause (x0 : Nat) (x1 : Nat) (x2 : Nat) (t : mk_S) : Option (Unit × mk_S) := mk_gd t x0 5 ((mk_gi t x1 7 4).bind fun v1 => if v1 = (316 : Int32) then ((mk_gi t x2 4 3).bind fun v2 => if v2 < (12 : Int32) then (B_X6_readClause_32 x0 x2 t) else ((F_X8_fail x1 (4 : Int32) t).bind fun z3 => B_X6_readClause_32 x0 x2 z3.2)) else ((F_X8_fail x1 (0 : Int32) t).bind fun z4 => B_X6_readClause_32 x0 x2 z4.2))
theorem o_X6_readClause_32 (x0 : Nat) (x2 : Nat) (t : mk_S) : mk_O mk_wu M_X6_readClause 32 [some (.ref x0), none, some (.ref x2)] [] t (B_X6_readClause_32 x0 x2 t) := by
  unfold B_X6_readClause_32
  refine xo_aload_n rfl rfl dX6_readClause_32 ?_
  refine xo_aload_n rfl rfl dX6_readClause_33 ?_
  refine xo_geti dX6_readClause_34 cl_4 fl_RX6_83 rfl (fun v1 => ?_)
  refine xo_puti dX6_readClause_37 cl_5 fl_RX6_31 rfl ft_5_6 (fun t2 => ?_)
  refine xo_aload_n rfl rfl dX6_readClause_40 ?_
  refine xo_iconst kc_0 dX6_readClause_41 ?_
  refine xo_puti dX6_readClause_42 cl_5 fl_RX6_28 rfl ft_5_5 (fun t3 => ?_)
  refine xo_aload_n rfl rfl dX6_readClause_45 ?_
  refine xo_iconst kc_1 dX6_readClause_46 ?_
  refine xo_puti dX6_readClause_47 cl_5 fl_RX6_25 rfl ft_5_4 (fun t4 => ?_)
  exact xo_vret dX6_readClause_50 rfl
theorem p_X6_readClause (x0 : Nat) (x1 : Nat) (x2 : Nat) (t : mk_S) : mk_O mk_wu M_X6_readClause 0 [some (.ref x0), some (.ref x1), some (.ref x2)] [] t ((mk_gi t x1 7 4).bind fun v1 => if v1 = (316 : Int32) then ((mk_gi t x2 4 3).bind fun v2 => if v2 < (12 : Int32) then (B_X6_readClause_32 x0 x2 t) else ((F_X8_fail x1 (4 : Int32) t).bind fun z3 => B_X6_readClause_32 x0 x2 z3.2)) else ((F_X8_fail x1 (0 : Int32) t).bind fun z4 => B_X6_readClause_32 x0 x2 z4.2)) := by
  refine xo_aload_n rfl rfl dX6_readClause_0 ?_
  refine xo_geti dX6_readClause_1 cl_7 fl_RX6_73 rfl (fun v1 => ?_)
  refine xo_sipush ks_316 dX6_readClause_4 ?_
  refine xo_icmp_eq (tgt := 18) dX6_readClause_7 rfl (fun _ => ?_) (fun _ => ?_)
  · refine xo_aload_n rfl rfl dX6_readClause_18 ?_
    refine xo_geti dX6_readClause_19 cl_4 fl_RX6_80 rfl (fun v2 => ?_)
    refine xo_bipush kb_12 dX6_readClause_22 ?_
    refine xo_icmp_lt (tgt := 32) dX6_readClause_24 rfl (fun _ => ?_) (fun _ => ?_)
    · exact mk_O.wk (o_X6_readClause_32 x0 x2 t) ⟨rfl, ⟨rfl, trivial⟩⟩
    · refine xo_aload_n rfl rfl dX6_readClause_27 ?_
      refine xo_iconst kc_4 dX6_readClause_28 ?_
      refine mk_O.callV (N := M_X8_fail) (ci := 7) (q := (RX8, TX8, 7)) (b := x1) (As1 := [.int (4 : Int32)]) (S := []) md_X8_fail mv_X8_fail lk_RX6_76 rfl (Nat.le_of_ble_eq_true rfl) (by decide) dX6_readClause_29 rfl rfl rfl (fun z hz => (c_X8_fail x1 (4 : Int32) t z hz).1) (fun z hz => (c_X8_fail x1 (4 : Int32) t z hz).2) (fun z3 _ => ?_)
      show mk_O _ _ _ _ [] _ _
      exact mk_O.wk (o_X6_readClause_32 x0 x2 z3.2) ⟨rfl, ⟨rfl, trivial⟩⟩
  · refine xo_aload_n rfl rfl dX6_readClause_10 ?_
    refine xo_iconst kc_0 dX6_readClause_11 ?_
    refine mk_O.callV (N := M_X8_fail) (ci := 7) (q := (RX8, TX8, 7)) (b := x1) (As1 := [.int (0 : Int32)]) (S := []) md_X8_fail mv_X8_fail lk_RX6_76 rfl (Nat.le_of_ble_eq_true rfl) (by decide) dX6_readClause_12 rfl rfl rfl (fun z hz => (c_X8_fail x1 (0 : Int32) t z hz).1) (fun z hz => (c_X8_fail x1 (0 : Int32) t z hz).2) (fun z4 _ => ?_)
    show mk_O _ _ _ _ [] _ _
    refine xo_goto (tgt := 32) dX6_readClause_15 rfl ?_
    exact mk_O.wk (o_X6_readClause_32 x0 x2 z4.2) ⟨rfl, ⟨rfl, trivial⟩⟩
theorem c_X6_readClause (x0 : Nat) (x1 : Nat) (x2 : Nat) (t : mk_S) (z : Unit × mk_S) (h : F_X6_readClause x0 x1 x2 t = some z) : mk_is t x0 5 ∧ mk_Ct M_X6_readClause [.ref x0, .ref x1, .ref x2] t (mk_wu z.1, z.2) :=
  ⟨(mk_gd_spec h).1, mk_ct (w := mk_wu) (by decide +kernel) (Nat.le_of_ble_eq_true rfl) (p_X6_readClause x0 x1 x2 t) z (mk_gd_spec h).2⟩
def F_X6_countItem (x0 : Nat) (x1 : Nat) (t : mk_S) : Option (Unit × mk_S) := mk_gd t x0 5 ((mk_gi t x0 5 3).bind fun v1 => (mk_pi t x0 5 3 (v1 + (1 : Int32))).bind fun t2 => (mk_gi t2 x0 5 3).bind fun v3 => if v3 ≤ (60 : Int32) then (some ((), t2)) else ((F_X8_fail x1 (3 : Int32) t2).bind fun z4 => some ((), z4.2)))
theorem p_X6_countItem (x0 : Nat) (x1 : Nat) (t : mk_S) : mk_O mk_wu M_X6_countItem 0 [some (.ref x0), some (.ref x1)] [] t ((mk_gi t x0 5 3).bind fun v1 => (mk_pi t x0 5 3 (v1 + (1 : Int32))).bind fun t2 => (mk_gi t2 x0 5 3).bind fun v3 => if v3 ≤ (60 : Int32) then (some ((), t2)) else ((F_X8_fail x1 (3 : Int32) t2).bind fun z4 => some ((), z4.2))) := by
  refine xo_aload_n rfl rfl dX6_countItem_0 ?_
  refine xo_dup rfl dX6_countItem_1 ?_
  refine xo_geti dX6_countItem_2 cl_5 fl_RX6_22 rfl (fun v1 => ?_)
  refine xo_iconst kc_1 dX6_countItem_5 ?_
  refine xo_iadd dX6_countItem_6 ?_
  refine xo_puti dX6_countItem_7 cl_5 fl_RX6_22 rfl ft_5_3 (fun t2 => ?_)
  refine xo_aload_n rfl rfl dX6_countItem_10 ?_
  refine xo_geti dX6_countItem_11 cl_5 fl_RX6_22 rfl (fun v3 => ?_)
  refine xo_bipush kb_60 dX6_countItem_14 ?_
  refine xo_icmp_le (tgt := 24) dX6_countItem_16 rfl (fun _ => ?_) (fun _ => ?_)
  · exact xo_vret dX6_countItem_24 rfl
  · refine xo_aload_n rfl rfl dX6_countItem_19 ?_
    refine xo_iconst kc_3 dX6_countItem_20 ?_
    refine mk_O.callV (N := M_X8_fail) (ci := 7) (q := (RX8, TX8, 7)) (b := x1) (As1 := [.int (3 : Int32)]) (S := []) md_X8_fail mv_X8_fail lk_RX6_76 rfl (Nat.le_of_ble_eq_true rfl) (by decide) dX6_countItem_21 rfl rfl rfl (fun z hz => (c_X8_fail x1 (3 : Int32) t2 z hz).1) (fun z hz => (c_X8_fail x1 (3 : Int32) t2 z hz).2) (fun z4 _ => ?_)
    show mk_O _ _ _ _ [] _ _
    exact xo_vret dX6_countItem_24 rfl
theorem c_X6_countItem (x0 : Nat) (x1 : Nat) (t : mk_S) (z : Unit × mk_S) (h : F_X6_countItem x0 x1 t = some z) : mk_is t x0 5 ∧ mk_Ct M_X6_countItem [.ref x0, .ref x1] t (mk_wu z.1, z.2) :=
  ⟨(mk_gd_spec h).1, mk_ct (w := mk_wu) (by decide +kernel) (Nat.le_of_ble_eq_true rfl) (p_X6_countItem x0 x1 t) z (mk_gd_spec h).2⟩
def B_X6_readValue_51 (x0 : Nat) (x1 : Nat) (x2 : Nat) (t : mk_S) : Option (Unit × mk_S) := (F_X6_countItem x0 x1 t).bind fun z1 => (mk_gi z1.2 x1 7 4).bind fun v2 => (mk_gi z1.2 x1 7 6).bind fun v3 => (F_X5_add x2 v2 v3 z1.2).bind fun z4 => (mk_pi z4.2 x0 5 4 (3 : Int32)).bind fun t5 => some ((), t5)
def B_X6_readValue_28 (x0 : Nat) (x1 : Nat) (x2 : Nat) (t : mk_S) : Option (Unit × mk_S) := (mk_gi t x1 7 4).bind fun v1 => if v1 = (256 : Int32) then ((mk_gi t x1 7 6).bind fun v2 => if v2 = (-1 : Int32) then ((F_X8_fail x1 (1 : Int32) t).bind fun z3 => B_X6_readValue_51 x0 x1 x2 z3.2) else (B_X6_readValue_51 x0 x1 x2 t)) else (B_X6_readValue_51 x0 x1 x2 t)
def F_X6_readValue (x0 : Nat) (x1 : Nat) (x2 : Nat) (t : mk_S) : Option (Unit × mk_S) := mk_gd t x0 5 ((mk_gi t x1 7 4).bind fun v1 => if v1 = (256 : Int32) then (B_X6_readValue_28 x0 x1 x2 t) else ((mk_gi t x1 7 4).bind fun v2 => (F_X5_isWord v2 t).bind fun z3 => if z3.1 = 0 then ((F_X8_fail x1 (0 : Int32) z3.2).bind fun z4 => B_X6_readValue_51 x0 x1 x2 z4.2) else (B_X6_readValue_28 x0 x1 x2 z3.2)))
theorem o_X6_readValue_51 (x0 : Nat) (x1 : Nat) (x2 : Nat) (t : mk_S) : mk_O mk_wu M_X6_readValue 51 [some (.ref x0), some (.ref x1), some (.ref x2)] [] t (B_X6_readValue_51 x0 x1 x2 t) := by
  unfold B_X6_readValue_51
  refine xo_aload_n rfl rfl dX6_readValue_51 ?_
  refine xo_aload_n rfl rfl dX6_readValue_52 ?_
  refine mk_O.callV (N := M_X6_countItem) (ci := 5) (q := (RX6, TX6, 8)) (b := x0) (As1 := [.ref x1]) (S := []) md_X6_countItem mv_X6_countItem lk_RX6_93 rfl (Nat.le_of_ble_eq_true rfl) (by decide) dX6_readValue_53 rfl rfl rfl (fun z hz => (c_X6_countItem x0 x1 t z hz).1) (fun z hz => (c_X6_countItem x0 x1 t z hz).2) (fun z1 _ => ?_)
  show mk_O _ _ _ _ [] _ _
  refine xo_aload_n rfl rfl dX6_readValue_56 ?_
  refine xo_aload_n rfl rfl dX6_readValue_57 ?_
  refine xo_geti dX6_readValue_58 cl_7 fl_RX6_73 rfl (fun v2 => ?_)
  refine xo_aload_n rfl rfl dX6_readValue_61 ?_
  refine xo_geti dX6_readValue_62 cl_7 fl_RX6_90 rfl (fun v3 => ?_)
  refine mk_O.callV (N := M_X5_add) (ci := 4) (q := (RX5, TX5, 8)) (b := x2) (As1 := [.int v2, .int v3]) (S := []) md_X5_add mv_X5_add lk_RX6_97 rfl (Nat.le_of_ble_eq_true rfl) (by decide) dX6_readValue_65 rfl rfl rfl (fun z hz => (c_X5_add x2 v2 v3 z1.2 z hz).1) (fun z hz => (c_X5_add x2 v2 v3 z1.2 z hz).2) (fun z4 _ => ?_)
  show mk_O _ _ _ _ [] _ _
  refine xo_aload_n rfl rfl dX6_readValue_68 ?_
  refine xo_iconst kc_3 dX6_readValue_69 ?_
  refine xo_puti dX6_readValue_70 cl_5 fl_RX6_25 rfl ft_5_4 (fun t5 => ?_)
  exact xo_vret dX6_readValue_73 rfl
theorem o_X6_readValue_28 (x0 : Nat) (x1 : Nat) (x2 : Nat) (t : mk_S) : mk_O mk_wu M_X6_readValue 28 [some (.ref x0), some (.ref x1), some (.ref x2)] [] t (B_X6_readValue_28 x0 x1 x2 t) := by
  unfold B_X6_readValue_28
  refine xo_aload_n rfl rfl dX6_readValue_28 ?_
  refine xo_geti dX6_readValue_29 cl_7 fl_RX6_73 rfl (fun v1 => ?_)
  refine xo_sipush ks_256 dX6_readValue_32 ?_
  refine xo_icmp_ne (tgt := 51) dX6_readValue_35 rfl (fun _ => ?_) (fun _ => ?_)
  · refine xo_aload_n rfl rfl dX6_readValue_38 ?_
    refine xo_geti dX6_readValue_39 cl_7 fl_RX6_90 rfl (fun v2 => ?_)
    refine xo_iconst kc_m1 dX6_readValue_42 ?_
    refine xo_icmp_ne (tgt := 51) dX6_readValue_43 rfl (fun _ => ?_) (fun _ => ?_)
    · refine xo_aload_n rfl rfl dX6_readValue_46 ?_
      refine xo_iconst kc_1 dX6_readValue_47 ?_
      refine mk_O.callV (N := M_X8_fail) (ci := 7) (q := (RX8, TX8, 7)) (b := x1) (As1 := [.int (1 : Int32)]) (S := []) md_X8_fail mv_X8_fail lk_RX6_76 rfl (Nat.le_of_ble_eq_true rfl) (by decide) dX6_readValue_48 rfl rfl rfl (fun z hz => (c_X8_fail x1 (1 : Int32) t z hz).1) (fun z hz => (c_X8_fail x1 (1 : Int32) t z hz).2) (fun z3 _ => ?_)
      show mk_O _ _ _ _ [] _ _
      exact mk_O.wk (o_X6_readValue_51 x0 x1 x2 z3.2) ⟨rfl, ⟨rfl, ⟨rfl, trivial⟩⟩⟩
    · exact mk_O.wk (o_X6_readValue_51 x0 x1 x2 t) ⟨rfl, ⟨rfl, ⟨rfl, trivial⟩⟩⟩
  · exact mk_O.wk (o_X6_readValue_51 x0 x1 x2 t) ⟨rfl, ⟨rfl, ⟨rfl, trivial⟩⟩⟩
theorem p_X6_readValue (x0 : Nat) (x1 : Nat) (x2 : Nat) (t : mk_S) : mk_O mk_wu M_X6_readValue 0 [some (.ref x0), some (.ref x1), some (.ref x2)] [] t ((mk_gi t x1 7 4).bind fun v1 => if v1 = (256 : Int32) then (B_X6_readValue_28 x0 x1 x2 t) else ((mk_gi t x1 7 4).bind fun v2 => (F_X5_isWord v2 t).bind fun z3 => if z3.1 = 0 then ((F_X8_fail x1 (0 : Int32) z3.2).bind fun z4 => B_X6_readValue_51 x0 x1 x2 z4.2) else (B_X6_readValue_28 x0 x1 x2 z3.2))) := by
  refine xo_aload_n rfl rfl dX6_readValue_0 ?_
  refine xo_geti dX6_readValue_1 cl_7 fl_RX6_73 rfl (fun v1 => ?_)
  refine xo_sipush ks_256 dX6_readValue_4 ?_
  refine xo_icmp_eq (tgt := 28) dX6_readValue_7 rfl (fun _ => ?_) (fun _ => ?_)
  · exact mk_O.wk (o_X6_readValue_28 x0 x1 x2 t) ⟨rfl, ⟨rfl, ⟨rfl, trivial⟩⟩⟩
  · refine xo_aload_n rfl rfl dX6_readValue_10 ?_
    refine xo_geti dX6_readValue_11 cl_7 fl_RX6_73 rfl (fun v2 => ?_)
    refine mk_O.callS (N := M_X5_isWord) (As := [.int v2]) (S := []) md_X5_isWord ms_X5_isWord lk_RX6_86 rfl (Nat.le_of_ble_eq_true rfl) (by decide) dX6_readValue_14 rfl (fun z hz => c_X5_isWord v2 t z hz) (fun z3 _ => ?_)
    show mk_O _ _ _ _ (.int z3.1 :: []) _ _
    refine xo_if_ne (tgt := 28) dX6_readValue_17 rfl (fun _ => ?_) (fun _ => ?_)
    · refine xo_aload_n rfl rfl dX6_readValue_20 ?_
      refine xo_iconst kc_0 dX6_readValue_21 ?_
      refine mk_O.callV (N := M_X8_fail) (ci := 7) (q := (RX8, TX8, 7)) (b := x1) (As1 := [.int (0 : Int32)]) (S := []) md_X8_fail mv_X8_fail lk_RX6_76 rfl (Nat.le_of_ble_eq_true rfl) (by decide) dX6_readValue_22 rfl rfl rfl (fun z hz => (c_X8_fail x1 (0 : Int32) z3.2 z hz).1) (fun z hz => (c_X8_fail x1 (0 : Int32) z3.2 z hz).2) (fun z4 _ => ?_)
      show mk_O _ _ _ _ [] _ _
      refine xo_goto (tgt := 51) dX6_readValue_25 rfl ?_
      exact mk_O.wk (o_X6_readValue_51 x0 x1 x2 z4.2) ⟨rfl, ⟨rfl, ⟨rfl, trivial⟩⟩⟩
    · exact mk_O.wk (o_X6_readValue_28 x0 x1 x2 z3.2) ⟨rfl, ⟨rfl, ⟨rfl, trivial⟩⟩⟩
theorem c_X6_readValue (x0 : Nat) (x1 : Nat) (x2 : Nat) (t : mk_S) (z : Unit × mk_S) (h : F_X6_readValue x0 x1 x2 t = some z) : mk_is t x0 5 ∧ mk_Ct M_X6_readValue [.ref x0, .ref x1, .ref x2] t (mk_wu z.1, z.2) :=
  ⟨(mk_gd_spec h).1, mk_ct (w := mk_wu) (by decide +kernel) (Nat.le_of_ble_eq_true rfl) (p_X6_readValue x0 x1 x2 t) z (mk_gd_spec h).2⟩
def F_X6_push (x0 : Nat) (x1 : Int32) (t : mk_S) : Option (Unit × mk_S) := mk_gd t x0 5 ((mk_gi t x0 5 1).bind fun v1 => if (400 : Int32) ≤ v1 then (some ((), t)) else ((mk_ga t x0 5 0).bind fun v2 => (mk_gi t x0 5 1).bind fun v3 => (mk_st 100 t v2 v3 x1).bind fun t4 => (mk_gi t4 x0 5 1).bind fun v5 => (mk_pi t4 x0 5 1 (v5 + (1 : Int32))).bind fun t6 => some ((), t6)))
theorem p_X6_push (x0 : Nat) (x1 : Int32) (t : mk_S) : mk_O mk_wu M_X6_push 0 [some (.ref x0), some (.int x1)] [] t ((mk_gi t x0 5 1).bind fun v1 => if (400 : Int32) ≤ v1 then (some ((), t)) else ((mk_ga t x0 5 0).bind fun v2 => (mk_gi t x0 5 1).bind fun v3 => (mk_st 100 t v2 v3 x1).bind fun t4 => (mk_gi t4 x0 5 1).bind fun v5 => (mk_pi t4 x0 5 1 (v5 + (1 : Int32))).bind fun t6 => some ((), t6))) := by
  refine xo_aload_n rfl rfl dX6_push_0 ?_
  refine xo_geti dX6_push_1 cl_5 fl_RX6_15 rfl (fun v1 => ?_)
  refine xo_sipush ks_400 dX6_push_4 ?_
  refine xo_icmp_ge (tgt := 30) dX6_push_7 rfl (fun _ => ?_) (fun _ => ?_)
  · exact xo_vret dX6_push_30 rfl
  · refine xo_aload_n rfl rfl dX6_push_10 ?_
    refine xo_geta dX6_push_11 cl_5 fl_RX6_9 rfl (fun v2 => ?_)
    refine xo_aload_n rfl rfl dX6_push_14 ?_
    refine xo_geti dX6_push_15 cl_5 fl_RX6_15 rfl (fun v3 => ?_)
    refine xo_iload_n rfl rfl dX6_push_18 ?_
    refine xo_iast dX6_push_19 (fun t4 => ?_)
    refine xo_aload_n rfl rfl dX6_push_20 ?_
    refine xo_dup rfl dX6_push_21 ?_
    refine xo_geti dX6_push_22 cl_5 fl_RX6_15 rfl (fun v5 => ?_)
    refine xo_iconst kc_1 dX6_push_25 ?_
    refine xo_iadd dX6_push_26 ?_
    refine xo_puti dX6_push_27 cl_5 fl_RX6_15 rfl ft_5_1 (fun t6 => ?_)
    exact xo_vret dX6_push_30 rfl
theorem c_X6_push (x0 : Nat) (x1 : Int32) (t : mk_S) (z : Unit × mk_S) (h : F_X6_push x0 x1 t = some z) : mk_is t x0 5 ∧ mk_Ct M_X6_push [.ref x0, .int x1] t (mk_wu z.1, z.2) :=
  ⟨(mk_gd_spec h).1, mk_ct (w := mk_wu) (by decide +kernel) (Nat.le_of_ble_eq_true rfl) (p_X6_push x0 x1 t) z (mk_gd_spec h).2⟩
def B_X6_readFact_33 (x0 : Nat) (x1 : Nat) (t : mk_S) : Option (Unit × mk_S) := (mk_gi t x0 5 2).bind fun v1 => if v1 < (10 : Int32) then ((mk_gi t x0 5 2).bind fun v2 => (mk_pi t x0 5 2 (v2 + (1 : Int32))).bind fun t3 => (mk_gi t3 x1 7 4).bind fun v4 => (F_X6_push x0 v4 t3).bind fun z5 => some ((), z5.2)) else ((F_X8_fail x1 (2 : Int32) t).bind fun z6 => some ((), z6.2))
def F_X6_readFact (x0 : Nat) (x1 : Nat) (x2 : Nat) (t : mk_S) : Option (Unit × mk_S) := mk_gd t x0 5 ((mk_gi t x1 7 4).bind fun v1 => if v1 = (91 : Int32) then (B_X6_readFact_33 x0 x1 t) else ((mk_gi t x1 7 4).bind fun v2 => if v2 = (315 : Int32) then (B_X6_readFact_33 x0 x1 t) else ((mk_pi t x0 5 5 (1 : Int32)).bind fun t3 => (F_X6_readValue x0 x1 x2 t3).bind fun z4 => some ((), z4.2))))
theorem o_X6_readFact_33 (x0 : Nat) (x1 : Nat) (t : mk_S) : mk_O mk_wu M_X6_readFact 33 [some (.ref x0), some (.ref x1), none] [] t (B_X6_readFact_33 x0 x1 t) := by
  unfold B_X6_readFact_33
  refine xo_aload_n rfl rfl dX6_readFact_33 ?_
  refine xo_geti dX6_readFact_34 cl_5 fl_RX6_19 rfl (fun v1 => ?_)
  refine xo_bipush kb_10 dX6_readFact_37 ?_
  refine xo_icmp_lt (tgt := 50) dX6_readFact_39 rfl (fun _ => ?_) (fun _ => ?_)
  · refine xo_aload_n rfl rfl dX6_readFact_50 ?_
    refine xo_dup rfl dX6_readFact_51 ?_
    refine xo_geti dX6_readFact_52 cl_5 fl_RX6_19 rfl (fun v2 => ?_)
    refine xo_iconst kc_1 dX6_readFact_55 ?_
    refine xo_iadd dX6_readFact_56 ?_
    refine xo_puti dX6_readFact_57 cl_5 fl_RX6_19 rfl ft_5_2 (fun t3 => ?_)
    refine xo_aload_n rfl rfl dX6_readFact_60 ?_
    refine xo_aload_n rfl rfl dX6_readFact_61 ?_
    refine xo_geti dX6_readFact_62 cl_7 fl_RX6_73 rfl (fun v4 => ?_)
    refine mk_O.callV (N := M_X6_push) (ci := 5) (q := (RX6, TX6, 8)) (b := x0) (As1 := [.int v4]) (S := []) md_X6_push mv_X6_push lk_RX6_101 rfl (Nat.le_of_ble_eq_true rfl) (by decide) dX6_readFact_65 rfl rfl rfl (fun z hz => (c_X6_push x0 v4 t3 z hz).1) (fun z hz => (c_X6_push x0 v4 t3 z hz).2) (fun z5 _ => ?_)
    show mk_O _ _ _ _ [] _ _
    exact xo_vret dX6_readFact_68 rfl
  · refine xo_aload_n rfl rfl dX6_readFact_42 ?_
    refine xo_iconst kc_2 dX6_readFact_43 ?_
    refine mk_O.callV (N := M_X8_fail) (ci := 7) (q := (RX8, TX8, 7)) (b := x1) (As1 := [.int (2 : Int32)]) (S := []) md_X8_fail mv_X8_fail lk_RX6_76 rfl (Nat.le_of_ble_eq_true rfl) (by decide) dX6_readFact_44 rfl rfl rfl (fun z hz => (c_X8_fail x1 (2 : Int32) t z hz).1) (fun z hz => (c_X8_fail x1 (2 : Int32) t z hz).2) (fun z6 _ => ?_)
    show mk_O _ _ _ _ [] _ _
    refine xo_goto (tgt := 68) dX6_readFact_47 rfl ?_
    exact xo_vret dX6_readFact_68 rfl
theorem p_X6_readFact (x0 : Nat) (x1 : Nat) (x2 : Nat) (t : mk_S) : mk_O mk_wu M_X6_readFact 0 [some (.ref x0), some (.ref x1), some (.ref x2)] [] t ((mk_gi t x1 7 4).bind fun v1 => if v1 = (91 : Int32) then (B_X6_readFact_33 x0 x1 t) else ((mk_gi t x1 7 4).bind fun v2 => if v2 = (315 : Int32) then (B_X6_readFact_33 x0 x1 t) else ((mk_pi t x0 5 5 (1 : Int32)).bind fun t3 => (F_X6_readValue x0 x1 x2 t3).bind fun z4 => some ((), z4.2)))) := by
  refine xo_aload_n rfl rfl dX6_readFact_0 ?_
  refine xo_geti dX6_readFact_1 cl_7 fl_RX6_73 rfl (fun v1 => ?_)
  refine xo_bipush kb_91 dX6_readFact_4 ?_
  refine xo_icmp_eq (tgt := 33) dX6_readFact_6 rfl (fun _ => ?_) (fun _ => ?_)
  · exact mk_O.wk (o_X6_readFact_33 x0 x1 t) ⟨rfl, ⟨rfl, trivial⟩⟩
  · refine xo_aload_n rfl rfl dX6_readFact_9 ?_
    refine xo_geti dX6_readFact_10 cl_7 fl_RX6_73 rfl (fun v2 => ?_)
    refine xo_sipush ks_315 dX6_readFact_13 ?_
    refine xo_icmp_eq (tgt := 33) dX6_readFact_16 rfl (fun _ => ?_) (fun _ => ?_)
    · exact mk_O.wk (o_X6_readFact_33 x0 x1 t) ⟨rfl, ⟨rfl, trivial⟩⟩
    · refine xo_aload_n rfl rfl dX6_readFact_19 ?_
      refine xo_iconst kc_1 dX6_readFact_20 ?_
      refine xo_puti dX6_readFact_21 cl_5 fl_RX6_28 rfl ft_5_5 (fun t3 => ?_)
      refine xo_aload_n rfl rfl dX6_readFact_24 ?_
      refine xo_aload_n rfl rfl dX6_readFact_25 ?_
      refine xo_aload_n rfl rfl dX6_readFact_26 ?_
      refine mk_O.callV (N := M_X6_readValue) (ci := 5) (q := (RX6, TX6, 8)) (b := x0) (As1 := [.ref x1, .ref x2]) (S := []) md_X6_readValue mv_X6_readValue lk_RX6_64 rfl (Nat.le_of_ble_eq_true rfl) (by decide) dX6_readFact_27 rfl rfl rfl (fun z hz => (c_X6_readValue x0 x1 x2 t3 z hz).1) (fun z hz => (c_X6_readValue x0 x1 x2 t3 z hz).2) (fun z4 _ => ?_)
      show mk_O _ _ _ _ [] _ _
      refine xo_goto (tgt := 68) dX6_readFact_30 rfl ?_
      exact xo_vret dX6_readFact_68 rfl
theorem c_X6_readFact (x0 : Nat) (x1 : Nat) (x2 : Nat) (t : mk_S) (z : Unit × mk_S) (h : F_X6_readFact x0 x1 x2 t = some z) : mk_is t x0 5 ∧ mk_Ct M_X6_readFact [.ref x0, .ref x1, .ref x2] t (mk_wu z.1, z.2) :=
  ⟨(mk_gd_spec h).1, mk_ct (w := mk_wu) (by decide +kernel) (Nat.le_of_ble_eq_true rfl) (p_X6_readFact x0 x1 x2 t) z (mk_gd_spec h).2⟩
def F_X6_bindingOf (x0 : Int32) (t : mk_S) : Option (Int32 × mk_S) := if x0 = (37 : Int32) then (some ((6 : Int32), t)) else (if x0 = (42 : Int32) then (some ((6 : Int32), t)) else (if x0 = (43 : Int32) then (some ((5 : Int32), t)) else (if x0 = (45 : Int32) then (some ((5 : Int32), t)) else (if x0 = (47 : Int32) then (some ((6 : Int32), t)) else (if x0 = (60 : Int32) then (some ((4 : Int32), t)) else (if x0 = (61 : Int32) then (some ((4 : Int32), t)) else (if x0 = (62 : Int32) then (some ((4 : Int32), t)) else (if x0 = (257 : Int32) then (some ((4 : Int32), t)) else (if x0 = (258 : Int32) then (some ((4 : Int32), t)) else (if x0 = (313 : Int32) then (some ((2 : Int32), t)) else (if x0 = (314 : Int32) then (some ((1 : Int32), t)) else (if x0 = (315 : Int32) then (some ((3 : Int32), t)) else (some ((0 : Int32), t))))))))))))))
theorem p_X6_bindingOf (x0 : Int32) (t : mk_S) : mk_O mk_wi M_X6_bindingOf 0 [some (.int x0)] [] t (if x0 = (37 : Int32) then (some ((6 : Int32), t)) else (if x0 = (42 : Int32) then (some ((6 : Int32), t)) else (if x0 = (43 : Int32) then (some ((5 : Int32), t)) else (if x0 = (45 : Int32) then (some ((5 : Int32), t)) else (if x0 = (47 : Int32) then (some ((6 : Int32), t)) else (if x0 = (60 : Int32) then (some ((4 : Int32), t)) else (if x0 = (61 : Int32) then (some ((4 : Int32), t)) else (if x0 = (62 : Int32) then (some ((4 : Int32), t)) else (if x0 = (257 : Int32) then (some ((4 : Int32), t)) else (if x0 = (258 : Int32) then (some ((4 : Int32), t)) else (if x0 = (313 : Int32) then (some ((2 : Int32), t)) else (if x0 = (314 : Int32) then (some ((1 : Int32), t)) else (if x0 = (315 : Int32) then (some ((3 : Int32), t)) else (some ((0 : Int32), t))))))))))))))) := by
  refine xo_iload_n rfl rfl dX6_bindingOf_0 ?_
  refine mk_O.cs (fun n0 => ?_) (fun n0 => ?_)
  · refine xo_look (off := 125) dX6_bindingOf_1 rfl (by rw [n0]; decide) rfl ?_
    refine xo_bipush kb_6 dX6_bindingOf_126 ?_
    exact xo_iret dX6_bindingOf_128 rfl
  · refine mk_O.cs (fun n1 => ?_) (fun n1 => ?_)
    · refine xo_look (off := 125) dX6_bindingOf_1 rfl (by rw [n1]; decide) rfl ?_
      refine xo_bipush kb_6 dX6_bindingOf_126 ?_
      exact xo_iret dX6_bindingOf_128 rfl
    · refine mk_O.cs (fun n2 => ?_) (fun n2 => ?_)
      · refine xo_look (off := 123) dX6_bindingOf_1 rfl (by rw [n2]; decide) rfl ?_
        refine xo_iconst kc_5 dX6_bindingOf_124 ?_
        exact xo_iret dX6_bindingOf_125 rfl
      · refine mk_O.cs (fun n3 => ?_) (fun n3 => ?_)
        · refine xo_look (off := 123) dX6_bindingOf_1 rfl (by rw [n3]; decide) rfl ?_
          refine xo_iconst kc_5 dX6_bindingOf_124 ?_
          exact xo_iret dX6_bindingOf_125 rfl
        · refine mk_O.cs (fun n4 => ?_) (fun n4 => ?_)
          · refine xo_look (off := 125) dX6_bindingOf_1 rfl (by rw [n4]; decide) rfl ?_
            refine xo_bipush kb_6 dX6_bindingOf_126 ?_
            exact xo_iret dX6_bindingOf_128 rfl
          · refine mk_O.cs (fun n5 => ?_) (fun n5 => ?_)
            · refine xo_look (off := 121) dX6_bindingOf_1 rfl (by rw [n5]; decide) rfl ?_
              refine xo_iconst kc_4 dX6_bindingOf_122 ?_
              exact xo_iret dX6_bindingOf_123 rfl
            · refine mk_O.cs (fun n6 => ?_) (fun n6 => ?_)
              · refine xo_look (off := 121) dX6_bindingOf_1 rfl (by rw [n6]; decide) rfl ?_
                refine xo_iconst kc_4 dX6_bindingOf_122 ?_
                exact xo_iret dX6_bindingOf_123 rfl
              · refine mk_O.cs (fun n7 => ?_) (fun n7 => ?_)
                · refine xo_look (off := 121) dX6_bindingOf_1 rfl (by rw [n7]; decide) rfl ?_
                  refine xo_iconst kc_4 dX6_bindingOf_122 ?_
                  exact xo_iret dX6_bindingOf_123 rfl
                · refine mk_O.cs (fun n8 => ?_) (fun n8 => ?_)
                  · refine xo_look (off := 121) dX6_bindingOf_1 rfl (by rw [n8]; decide) rfl ?_
                    refine xo_iconst kc_4 dX6_bindingOf_122 ?_
                    exact xo_iret dX6_bindingOf_123 rfl
                  · refine mk_O.cs (fun n9 => ?_) (fun n9 => ?_)
                    · refine xo_look (off := 121) dX6_bindingOf_1 rfl (by rw [n9]; decide) rfl ?_
                      refine xo_iconst kc_4 dX6_bindingOf_122 ?_
                      exact xo_iret dX6_bindingOf_123 rfl
                    · refine mk_O.cs (fun n10 => ?_) (fun n10 => ?_)
                      · refine xo_look (off := 117) dX6_bindingOf_1 rfl (by rw [n10]; decide) rfl ?_
                        refine xo_iconst kc_2 dX6_bindingOf_118 ?_
                        exact xo_iret dX6_bindingOf_119 rfl
                      · refine mk_O.cs (fun n11 => ?_) (fun n11 => ?_)
                        · refine xo_look (off := 115) dX6_bindingOf_1 rfl (by rw [n11]; decide) rfl ?_
                          refine xo_iconst kc_1 dX6_bindingOf_116 ?_
                          exact xo_iret dX6_bindingOf_117 rfl
                        · refine mk_O.cs (fun n12 => ?_) (fun n12 => ?_)
                          · refine xo_look (off := 119) dX6_bindingOf_1 rfl (by rw [n12]; decide) rfl ?_
                            refine xo_iconst kc_3 dX6_bindingOf_120 ?_
                            exact xo_iret dX6_bindingOf_121 rfl
                          · refine xo_look (off := 128) dX6_bindingOf_1 rfl ((lv_osw n0 (by decide)).trans ((lv_osw n1 (by decide)).trans ((lv_osw n2 (by decide)).trans ((lv_osw n3 (by decide)).trans ((lv_osw n4 (by decide)).trans ((lv_osw n5 (by decide)).trans ((lv_osw n6 (by decide)).trans ((lv_osw n7 (by decide)).trans ((lv_osw n8 (by decide)).trans ((lv_osw n9 (by decide)).trans ((lv_osw n10 (by decide)).trans ((lv_osw n11 (by decide)).trans ((lv_osw n12 (by decide)).trans (rfl)))))))))))))) rfl ?_
                            refine xo_iconst kc_0 dX6_bindingOf_129 ?_
                            exact xo_iret dX6_bindingOf_130 rfl
theorem c_X6_bindingOf (x0 : Int32) (t : mk_S) (z : Int32 × mk_S) (h : F_X6_bindingOf x0 t = some z) : mk_Ct M_X6_bindingOf [.int x0] t (mk_wi z.1, z.2) :=
  mk_ct (w := mk_wi) (by decide +kernel) (Nat.le_of_ble_eq_true rfl) (p_X6_bindingOf x0 t) z h
def B_X6_release_74 (k0 : Nat → Int32 → Nat → mk_S → Option (Unit × mk_S)) (x0 : Nat) (x1 : Int32) (x2 : Nat) (s0 : Nat) (s1 : Int32) (s2 : Int32) (t : mk_S) : Option (Unit × mk_S) := (mk_pi t s0 5 2 (s1 - s2)).bind fun t1 => k0 x0 x1 x2 t1
def B_X6_release_0 : Nat → Nat → Int32 → Nat → mk_S → Option (Unit × mk_S)
  | 0, _, _, _, _ => none
  | n + 1, x0, x1, x2, t => (mk_gi t x0 5 1).bind fun v1 => if v1 ≤ 0 then (some ((), t)) else ((mk_ga t x0 5 0).bind fun v2 => (mk_gi t x0 5 1).bind fun v3 => (mk_ld 100 t v2 (v3 - (1 : Int32))).bind fun v4 => (F_X6_bindingOf v4 t).bind fun z5 => if z5.1 < x1 then (some ((), z5.2)) else ((mk_gi z5.2 x0 5 1).bind fun v6 => (mk_pi z5.2 x0 5 1 (v6 - (1 : Int32))).bind fun t7 => (mk_ga t7 x0 5 0).bind fun v8 => (mk_gi t7 x0 5 1).bind fun v9 => (mk_ld 100 t7 v8 v9).bind fun v10 => (F_X5_add x2 v10 (0 : Int32) t7).bind fun z11 => (mk_gi z11.2 x0 5 2).bind fun v12 => (mk_ga z11.2 x0 5 0).bind fun v13 => (mk_gi z11.2 x0 5 1).bind fun v14 => (mk_ld 100 z11.2 v13 v14).bind fun v15 => if v15 = (315 : Int32) then (B_X6_release_74 (B_X6_release_0 n) x0 x1 x2 x0 v12 (1 : Int32) z11.2) else (B_X6_release_74 (B_X6_release_0 n) x0 x1 x2 x0 v12 (0 : Int32) z11.2)))
def F_X6_release (x0 : Nat) (x1 : Int32) (x2 : Nat) (t : mk_S) : Option (Unit × mk_S) := mk_gd t x0 5 (B_X6_release_0 mk_fu x0 x1 x2 t)
theorem o_X6_release_74 (k0 : Nat → Int32 → Nat → mk_S → Option (Unit × mk_S)) (h0 : ∀ (x0 : Nat) (x1 : Int32) (x2 : Nat) (t : mk_S), mk_O mk_wu M_X6_release 0 [some (.ref x0), some (.int x1), some (.ref x2)] [] t (k0 x0 x1 x2 t)) (x0 : Nat) (x1 : Int32) (x2 : Nat) (s0 : Nat) (s1 : Int32) (s2 : Int32) (t : mk_S) : mk_O mk_wu M_X6_release 74 [some (.ref x0), some (.int x1), some (.ref x2)] [.int s2, .int s1, .ref s0] t (B_X6_release_74 k0 x0 x1 x2 s0 s1 s2 t) := by
  unfold B_X6_release_74
  refine xo_isub dX6_release_74 ?_
  refine xo_puti dX6_release_75 cl_5 fl_RX6_19 rfl ft_5_2 (fun t1 => ?_)
  refine xo_goto (tgt := 0) dX6_release_78 rfl ?_
  exact mk_O.wk (h0 x0 x1 x2 t1) ⟨rfl, ⟨rfl, ⟨rfl, trivial⟩⟩⟩
theorem o_X6_release_0 : ∀ (n : Nat) (x0 : Nat) (x1 : Int32) (x2 : Nat) (t : mk_S), mk_O mk_wu M_X6_release 0 [some (.ref x0), some (.int x1), some (.ref x2)] [] t (B_X6_release_0 n x0 x1 x2 t) := by
  intro n
  induction n with
  | zero =>
    intro x0 x1 x2 t
    exact mk_O.none
  | succ n ih =>
    intro x0 x1 x2 t
    rw [B_X6_release_0]
    refine xo_aload_n rfl rfl dX6_release_0 ?_
    refine xo_geti dX6_release_1 cl_5 fl_RX6_15 rfl (fun v1 => ?_)
    refine xo_if_le (tgt := 81) dX6_release_4 rfl (fun _ => ?_) (fun _ => ?_)
    · exact xo_vret dX6_release_81 rfl
    · refine xo_aload_n rfl rfl dX6_release_7 ?_
      refine xo_geta dX6_release_8 cl_5 fl_RX6_9 rfl (fun v2 => ?_)
      refine xo_aload_n rfl rfl dX6_release_11 ?_
      refine xo_geti dX6_release_12 cl_5 fl_RX6_15 rfl (fun v3 => ?_)
      refine xo_iconst kc_1 dX6_release_15 ?_
      refine xo_isub dX6_release_16 ?_
      refine xo_iald dX6_release_17 (fun v4 => ?_)
      refine mk_O.callS (N := M_X6_bindingOf) (As := [.int v4]) (S := []) md_X6_bindingOf ms_X6_bindingOf lk_RX6_104 rfl (Nat.le_of_ble_eq_true rfl) (by decide) dX6_release_18 rfl (fun z hz => c_X6_bindingOf v4 t z hz) (fun z5 _ => ?_)
      show mk_O _ _ _ _ (.int z5.1 :: []) _ _
      refine xo_iload_n rfl rfl dX6_release_21 ?_
      refine xo_icmp_lt (tgt := 81) dX6_release_22 rfl (fun _ => ?_) (fun _ => ?_)
      · exact xo_vret dX6_release_81 rfl
      · refine xo_aload_n rfl rfl dX6_release_25 ?_
        refine xo_dup rfl dX6_release_26 ?_
        refine xo_geti dX6_release_27 cl_5 fl_RX6_15 rfl (fun v6 => ?_)
        refine xo_iconst kc_1 dX6_release_30 ?_
        refine xo_isub dX6_release_31 ?_
        refine xo_puti dX6_release_32 cl_5 fl_RX6_15 rfl ft_5_1 (fun t7 => ?_)
        refine xo_aload_n rfl rfl dX6_release_35 ?_
        refine xo_aload_n rfl rfl dX6_release_36 ?_
        refine xo_geta dX6_release_37 cl_5 fl_RX6_9 rfl (fun v8 => ?_)
        refine xo_aload_n rfl rfl dX6_release_40 ?_
        refine xo_geti dX6_release_41 cl_5 fl_RX6_15 rfl (fun v9 => ?_)
        refine xo_iald dX6_release_44 (fun v10 => ?_)
        refine xo_iconst kc_0 dX6_release_45 ?_
        refine mk_O.callV (N := M_X5_add) (ci := 4) (q := (RX5, TX5, 8)) (b := x2) (As1 := [.int v10, .int (0 : Int32)]) (S := []) md_X5_add mv_X5_add lk_RX6_97 rfl (Nat.le_of_ble_eq_true rfl) (by decide) dX6_release_46 rfl rfl rfl (fun z hz => (c_X5_add x2 v10 (0 : Int32) t7 z hz).1) (fun z hz => (c_X5_add x2 v10 (0 : Int32) t7 z hz).2) (fun z11 _ => ?_)
        show mk_O _ _ _ _ [] _ _
        refine xo_aload_n rfl rfl dX6_release_49 ?_
        refine xo_dup rfl dX6_release_50 ?_
        refine xo_geti dX6_release_51 cl_5 fl_RX6_19 rfl (fun v12 => ?_)
        refine xo_aload_n rfl rfl dX6_release_54 ?_
        refine xo_geta dX6_release_55 cl_5 fl_RX6_9 rfl (fun v13 => ?_)
        refine xo_aload_n rfl rfl dX6_release_58 ?_
        refine xo_geti dX6_release_59 cl_5 fl_RX6_15 rfl (fun v14 => ?_)
        refine xo_iald dX6_release_62 (fun v15 => ?_)
        refine xo_sipush ks_315 dX6_release_63 ?_
        refine xo_icmp_ne (tgt := 73) dX6_release_66 rfl (fun _ => ?_) (fun _ => ?_)
        · refine xo_iconst kc_1 dX6_release_69 ?_
          refine xo_goto (tgt := 74) dX6_release_70 rfl ?_
          exact mk_O.wk (o_X6_release_74 _ ih x0 x1 x2 x0 v12 (1 : Int32) z11.2) ⟨rfl, ⟨rfl, ⟨rfl, trivial⟩⟩⟩
        · refine xo_iconst kc_0 dX6_release_73 ?_
          exact mk_O.wk (o_X6_release_74 _ ih x0 x1 x2 x0 v12 (0 : Int32) z11.2) ⟨rfl, ⟨rfl, ⟨rfl, trivial⟩⟩⟩
theorem p_X6_release (x0 : Nat) (x1 : Int32) (x2 : Nat) (t : mk_S) : mk_O mk_wu M_X6_release 0 [some (.ref x0), some (.int x1), some (.ref x2)] [] t (B_X6_release_0 mk_fu x0 x1 x2 t) := by
  exact mk_O.wk (o_X6_release_0 mk_fu x0 x1 x2 t) ⟨rfl, ⟨rfl, ⟨rfl, trivial⟩⟩⟩
theorem c_X6_release (x0 : Nat) (x1 : Int32) (x2 : Nat) (t : mk_S) (z : Unit × mk_S) (h : F_X6_release x0 x1 x2 t = some z) : mk_is t x0 5 ∧ mk_Ct M_X6_release [.ref x0, .int x1, .ref x2] t (mk_wu z.1, z.2) :=
  ⟨(mk_gd_spec h).1, mk_ct (w := mk_wu) (by decide +kernel) (Nat.le_of_ble_eq_true rfl) (p_X6_release x0 x1 x2 t) z (mk_gd_spec h).2⟩
def F_X6_join (x0 : Nat) (x1 : Int32) (x2 : Nat) (t : mk_S) : Option (Unit × mk_S) := mk_gd t x0 5 ((F_X6_bindingOf x1 t).bind fun z1 => (F_X6_release x0 z1.1 x2 z1.2).bind fun z2 => (F_X6_push x0 x1 z2.2).bind fun z3 => some ((), z3.2))
theorem p_X6_join (x0 : Nat) (x1 : Int32) (x2 : Nat) (t : mk_S) : mk_O mk_wu M_X6_join 0 [some (.ref x0), some (.int x1), some (.ref x2)] [] t ((F_X6_bindingOf x1 t).bind fun z1 => (F_X6_release x0 z1.1 x2 z1.2).bind fun z2 => (F_X6_push x0 x1 z2.2).bind fun z3 => some ((), z3.2)) := by
  refine xo_aload_n rfl rfl dX6_join_0 ?_
  refine xo_iload_n rfl rfl dX6_join_1 ?_
  refine mk_O.callS (N := M_X6_bindingOf) (As := [.int x1]) (S := [.ref x0]) md_X6_bindingOf ms_X6_bindingOf lk_RX6_104 rfl (Nat.le_of_ble_eq_true rfl) (by decide) dX6_join_2 rfl (fun z hz => c_X6_bindingOf x1 t z hz) (fun z1 _ => ?_)
  show mk_O _ _ _ _ (.int z1.1 :: [.ref x0]) _ _
  refine xo_aload_n rfl rfl dX6_join_5 ?_
  refine mk_O.callV (N := M_X6_release) (ci := 5) (q := (RX6, TX6, 8)) (b := x0) (As1 := [.int z1.1, .ref x2]) (S := []) md_X6_release mv_X6_release lk_RX6_115 rfl (Nat.le_of_ble_eq_true rfl) (by decide) dX6_join_6 rfl rfl rfl (fun z hz => (c_X6_release x0 z1.1 x2 z1.2 z hz).1) (fun z hz => (c_X6_release x0 z1.1 x2 z1.2 z hz).2) (fun z2 _ => ?_)
  show mk_O _ _ _ _ [] _ _
  refine xo_aload_n rfl rfl dX6_join_9 ?_
  refine xo_iload_n rfl rfl dX6_join_10 ?_
  refine mk_O.callV (N := M_X6_push) (ci := 5) (q := (RX6, TX6, 8)) (b := x0) (As1 := [.int x1]) (S := []) md_X6_push mv_X6_push lk_RX6_101 rfl (Nat.le_of_ble_eq_true rfl) (by decide) dX6_join_11 rfl rfl rfl (fun z hz => (c_X6_push x0 x1 z2.2 z hz).1) (fun z hz => (c_X6_push x0 x1 z2.2 z hz).2) (fun z3 _ => ?_)
  show mk_O _ _ _ _ [] _ _
  exact xo_vret dX6_join_14 rfl
theorem c_X6_join (x0 : Nat) (x1 : Int32) (x2 : Nat) (t : mk_S) (z : Unit × mk_S) (h : F_X6_join x0 x1 x2 t = some z) : mk_is t x0 5 ∧ mk_Ct M_X6_join [.ref x0, .int x1, .ref x2] t (mk_wu z.1, z.2) :=
  ⟨(mk_gd_spec h).1, mk_ct (w := mk_wu) (by decide +kernel) (Nat.le_of_ble_eq_true rfl) (p_X6_join x0 x1 x2 t) z (mk_gd_spec h).2⟩
def F_X6_closeBracket (x0 : Nat) (x1 : Nat) (x2 : Nat) (t : mk_S) : Option (Unit × mk_S) := mk_gd t x0 5 ((F_X6_release x0 (1 : Int32) x2 t).bind fun z1 => (mk_gi z1.2 x0 5 1).bind fun v2 => if v2 ≤ 0 then ((F_X8_fail x1 (0 : Int32) z1.2).bind fun z3 => some ((), z3.2)) else ((mk_gi z1.2 x0 5 1).bind fun v4 => (mk_pi z1.2 x0 5 1 (v4 - (1 : Int32))).bind fun t5 => (mk_gi t5 x0 5 2).bind fun v6 => (mk_pi t5 x0 5 2 (v6 - (1 : Int32))).bind fun t7 => (mk_pi t7 x0 5 5 (3 : Int32)).bind fun t8 => some ((), t8)))
theorem p_X6_closeBracket (x0 : Nat) (x1 : Nat) (x2 : Nat) (t : mk_S) : mk_O mk_wu M_X6_closeBracket 0 [some (.ref x0), some (.ref x1), some (.ref x2)] [] t ((F_X6_release x0 (1 : Int32) x2 t).bind fun z1 => (mk_gi z1.2 x0 5 1).bind fun v2 => if v2 ≤ 0 then ((F_X8_fail x1 (0 : Int32) z1.2).bind fun z3 => some ((), z3.2)) else ((mk_gi z1.2 x0 5 1).bind fun v4 => (mk_pi z1.2 x0 5 1 (v4 - (1 : Int32))).bind fun t5 => (mk_gi t5 x0 5 2).bind fun v6 => (mk_pi t5 x0 5 2 (v6 - (1 : Int32))).bind fun t7 => (mk_pi t7 x0 5 5 (3 : Int32)).bind fun t8 => some ((), t8))) := by
  refine xo_aload_n rfl rfl dX6_closeBracket_0 ?_
  refine xo_iconst kc_1 dX6_closeBracket_1 ?_
  refine xo_aload_n rfl rfl dX6_closeBracket_2 ?_
  refine mk_O.callV (N := M_X6_release) (ci := 5) (q := (RX6, TX6, 8)) (b := x0) (As1 := [.int (1 : Int32), .ref x2]) (S := []) md_X6_release mv_X6_release lk_RX6_115 rfl (Nat.le_of_ble_eq_true rfl) (by decide) dX6_closeBracket_3 rfl rfl rfl (fun z hz => (c_X6_release x0 (1 : Int32) x2 t z hz).1) (fun z hz => (c_X6_release x0 (1 : Int32) x2 t z hz).2) (fun z1 _ => ?_)
  show mk_O _ _ _ _ [] _ _
  refine xo_aload_n rfl rfl dX6_closeBracket_6 ?_
  refine xo_geti dX6_closeBracket_7 cl_5 fl_RX6_15 rfl (fun v2 => ?_)
  refine xo_if_le (tgt := 41) dX6_closeBracket_10 rfl (fun _ => ?_) (fun _ => ?_)
  · refine xo_aload_n rfl rfl dX6_closeBracket_41 ?_
    refine xo_iconst kc_0 dX6_closeBracket_42 ?_
    refine mk_O.callV (N := M_X8_fail) (ci := 7) (q := (RX8, TX8, 7)) (b := x1) (As1 := [.int (0 : Int32)]) (S := []) md_X8_fail mv_X8_fail lk_RX6_76 rfl (Nat.le_of_ble_eq_true rfl) (by decide) dX6_closeBracket_43 rfl rfl rfl (fun z hz => (c_X8_fail x1 (0 : Int32) z1.2 z hz).1) (fun z hz => (c_X8_fail x1 (0 : Int32) z1.2 z hz).2) (fun z3 _ => ?_)
    show mk_O _ _ _ _ [] _ _
    exact xo_vret dX6_closeBracket_46 rfl
  · refine xo_aload_n rfl rfl dX6_closeBracket_13 ?_
    refine xo_dup rfl dX6_closeBracket_14 ?_
    refine xo_geti dX6_closeBracket_15 cl_5 fl_RX6_15 rfl (fun v4 => ?_)
    refine xo_iconst kc_1 dX6_closeBracket_18 ?_
    refine xo_isub dX6_closeBracket_19 ?_
    refine xo_puti dX6_closeBracket_20 cl_5 fl_RX6_15 rfl ft_5_1 (fun t5 => ?_)
    refine xo_aload_n rfl rfl dX6_closeBracket_23 ?_
    refine xo_dup rfl dX6_closeBracket_24 ?_
    refine xo_geti dX6_closeBracket_25 cl_5 fl_RX6_19 rfl (fun v6 => ?_)
    refine xo_iconst kc_1 dX6_closeBracket_28 ?_
    refine xo_isub dX6_closeBracket_29 ?_
    refine xo_puti dX6_closeBracket_30 cl_5 fl_RX6_19 rfl ft_5_2 (fun t7 => ?_)
    refine xo_aload_n rfl rfl dX6_closeBracket_33 ?_
    refine xo_iconst kc_3 dX6_closeBracket_34 ?_
    refine xo_puti dX6_closeBracket_35 cl_5 fl_RX6_28 rfl ft_5_5 (fun t8 => ?_)
    refine xo_goto (tgt := 46) dX6_closeBracket_38 rfl ?_
    exact xo_vret dX6_closeBracket_46 rfl
theorem c_X6_closeBracket (x0 : Nat) (x1 : Nat) (x2 : Nat) (t : mk_S) (z : Unit × mk_S) (h : F_X6_closeBracket x0 x1 x2 t = some z) : mk_is t x0 5 ∧ mk_Ct M_X6_closeBracket [.ref x0, .ref x1, .ref x2] t (mk_wu z.1, z.2) :=
  ⟨(mk_gd_spec h).1, mk_ct (w := mk_wu) (by decide +kernel) (Nat.le_of_ble_eq_true rfl) (p_X6_closeBracket x0 x1 x2 t) z (mk_gd_spec h).2⟩
def B_X6_closeClause_41 (x0 : Nat) (x1 : Nat) (s0 : Nat) (s1 : Int32) (s2 : Int32) (t : mk_S) : Option (Unit × mk_S) := (F_X5_addClause s0 s1 s2 t).bind fun z1 => (mk_gi z1.2 x1 7 4).bind fun v2 => if v2 = (59 : Int32) then ((mk_pi z1.2 x0 5 4 (0 : Int32)).bind fun t3 => some ((), t3)) else ((mk_pi z1.2 x0 5 4 (4 : Int32)).bind fun t4 => some ((), t4))
def B_X6_closeClause_18 (x0 : Nat) (x1 : Nat) (x2 : Nat) (t : mk_S) : Option (Unit × mk_S) := (mk_gi t x0 5 6).bind fun v1 => (mk_gi t x0 5 5).bind fun v2 => if v2 = 0 then ((mk_gi t x2 4 2).bind fun v3 => B_X6_closeClause_41 x0 x1 x2 v1 v3 t) else ((mk_gi t x0 5 7).bind fun v4 => B_X6_closeClause_41 x0 x1 x2 v1 v4 t)
def F_X6_closeClause (x0 : Nat) (x1 : Nat) (x2 : Nat) (t : mk_S) : Option (Unit × mk_S) := mk_gd t x0 5 ((F_X6_release x0 (1 : Int32) x2 t).bind fun z1 => (mk_gi z1.2 x0 5 1).bind fun v2 => if v2 ≤ 0 then (B_X6_closeClause_18 x0 x1 x2 z1.2) else ((F_X8_fail x1 (0 : Int32) z1.2).bind fun z3 => B_X6_closeClause_18 x0 x1 x2 z3.2))
theorem o_X6_closeClause_41 (x0 : Nat) (x1 : Nat) (s0 : Nat) (s1 : Int32) (s2 : Int32) (t : mk_S) : mk_O mk_wu M_X6_closeClause 41 [some (.ref x0), some (.ref x1), none] [.int s2, .int s1, .ref s0] t (B_X6_closeClause_41 x0 x1 s0 s1 s2 t) := by
  unfold B_X6_closeClause_41
  refine mk_O.callV (N := M_X5_addClause) (ci := 4) (q := (RX5, TX5, 8)) (b := s0) (As1 := [.int s1, .int s2]) (S := []) md_X5_addClause mv_X5_addClause lk_RX6_121 rfl (Nat.le_of_ble_eq_true rfl) (by decide) dX6_closeClause_41 rfl rfl rfl (fun z hz => (c_X5_addClause s0 s1 s2 t z hz).1) (fun z hz => (c_X5_addClause s0 s1 s2 t z hz).2) (fun z1 _ => ?_)
  show mk_O _ _ _ _ [] _ _
  refine xo_aload_n rfl rfl dX6_closeClause_44 ?_
  refine xo_aload_n rfl rfl dX6_closeClause_45 ?_
  refine xo_geti dX6_closeClause_46 cl_7 fl_RX6_73 rfl (fun v2 => ?_)
  refine xo_bipush kb_59 dX6_closeClause_49 ?_
  refine xo_icmp_ne (tgt := 58) dX6_closeClause_51 rfl (fun _ => ?_) (fun _ => ?_)
  · refine xo_iconst kc_0 dX6_closeClause_54 ?_
    refine xo_goto (tgt := 59) dX6_closeClause_55 rfl ?_
    refine xo_puti dX6_closeClause_59 cl_5 fl_RX6_25 rfl ft_5_4 (fun t3 => ?_)
    exact xo_vret dX6_closeClause_62 rfl
  · refine xo_iconst kc_4 dX6_closeClause_58 ?_
    refine xo_puti dX6_closeClause_59 cl_5 fl_RX6_25 rfl ft_5_4 (fun t4 => ?_)
    exact xo_vret dX6_closeClause_62 rfl
theorem o_X6_closeClause_18 (x0 : Nat) (x1 : Nat) (x2 : Nat) (t : mk_S) : mk_O mk_wu M_X6_closeClause 18 [some (.ref x0), some (.ref x1), some (.ref x2)] [] t (B_X6_closeClause_18 x0 x1 x2 t) := by
  unfold B_X6_closeClause_18
  refine xo_aload_n rfl rfl dX6_closeClause_18 ?_
  refine xo_aload_n rfl rfl dX6_closeClause_19 ?_
  refine xo_geti dX6_closeClause_20 cl_5 fl_RX6_31 rfl (fun v1 => ?_)
  refine xo_aload_n rfl rfl dX6_closeClause_23 ?_
  refine xo_geti dX6_closeClause_24 cl_5 fl_RX6_28 rfl (fun v2 => ?_)
  refine xo_if_ne (tgt := 37) dX6_closeClause_27 rfl (fun _ => ?_) (fun _ => ?_)
  · refine xo_aload_n rfl rfl dX6_closeClause_30 ?_
    refine xo_geti dX6_closeClause_31 cl_4 fl_RX6_83 rfl (fun v3 => ?_)
    refine xo_goto (tgt := 41) dX6_closeClause_34 rfl ?_
    exact mk_O.wk (o_X6_closeClause_41 x0 x1 x2 v1 v3 t) ⟨rfl, ⟨rfl, trivial⟩⟩
  · refine xo_aload_n rfl rfl dX6_closeClause_37 ?_
    refine xo_geti dX6_closeClause_38 cl_5 fl_RX6_34 rfl (fun v4 => ?_)
    exact mk_O.wk (o_X6_closeClause_41 x0 x1 x2 v1 v4 t) ⟨rfl, ⟨rfl, trivial⟩⟩
theorem p_X6_closeClause (x0 : Nat) (x1 : Nat) (x2 : Nat) (t : mk_S) : mk_O mk_wu M_X6_closeClause 0 [some (.ref x0), some (.ref x1), some (.ref x2)] [] t ((F_X6_release x0 (1 : Int32) x2 t).bind fun z1 => (mk_gi z1.2 x0 5 1).bind fun v2 => if v2 ≤ 0 then (B_X6_closeClause_18 x0 x1 x2 z1.2) else ((F_X8_fail x1 (0 : Int32) z1.2).bind fun z3 => B_X6_closeClause_18 x0 x1 x2 z3.2)) := by
  refine xo_aload_n rfl rfl dX6_closeClause_0 ?_
  refine xo_iconst kc_1 dX6_closeClause_1 ?_
  refine xo_aload_n rfl rfl dX6_closeClause_2 ?_
  refine mk_O.callV (N := M_X6_release) (ci := 5) (q := (RX6, TX6, 8)) (b := x0) (As1 := [.int (1 : Int32), .ref x2]) (S := []) md_X6_release mv_X6_release lk_RX6_115 rfl (Nat.le_of_ble_eq_true rfl) (by decide) dX6_closeClause_3 rfl rfl rfl (fun z hz => (c_X6_release x0 (1 : Int32) x2 t z hz).1) (fun z hz => (c_X6_release x0 (1 : Int32) x2 t z hz).2) (fun z1 _ => ?_)
  show mk_O _ _ _ _ [] _ _
  refine xo_aload_n rfl rfl dX6_closeClause_6 ?_
  refine xo_geti dX6_closeClause_7 cl_5 fl_RX6_15 rfl (fun v2 => ?_)
  refine xo_if_le (tgt := 18) dX6_closeClause_10 rfl (fun _ => ?_) (fun _ => ?_)
  · exact mk_O.wk (o_X6_closeClause_18 x0 x1 x2 z1.2) ⟨rfl, ⟨rfl, ⟨rfl, trivial⟩⟩⟩
  · refine xo_aload_n rfl rfl dX6_closeClause_13 ?_
    refine xo_iconst kc_0 dX6_closeClause_14 ?_
    refine mk_O.callV (N := M_X8_fail) (ci := 7) (q := (RX8, TX8, 7)) (b := x1) (As1 := [.int (0 : Int32)]) (S := []) md_X8_fail mv_X8_fail lk_RX6_76 rfl (Nat.le_of_ble_eq_true rfl) (by decide) dX6_closeClause_15 rfl rfl rfl (fun z hz => (c_X8_fail x1 (0 : Int32) z1.2 z hz).1) (fun z hz => (c_X8_fail x1 (0 : Int32) z1.2 z hz).2) (fun z3 _ => ?_)
    show mk_O _ _ _ _ [] _ _
    exact mk_O.wk (o_X6_closeClause_18 x0 x1 x2 z3.2) ⟨rfl, ⟨rfl, ⟨rfl, trivial⟩⟩⟩
theorem c_X6_closeClause (x0 : Nat) (x1 : Nat) (x2 : Nat) (t : mk_S) (z : Unit × mk_S) (h : F_X6_closeClause x0 x1 x2 t = some z) : mk_is t x0 5 ∧ mk_Ct M_X6_closeClause [.ref x0, .ref x1, .ref x2] t (mk_wu z.1, z.2) :=
  ⟨(mk_gd_spec h).1, mk_ct (w := mk_wu) (by decide +kernel) (Nat.le_of_ble_eq_true rfl) (p_X6_closeClause x0 x1 x2 t) z (mk_gd_spec h).2⟩
def B_X6_readBehind_212 (x1 : Nat) (t : mk_S) : Option (Unit × mk_S) := (F_X8_fail x1 (0 : Int32) t).bind fun z1 => some ((), z1.2)
def B_X6_readBehind_190 (x0 : Nat) (x1 : Nat) (x2 : Nat) (x5 : Int32) (t : mk_S) : Option (Unit × mk_S) := if x5 = 0 then (B_X6_readBehind_212 x1 t) else ((mk_gi t x0 5 5).bind fun v1 => if v1 = (1 : Int32) then (B_X6_readBehind_212 x1 t) else ((F_X6_closeClause x0 x1 x2 t).bind fun z2 => some ((), z2.2)))
def B_X6_readBehind_154 (x0 : Nat) (x1 : Nat) (x2 : Nat) (x3 : Int32) (x5 : Int32) (t : mk_S) : Option (Unit × mk_S) := if x3 = (312 : Int32) then ((mk_gi t x0 5 5).bind fun v1 => if v1 = 0 then ((F_X6_release x0 (1 : Int32) x2 t).bind fun z2 => (mk_gi z2.2 x2 4 2).bind fun v3 => (mk_pi z2.2 x0 5 7 v3).bind fun t4 => (mk_pi t4 x0 5 4 (2 : Int32)).bind fun t5 => some ((), t5)) else (B_X6_readBehind_190 x0 x1 x2 x5 t)) else (B_X6_readBehind_190 x0 x1 x2 x5 t)
def B_X6_readBehind_131 (x0 : Nat) (x1 : Nat) (x2 : Nat) (x3 : Int32) (x5 : Int32) (t : mk_S) : Option (Unit × mk_S) := if x3 = (93 : Int32) then ((mk_gi t x0 5 5).bind fun v1 => if v1 < (2 : Int32) then (B_X6_readBehind_154 x0 x1 x2 x3 x5 t) else ((F_X6_closeBracket x0 x1 x2 t).bind fun z2 => some ((), z2.2))) else (B_X6_readBehind_154 x0 x1 x2 x3 x5 t)
def B_X6_readBehind_109 (x0 : Nat) (x1 : Nat) (x2 : Nat) (x3 : Int32) (x5 : Int32) (t : mk_S) : Option (Unit × mk_S) := (mk_gi t x0 5 5).bind fun v1 => if v1 < (2 : Int32) then (B_X6_readBehind_131 x0 x1 x2 x3 x5 t) else ((F_X6_join x0 x3 x2 t).bind fun z2 => (mk_pi z2.2 x0 5 4 (2 : Int32)).bind fun t3 => some ((), t3))
def B_X6_readBehind_95 (x0 : Nat) (x1 : Nat) (x2 : Nat) (x3 : Int32) (x5 : Int32) (t : mk_S) : Option (Unit × mk_S) := if x3 = (313 : Int32) then (B_X6_readBehind_109 x0 x1 x2 x3 x5 t) else (if x3 = (314 : Int32) then (B_X6_readBehind_109 x0 x1 x2 x3 x5 t) else (B_X6_readBehind_131 x0 x1 x2 x3 x5 t))
def B_X6_readBehind_57 (x0 : Nat) (x1 : Nat) (x2 : Nat) (x3 : Int32) (x4 : Int32) (x5 : Int32) (t : mk_S) : Option (Unit × mk_S) := if x4 = (4 : Int32) then ((mk_gi t x0 5 5).bind fun v1 => if v1 = (1 : Int32) then ((F_X6_countItem x0 x1 t).bind fun z2 => (F_X6_join x0 x3 x2 z2.2).bind fun z3 => (mk_pi z3.2 x0 5 5 (2 : Int32)).bind fun t4 => (mk_pi t4 x0 5 4 (1 : Int32)).bind fun t5 => some ((), t5)) else (B_X6_readBehind_95 x0 x1 x2 x3 x5 t)) else (B_X6_readBehind_95 x0 x1 x2 x3 x5 t)
def B_X6_readBehind_27 (x0 : Nat) (x1 : Nat) (x2 : Nat) (x3 : Int32) (x4 : Int32) (s0 : Int32) (t : mk_S) : Option (Unit × mk_S) := if x4 < (5 : Int32) then (B_X6_readBehind_57 x0 x1 x2 x3 x4 s0 t) else ((mk_gi t x0 5 5).bind fun v1 => if v1 = (3 : Int32) then (B_X6_readBehind_57 x0 x1 x2 x3 x4 s0 t) else ((F_X6_join x0 x3 x2 t).bind fun z2 => (mk_pi z2.2 x0 5 4 (1 : Int32)).bind fun t3 => some ((), t3)))
def B_X6_readBehind_22 (x0 : Nat) (x1 : Nat) (x2 : Nat) (x3 : Int32) (x4 : Int32) (t : mk_S) : Option (Unit × mk_S) := B_X6_readBehind_27 x0 x1 x2 x3 x4 (1 : Int32) t
def F_X6_readBehind (x0 : Nat) (x1 : Nat) (x2 : Nat) (t : mk_S) : Option (Unit × mk_S) := mk_gd t x0 5 ((mk_gi t x1 7 4).bind fun v1 => (F_X6_bindingOf v1 t).bind fun z2 => if v1 = (59 : Int32) then (B_X6_readBehind_22 x0 x1 x2 v1 z2.1 z2.2) else (if v1 = (-1 : Int32) then (B_X6_readBehind_22 x0 x1 x2 v1 z2.1 z2.2) else (B_X6_readBehind_27 x0 x1 x2 v1 z2.1 (0 : Int32) z2.2)))
theorem o_X6_readBehind_212 (x1 : Nat) (t : mk_S) : mk_O mk_wu M_X6_readBehind 212 [none, some (.ref x1), none, none, none, none] [] t (B_X6_readBehind_212 x1 t) := by
  unfold B_X6_readBehind_212
  refine xo_aload_n rfl rfl dX6_readBehind_212 ?_
  refine xo_iconst kc_0 dX6_readBehind_213 ?_
  refine mk_O.callV (N := M_X8_fail) (ci := 7) (q := (RX8, TX8, 7)) (b := x1) (As1 := [.int (0 : Int32)]) (S := []) md_X8_fail mv_X8_fail lk_RX6_76 rfl (Nat.le_of_ble_eq_true rfl) (by decide) dX6_readBehind_214 rfl rfl rfl (fun z hz => (c_X8_fail x1 (0 : Int32) t z hz).1) (fun z hz => (c_X8_fail x1 (0 : Int32) t z hz).2) (fun z1 _ => ?_)
  show mk_O _ _ _ _ [] _ _
  exact xo_vret dX6_readBehind_217 rfl
theorem o_X6_readBehind_190 (x0 : Nat) (x1 : Nat) (x2 : Nat) (x5 : Int32) (t : mk_S) : mk_O mk_wu M_X6_readBehind 190 [some (.ref x0), some (.ref x1), some (.ref x2), none, none, some (.int x5)] [] t (B_X6_readBehind_190 x0 x1 x2 x5 t) := by
  unfold B_X6_readBehind_190
  refine xo_iload rfl dX6_readBehind_190 ?_
  refine xo_if_eq (tgt := 212) dX6_readBehind_192 rfl (fun _ => ?_) (fun _ => ?_)
  · exact mk_O.wk (o_X6_readBehind_212 x1 t) ⟨rfl, trivial⟩
  · refine xo_aload_n rfl rfl dX6_readBehind_195 ?_
    refine xo_geti dX6_readBehind_196 cl_5 fl_RX6_28 rfl (fun v1 => ?_)
    refine xo_iconst kc_1 dX6_readBehind_199 ?_
    refine xo_icmp_eq (tgt := 212) dX6_readBehind_200 rfl (fun _ => ?_) (fun _ => ?_)
    · exact mk_O.wk (o_X6_readBehind_212 x1 t) ⟨rfl, trivial⟩
    · refine xo_aload_n rfl rfl dX6_readBehind_203 ?_
      refine xo_aload_n rfl rfl dX6_readBehind_204 ?_
      refine xo_aload_n rfl rfl dX6_readBehind_205 ?_
      refine mk_O.callV (N := M_X6_closeClause) (ci := 5) (q := (RX6, TX6, 8)) (b := x0) (As1 := [.ref x1, .ref x2]) (S := []) md_X6_closeClause mv_X6_closeClause lk_RX6_118 rfl (Nat.le_of_ble_eq_true rfl) (by decide) dX6_readBehind_206 rfl rfl rfl (fun z hz => (c_X6_closeClause x0 x1 x2 t z hz).1) (fun z hz => (c_X6_closeClause x0 x1 x2 t z hz).2) (fun z2 _ => ?_)
      show mk_O _ _ _ _ [] _ _
      refine xo_goto (tgt := 217) dX6_readBehind_209 rfl ?_
      exact xo_vret dX6_readBehind_217 rfl
theorem o_X6_readBehind_154 (x0 : Nat) (x1 : Nat) (x2 : Nat) (x3 : Int32) (x5 : Int32) (t : mk_S) : mk_O mk_wu M_X6_readBehind 154 [some (.ref x0), some (.ref x1), some (.ref x2), some (.int x3), none, some (.int x5)] [] t (B_X6_readBehind_154 x0 x1 x2 x3 x5 t) := by
  unfold B_X6_readBehind_154
  refine xo_iload_n rfl rfl dX6_readBehind_154 ?_
  refine xo_sipush ks_312 dX6_readBehind_155 ?_
  refine xo_icmp_ne (tgt := 190) dX6_readBehind_158 rfl (fun _ => ?_) (fun _ => ?_)
  · refine xo_aload_n rfl rfl dX6_readBehind_161 ?_
    refine xo_geti dX6_readBehind_162 cl_5 fl_RX6_28 rfl (fun v1 => ?_)
    refine xo_if_ne (tgt := 190) dX6_readBehind_165 rfl (fun _ => ?_) (fun _ => ?_)
    · refine xo_aload_n rfl rfl dX6_readBehind_168 ?_
      refine xo_iconst kc_1 dX6_readBehind_169 ?_
      refine xo_aload_n rfl rfl dX6_readBehind_170 ?_
      refine mk_O.callV (N := M_X6_release) (ci := 5) (q := (RX6, TX6, 8)) (b := x0) (As1 := [.int (1 : Int32), .ref x2]) (S := []) md_X6_release mv_X6_release lk_RX6_115 rfl (Nat.le_of_ble_eq_true rfl) (by decide) dX6_readBehind_171 rfl rfl rfl (fun z hz => (c_X6_release x0 (1 : Int32) x2 t z hz).1) (fun z hz => (c_X6_release x0 (1 : Int32) x2 t z hz).2) (fun z2 _ => ?_)
      show mk_O _ _ _ _ [] _ _
      refine xo_aload_n rfl rfl dX6_readBehind_174 ?_
      refine xo_aload_n rfl rfl dX6_readBehind_175 ?_
      refine xo_geti dX6_readBehind_176 cl_4 fl_RX6_83 rfl (fun v3 => ?_)
      refine xo_puti dX6_readBehind_179 cl_5 fl_RX6_34 rfl ft_5_7 (fun t4 => ?_)
      refine xo_aload_n rfl rfl dX6_readBehind_182 ?_
      refine xo_iconst kc_2 dX6_readBehind_183 ?_
      refine xo_puti dX6_readBehind_184 cl_5 fl_RX6_25 rfl ft_5_4 (fun t5 => ?_)
      refine xo_goto (tgt := 217) dX6_readBehind_187 rfl ?_
      exact xo_vret dX6_readBehind_217 rfl
    · exact mk_O.wk (o_X6_readBehind_190 x0 x1 x2 x5 t) ⟨rfl, ⟨rfl, ⟨rfl, ⟨rfl, trivial⟩⟩⟩⟩
  · exact mk_O.wk (o_X6_readBehind_190 x0 x1 x2 x5 t) ⟨rfl, ⟨rfl, ⟨rfl, ⟨rfl, trivial⟩⟩⟩⟩
theorem o_X6_readBehind_131 (x0 : Nat) (x1 : Nat) (x2 : Nat) (x3 : Int32) (x5 : Int32) (t : mk_S) : mk_O mk_wu M_X6_readBehind 131 [some (.ref x0), some (.ref x1), some (.ref x2), some (.int x3), none, some (.int x5)] [] t (B_X6_readBehind_131 x0 x1 x2 x3 x5 t) := by
  unfold B_X6_readBehind_131
  refine xo_iload_n rfl rfl dX6_readBehind_131 ?_
  refine xo_bipush kb_93 dX6_readBehind_132 ?_
  refine xo_icmp_ne (tgt := 154) dX6_readBehind_134 rfl (fun _ => ?_) (fun _ => ?_)
  · refine xo_aload_n rfl rfl dX6_readBehind_137 ?_
    refine xo_geti dX6_readBehind_138 cl_5 fl_RX6_28 rfl (fun v1 => ?_)
    refine xo_iconst kc_2 dX6_readBehind_141 ?_
    refine xo_icmp_lt (tgt := 154) dX6_readBehind_142 rfl (fun _ => ?_) (fun _ => ?_)
    · exact mk_O.wk (o_X6_readBehind_154 x0 x1 x2 x3 x5 t) ⟨rfl, ⟨rfl, ⟨rfl, ⟨rfl, ⟨rfl, trivial⟩⟩⟩⟩⟩
    · refine xo_aload_n rfl rfl dX6_readBehind_145 ?_
      refine xo_aload_n rfl rfl dX6_readBehind_146 ?_
      refine xo_aload_n rfl rfl dX6_readBehind_147 ?_
      refine mk_O.callV (N := M_X6_closeBracket) (ci := 5) (q := (RX6, TX6, 8)) (b := x0) (As1 := [.ref x1, .ref x2]) (S := []) md_X6_closeBracket mv_X6_closeBracket lk_RX6_112 rfl (Nat.le_of_ble_eq_true rfl) (by decide) dX6_readBehind_148 rfl rfl rfl (fun z hz => (c_X6_closeBracket x0 x1 x2 t z hz).1) (fun z hz => (c_X6_closeBracket x0 x1 x2 t z hz).2) (fun z2 _ => ?_)
      show mk_O _ _ _ _ [] _ _
      refine xo_goto (tgt := 217) dX6_readBehind_151 rfl ?_
      exact xo_vret dX6_readBehind_217 rfl
  · exact mk_O.wk (o_X6_readBehind_154 x0 x1 x2 x3 x5 t) ⟨rfl, ⟨rfl, ⟨rfl, ⟨rfl, ⟨rfl, trivial⟩⟩⟩⟩⟩
theorem o_X6_readBehind_109 (x0 : Nat) (x1 : Nat) (x2 : Nat) (x3 : Int32) (x5 : Int32) (t : mk_S) : mk_O mk_wu M_X6_readBehind 109 [some (.ref x0), some (.ref x1), some (.ref x2), some (.int x3), none, some (.int x5)] [] t (B_X6_readBehind_109 x0 x1 x2 x3 x5 t) := by
  unfold B_X6_readBehind_109
  refine xo_aload_n rfl rfl dX6_readBehind_109 ?_
  refine xo_geti dX6_readBehind_110 cl_5 fl_RX6_28 rfl (fun v1 => ?_)
  refine xo_iconst kc_2 dX6_readBehind_113 ?_
  refine xo_icmp_lt (tgt := 131) dX6_readBehind_114 rfl (fun _ => ?_) (fun _ => ?_)
  · exact mk_O.wk (o_X6_readBehind_131 x0 x1 x2 x3 x5 t) ⟨rfl, ⟨rfl, ⟨rfl, ⟨rfl, ⟨rfl, trivial⟩⟩⟩⟩⟩
  · refine xo_aload_n rfl rfl dX6_readBehind_117 ?_
    refine xo_iload_n rfl rfl dX6_readBehind_118 ?_
    refine xo_aload_n rfl rfl dX6_readBehind_119 ?_
    refine mk_O.callV (N := M_X6_join) (ci := 5) (q := (RX6, TX6, 8)) (b := x0) (As1 := [.int x3, .ref x2]) (S := []) md_X6_join mv_X6_join lk_RX6_108 rfl (Nat.le_of_ble_eq_true rfl) (by decide) dX6_readBehind_120 rfl rfl rfl (fun z hz => (c_X6_join x0 x3 x2 t z hz).1) (fun z hz => (c_X6_join x0 x3 x2 t z hz).2) (fun z2 _ => ?_)
    show mk_O _ _ _ _ [] _ _
    refine xo_aload_n rfl rfl dX6_readBehind_123 ?_
    refine xo_iconst kc_2 dX6_readBehind_124 ?_
    refine xo_puti dX6_readBehind_125 cl_5 fl_RX6_25 rfl ft_5_4 (fun t3 => ?_)
    refine xo_goto (tgt := 217) dX6_readBehind_128 rfl ?_
    exact xo_vret dX6_readBehind_217 rfl
theorem o_X6_readBehind_95 (x0 : Nat) (x1 : Nat) (x2 : Nat) (x3 : Int32) (x5 : Int32) (t : mk_S) : mk_O mk_wu M_X6_readBehind 95 [some (.ref x0), some (.ref x1), some (.ref x2), some (.int x3), none, some (.int x5)] [] t (B_X6_readBehind_95 x0 x1 x2 x3 x5 t) := by
  unfold B_X6_readBehind_95
  refine xo_iload_n rfl rfl dX6_readBehind_95 ?_
  refine xo_sipush ks_313 dX6_readBehind_96 ?_
  refine xo_icmp_eq (tgt := 109) dX6_readBehind_99 rfl (fun _ => ?_) (fun _ => ?_)
  · exact mk_O.wk (o_X6_readBehind_109 x0 x1 x2 x3 x5 t) ⟨rfl, ⟨rfl, ⟨rfl, ⟨rfl, ⟨rfl, trivial⟩⟩⟩⟩⟩
  · refine xo_iload_n rfl rfl dX6_readBehind_102 ?_
    refine xo_sipush ks_314 dX6_readBehind_103 ?_
    refine xo_icmp_ne (tgt := 131) dX6_readBehind_106 rfl (fun _ => ?_) (fun _ => ?_)
    · exact mk_O.wk (o_X6_readBehind_109 x0 x1 x2 x3 x5 t) ⟨rfl, ⟨rfl, ⟨rfl, ⟨rfl, ⟨rfl, trivial⟩⟩⟩⟩⟩
    · exact mk_O.wk (o_X6_readBehind_131 x0 x1 x2 x3 x5 t) ⟨rfl, ⟨rfl, ⟨rfl, ⟨rfl, ⟨rfl, trivial⟩⟩⟩⟩⟩
theorem o_X6_readBehind_57 (x0 : Nat) (x1 : Nat) (x2 : Nat) (x3 : Int32) (x4 : Int32) (x5 : Int32) (t : mk_S) : mk_O mk_wu M_X6_readBehind 57 [some (.ref x0), some (.ref x1), some (.ref x2), some (.int x3), some (.int x4), some (.int x5)] [] t (B_X6_readBehind_57 x0 x1 x2 x3 x4 x5 t) := by
  unfold B_X6_readBehind_57
  refine xo_iload rfl dX6_readBehind_57 ?_
  refine xo_iconst kc_4 dX6_readBehind_59 ?_
  refine xo_icmp_ne (tgt := 95) dX6_readBehind_60 rfl (fun _ => ?_) (fun _ => ?_)
  · refine xo_aload_n rfl rfl dX6_readBehind_63 ?_
    refine xo_geti dX6_readBehind_64 cl_5 fl_RX6_28 rfl (fun v1 => ?_)
    refine xo_iconst kc_1 dX6_readBehind_67 ?_
    refine xo_icmp_ne (tgt := 95) dX6_readBehind_68 rfl (fun _ => ?_) (fun _ => ?_)
    · refine xo_aload_n rfl rfl dX6_readBehind_71 ?_
      refine xo_aload_n rfl rfl dX6_readBehind_72 ?_
      refine mk_O.callV (N := M_X6_countItem) (ci := 5) (q := (RX6, TX6, 8)) (b := x0) (As1 := [.ref x1]) (S := []) md_X6_countItem mv_X6_countItem lk_RX6_93 rfl (Nat.le_of_ble_eq_true rfl) (by decide) dX6_readBehind_73 rfl rfl rfl (fun z hz => (c_X6_countItem x0 x1 t z hz).1) (fun z hz => (c_X6_countItem x0 x1 t z hz).2) (fun z2 _ => ?_)
      show mk_O _ _ _ _ [] _ _
      refine xo_aload_n rfl rfl dX6_readBehind_76 ?_
      refine xo_iload_n rfl rfl dX6_readBehind_77 ?_
      refine xo_aload_n rfl rfl dX6_readBehind_78 ?_
      refine mk_O.callV (N := M_X6_join) (ci := 5) (q := (RX6, TX6, 8)) (b := x0) (As1 := [.int x3, .ref x2]) (S := []) md_X6_join mv_X6_join lk_RX6_108 rfl (Nat.le_of_ble_eq_true rfl) (by decide) dX6_readBehind_79 rfl rfl rfl (fun z hz => (c_X6_join x0 x3 x2 z2.2 z hz).1) (fun z hz => (c_X6_join x0 x3 x2 z2.2 z hz).2) (fun z3 _ => ?_)
      show mk_O _ _ _ _ [] _ _
      refine xo_aload_n rfl rfl dX6_readBehind_82 ?_
      refine xo_iconst kc_2 dX6_readBehind_83 ?_
      refine xo_puti dX6_readBehind_84 cl_5 fl_RX6_28 rfl ft_5_5 (fun t4 => ?_)
      refine xo_aload_n rfl rfl dX6_readBehind_87 ?_
      refine xo_iconst kc_1 dX6_readBehind_88 ?_
      refine xo_puti dX6_readBehind_89 cl_5 fl_RX6_25 rfl ft_5_4 (fun t5 => ?_)
      refine xo_goto (tgt := 217) dX6_readBehind_92 rfl ?_
      exact xo_vret dX6_readBehind_217 rfl
    · exact mk_O.wk (o_X6_readBehind_95 x0 x1 x2 x3 x5 t) ⟨rfl, ⟨rfl, ⟨rfl, ⟨rfl, ⟨rfl, trivial⟩⟩⟩⟩⟩
  · exact mk_O.wk (o_X6_readBehind_95 x0 x1 x2 x3 x5 t) ⟨rfl, ⟨rfl, ⟨rfl, ⟨rfl, ⟨rfl, trivial⟩⟩⟩⟩⟩
theorem o_X6_readBehind_27 (x0 : Nat) (x1 : Nat) (x2 : Nat) (x3 : Int32) (x4 : Int32) (s0 : Int32) (t : mk_S) : mk_O mk_wu M_X6_readBehind 27 [some (.ref x0), some (.ref x1), some (.ref x2), some (.int x3), some (.int x4), none] [.int s0] t (B_X6_readBehind_27 x0 x1 x2 x3 x4 s0 t) := by
  unfold B_X6_readBehind_27
  refine xo_istore (by decide) (mk_p1_v rfl rfl) dX6_readBehind_27 ?_
  refine xo_iload rfl dX6_readBehind_29 ?_
  refine xo_iconst kc_5 dX6_readBehind_31 ?_
  refine xo_icmp_lt (tgt := 57) dX6_readBehind_32 rfl (fun _ => ?_) (fun _ => ?_)
  · exact mk_O.wk (o_X6_readBehind_57 x0 x1 x2 x3 x4 s0 t) ⟨rfl, ⟨rfl, ⟨rfl, ⟨rfl, ⟨rfl, ⟨rfl, trivial⟩⟩⟩⟩⟩⟩
  · refine xo_aload_n rfl rfl dX6_readBehind_35 ?_
    refine xo_geti dX6_readBehind_36 cl_5 fl_RX6_28 rfl (fun v1 => ?_)
    refine xo_iconst kc_3 dX6_readBehind_39 ?_
    refine xo_icmp_eq (tgt := 57) dX6_readBehind_40 rfl (fun _ => ?_) (fun _ => ?_)
    · exact mk_O.wk (o_X6_readBehind_57 x0 x1 x2 x3 x4 s0 t) ⟨rfl, ⟨rfl, ⟨rfl, ⟨rfl, ⟨rfl, ⟨rfl, trivial⟩⟩⟩⟩⟩⟩
    · refine xo_aload_n rfl rfl dX6_readBehind_43 ?_
      refine xo_iload_n rfl rfl dX6_readBehind_44 ?_
      refine xo_aload_n rfl rfl dX6_readBehind_45 ?_
      refine mk_O.callV (N := M_X6_join) (ci := 5) (q := (RX6, TX6, 8)) (b := x0) (As1 := [.int x3, .ref x2]) (S := []) md_X6_join mv_X6_join lk_RX6_108 rfl (Nat.le_of_ble_eq_true rfl) (by decide) dX6_readBehind_46 rfl rfl rfl (fun z hz => (c_X6_join x0 x3 x2 t z hz).1) (fun z hz => (c_X6_join x0 x3 x2 t z hz).2) (fun z2 _ => ?_)
      show mk_O _ _ _ _ [] _ _
      refine xo_aload_n rfl rfl dX6_readBehind_49 ?_
      refine xo_iconst kc_1 dX6_readBehind_50 ?_
      refine xo_puti dX6_readBehind_51 cl_5 fl_RX6_25 rfl ft_5_4 (fun t3 => ?_)
      refine xo_goto (tgt := 217) dX6_readBehind_54 rfl ?_
      exact xo_vret dX6_readBehind_217 rfl
theorem o_X6_readBehind_22 (x0 : Nat) (x1 : Nat) (x2 : Nat) (x3 : Int32) (x4 : Int32) (t : mk_S) : mk_O mk_wu M_X6_readBehind 22 [some (.ref x0), some (.ref x1), some (.ref x2), some (.int x3), some (.int x4), none] [] t (B_X6_readBehind_22 x0 x1 x2 x3 x4 t) := by
  unfold B_X6_readBehind_22
  refine xo_iconst kc_1 dX6_readBehind_22 ?_
  refine xo_goto (tgt := 27) dX6_readBehind_23 rfl ?_
  exact mk_O.wk (o_X6_readBehind_27 x0 x1 x2 x3 x4 (1 : Int32) t) ⟨rfl, ⟨rfl, ⟨rfl, ⟨rfl, ⟨rfl, trivial⟩⟩⟩⟩⟩
theorem p_X6_readBehind (x0 : Nat) (x1 : Nat) (x2 : Nat) (t : mk_S) : mk_O mk_wu M_X6_readBehind 0 [some (.ref x0), some (.ref x1), some (.ref x2), none, none, none] [] t ((mk_gi t x1 7 4).bind fun v1 => (F_X6_bindingOf v1 t).bind fun z2 => if v1 = (59 : Int32) then (B_X6_readBehind_22 x0 x1 x2 v1 z2.1 z2.2) else (if v1 = (-1 : Int32) then (B_X6_readBehind_22 x0 x1 x2 v1 z2.1 z2.2) else (B_X6_readBehind_27 x0 x1 x2 v1 z2.1 (0 : Int32) z2.2))) := by
  refine xo_aload_n rfl rfl dX6_readBehind_0 ?_
  refine xo_geti dX6_readBehind_1 cl_7 fl_RX6_73 rfl (fun v1 => ?_)
  refine xo_istore_n rfl (by decide) (mk_p1_v rfl rfl) dX6_readBehind_4 ?_
  refine xo_iload_n rfl rfl dX6_readBehind_5 ?_
  refine mk_O.callS (N := M_X6_bindingOf) (As := [.int v1]) (S := []) md_X6_bindingOf ms_X6_bindingOf lk_RX6_104 rfl (Nat.le_of_ble_eq_true rfl) (by decide) dX6_readBehind_6 rfl (fun z hz => c_X6_bindingOf v1 t z hz) (fun z2 _ => ?_)
  show mk_O _ _ _ _ (.int z2.1 :: []) _ _
  refine xo_istore (by decide) (mk_p1_v rfl rfl) dX6_readBehind_9 ?_
  refine xo_iload_n rfl rfl dX6_readBehind_11 ?_
  refine xo_bipush kb_59 dX6_readBehind_12 ?_
  refine xo_icmp_eq (tgt := 22) dX6_readBehind_14 rfl (fun _ => ?_) (fun _ => ?_)
  · exact mk_O.wk (o_X6_readBehind_22 x0 x1 x2 v1 z2.1 z2.2) ⟨rfl, ⟨rfl, ⟨rfl, ⟨rfl, ⟨rfl, trivial⟩⟩⟩⟩⟩
  · refine xo_iload_n rfl rfl dX6_readBehind_17 ?_
    refine xo_iconst kc_m1 dX6_readBehind_18 ?_
    refine xo_icmp_ne (tgt := 26) dX6_readBehind_19 rfl (fun _ => ?_) (fun _ => ?_)
    · exact mk_O.wk (o_X6_readBehind_22 x0 x1 x2 v1 z2.1 z2.2) ⟨rfl, ⟨rfl, ⟨rfl, ⟨rfl, ⟨rfl, trivial⟩⟩⟩⟩⟩
    · refine xo_iconst kc_0 dX6_readBehind_26 ?_
      exact mk_O.wk (o_X6_readBehind_27 x0 x1 x2 v1 z2.1 (0 : Int32) z2.2) ⟨rfl, ⟨rfl, ⟨rfl, ⟨rfl, ⟨rfl, trivial⟩⟩⟩⟩⟩
theorem c_X6_readBehind (x0 : Nat) (x1 : Nat) (x2 : Nat) (t : mk_S) (z : Unit × mk_S) (h : F_X6_readBehind x0 x1 x2 t = some z) : mk_is t x0 5 ∧ mk_Ct M_X6_readBehind [.ref x0, .ref x1, .ref x2] t (mk_wu z.1, z.2) :=
  ⟨(mk_gd_spec h).1, mk_ct (w := mk_wu) (by decide +kernel) (Nat.le_of_ble_eq_true rfl) (p_X6_readBehind x0 x1 x2 t) z (mk_gd_spec h).2⟩
def F_X6_readOn (x0 : Nat) (x1 : Nat) (x2 : Nat) (t : mk_S) : Option (Unit × mk_S) := mk_gd t x0 5 ((mk_gi t x0 5 4).bind fun v1 => if v1 = (0 : Int32) then ((F_X6_readClause x0 x1 x2 t).bind fun z2 => some ((), z2.2)) else (if v1 = (1 : Int32) then ((F_X6_readValue x0 x1 x2 t).bind fun z3 => some ((), z3.2)) else (if v1 = (2 : Int32) then ((F_X6_readFact x0 x1 x2 t).bind fun z4 => some ((), z4.2)) else ((F_X6_readBehind x0 x1 x2 t).bind fun z5 => some ((), z5.2)))))
theorem p_X6_readOn (x0 : Nat) (x1 : Nat) (x2 : Nat) (t : mk_S) : mk_O mk_wu M_X6_readOn 0 [some (.ref x0), some (.ref x1), some (.ref x2)] [] t ((mk_gi t x0 5 4).bind fun v1 => if v1 = (0 : Int32) then ((F_X6_readClause x0 x1 x2 t).bind fun z2 => some ((), z2.2)) else (if v1 = (1 : Int32) then ((F_X6_readValue x0 x1 x2 t).bind fun z3 => some ((), z3.2)) else (if v1 = (2 : Int32) then ((F_X6_readFact x0 x1 x2 t).bind fun z4 => some ((), z4.2)) else ((F_X6_readBehind x0 x1 x2 t).bind fun z5 => some ((), z5.2))))) := by
  refine xo_aload_n rfl rfl dX6_readOn_0 ?_
  refine xo_geti dX6_readOn_1 cl_5 fl_RX6_25 rfl (fun v1 => ?_)
  refine mk_O.cs (fun n0 => ?_) (fun n0 => ?_)
  · refine xo_tab (kx := 0) (j := 0) n0 dX6_readOn_4 (by decide) (by decide) (by decide) rfl rfl ?_
    refine xo_aload_n rfl rfl dX6_readOn_32 ?_
    refine xo_aload_n rfl rfl dX6_readOn_33 ?_
    refine xo_aload_n rfl rfl dX6_readOn_34 ?_
    refine mk_O.callV (N := M_X6_readClause) (ci := 5) (q := (RX6, TX6, 8)) (b := x0) (As1 := [.ref x1, .ref x2]) (S := []) md_X6_readClause mv_X6_readClause lk_RX6_61 rfl (Nat.le_of_ble_eq_true rfl) (by decide) dX6_readOn_35 rfl rfl rfl (fun z hz => (c_X6_readClause x0 x1 x2 t z hz).1) (fun z hz => (c_X6_readClause x0 x1 x2 t z hz).2) (fun z2 _ => ?_)
    show mk_O _ _ _ _ [] _ _
    refine xo_goto (tgt := 65) dX6_readOn_38 rfl ?_
    exact xo_vret dX6_readOn_65 rfl
  · refine mk_O.cs (fun n1 => ?_) (fun n1 => ?_)
    · refine xo_tab (kx := 1) (j := 1) n1 dX6_readOn_4 (by decide) (by decide) (by decide) rfl rfl ?_
      refine xo_aload_n rfl rfl dX6_readOn_41 ?_
      refine xo_aload_n rfl rfl dX6_readOn_42 ?_
      refine xo_aload_n rfl rfl dX6_readOn_43 ?_
      refine mk_O.callV (N := M_X6_readValue) (ci := 5) (q := (RX6, TX6, 8)) (b := x0) (As1 := [.ref x1, .ref x2]) (S := []) md_X6_readValue mv_X6_readValue lk_RX6_64 rfl (Nat.le_of_ble_eq_true rfl) (by decide) dX6_readOn_44 rfl rfl rfl (fun z hz => (c_X6_readValue x0 x1 x2 t z hz).1) (fun z hz => (c_X6_readValue x0 x1 x2 t z hz).2) (fun z3 _ => ?_)
      show mk_O _ _ _ _ [] _ _
      refine xo_goto (tgt := 65) dX6_readOn_47 rfl ?_
      exact xo_vret dX6_readOn_65 rfl
    · refine mk_O.cs (fun n2 => ?_) (fun n2 => ?_)
      · refine xo_tab (kx := 2) (j := 2) n2 dX6_readOn_4 (by decide) (by decide) (by decide) rfl rfl ?_
        refine xo_aload_n rfl rfl dX6_readOn_50 ?_
        refine xo_aload_n rfl rfl dX6_readOn_51 ?_
        refine xo_aload_n rfl rfl dX6_readOn_52 ?_
        refine mk_O.callV (N := M_X6_readFact) (ci := 5) (q := (RX6, TX6, 8)) (b := x0) (As1 := [.ref x1, .ref x2]) (S := []) md_X6_readFact mv_X6_readFact lk_RX6_67 rfl (Nat.le_of_ble_eq_true rfl) (by decide) dX6_readOn_53 rfl rfl rfl (fun z hz => (c_X6_readFact x0 x1 x2 t z hz).1) (fun z hz => (c_X6_readFact x0 x1 x2 t z hz).2) (fun z4 _ => ?_)
        show mk_O _ _ _ _ [] _ _
        refine xo_goto (tgt := 65) dX6_readOn_56 rfl ?_
        exact xo_vret dX6_readOn_65 rfl
      · refine xo_tabo dX6_readOn_4 (by have q0 := lv_neT (a := 0) n0 (by decide); have q1 := lv_neT (a := 1) n1 (by decide); have q2 := lv_neT (a := 2) n2 (by decide); omega) rfl ?_
        refine xo_aload_n rfl rfl dX6_readOn_59 ?_
        refine xo_aload_n rfl rfl dX6_readOn_60 ?_
        refine xo_aload_n rfl rfl dX6_readOn_61 ?_
        refine mk_O.callV (N := M_X6_readBehind) (ci := 5) (q := (RX6, TX6, 8)) (b := x0) (As1 := [.ref x1, .ref x2]) (S := []) md_X6_readBehind mv_X6_readBehind lk_RX6_70 rfl (Nat.le_of_ble_eq_true rfl) (by decide) dX6_readOn_62 rfl rfl rfl (fun z hz => (c_X6_readBehind x0 x1 x2 t z hz).1) (fun z hz => (c_X6_readBehind x0 x1 x2 t z hz).2) (fun z5 _ => ?_)
        show mk_O _ _ _ _ [] _ _
        exact xo_vret dX6_readOn_65 rfl
theorem c_X6_readOn (x0 : Nat) (x1 : Nat) (x2 : Nat) (t : mk_S) (z : Unit × mk_S) (h : F_X6_readOn x0 x1 x2 t = some z) : mk_is t x0 5 ∧ mk_Ct M_X6_readOn [.ref x0, .ref x1, .ref x2] t (mk_wu z.1, z.2) :=
  ⟨(mk_gd_spec h).1, mk_ct (w := mk_wu) (by decide +kernel) (Nat.le_of_ble_eq_true rfl) (p_X6_readOn x0 x1 x2 t) z (mk_gd_spec h).2⟩
def B_X6_read_30 : Nat → Nat → Nat → Nat → Int32 → mk_S → Option (Int32 × mk_S)
  | 0, _, _, _, _, _ => none
  | n + 1, x0, x1, x2, x3, t => if (400 : Int32) < x3 then ((mk_gi t x1 7 3).bind fun v1 => some (v1, t)) else ((F_X8_isSound x1 t).bind fun z2 => if z2.1 = 0 then ((mk_gi z2.2 x1 7 3).bind fun v3 => some (v3, z2.2)) else ((mk_gi z2.2 x0 5 4).bind fun v4 => if v4 = (4 : Int32) then ((mk_gi z2.2 x1 7 3).bind fun v5 => some (v5, z2.2)) else ((F_X8_advance x1 z2.2).bind fun z6 => (F_X6_readOn x0 x1 x2 z6.2).bind fun z7 => B_X6_read_30 n x0 x1 x2 (x3 + (1 : Int32)) z7.2)))
def F_X6_read (x0 : Nat) (x1 : Nat) (x2 : Nat) (t : mk_S) : Option (Int32 × mk_S) := mk_gd t x0 5 ((F_X8_open x1 t).bind fun z1 => (F_X5_clear x2 z1.2).bind fun z2 => (mk_pi z2.2 x0 5 1 (0 : Int32)).bind fun t3 => (mk_pi t3 x0 5 2 (0 : Int32)).bind fun t4 => (mk_pi t4 x0 5 3 (0 : Int32)).bind fun t5 => (mk_pi t5 x0 5 4 (0 : Int32)).bind fun t6 => B_X6_read_30 mk_fu x0 x1 x2 (0 : Int32) t6)
theorem o_X6_read_30 : ∀ (n : Nat) (x0 : Nat) (x1 : Nat) (x2 : Nat) (x3 : Int32) (t : mk_S), mk_O mk_wi M_X6_read 30 [some (.ref x0), some (.ref x1), some (.ref x2), some (.int x3)] [] t (B_X6_read_30 n x0 x1 x2 x3 t) := by
  intro n
  induction n with
  | zero =>
    intro x0 x1 x2 x3 t
    exact mk_O.none
  | succ n ih =>
    intro x0 x1 x2 x3 t
    rw [B_X6_read_30]
    refine xo_iload_n rfl rfl dX6_read_30 ?_
    refine xo_sipush ks_400 dX6_read_31 ?_
    refine xo_icmp_gt (tgt := 68) dX6_read_34 rfl (fun _ => ?_) (fun _ => ?_)
    · refine xo_aload_n rfl rfl dX6_read_68 ?_
      refine xo_geti dX6_read_69 cl_7 fl_RX6_58 rfl (fun v1 => ?_)
      exact xo_iret dX6_read_72 rfl
    · refine xo_aload_n rfl rfl dX6_read_37 ?_
      refine mk_O.callV (N := M_X8_isSound) (ci := 7) (q := (RX8, TX8, 7)) (b := x1) (As1 := []) (S := []) md_X8_isSound mv_X8_isSound lk_RX6_47 rfl (Nat.le_of_ble_eq_true rfl) (by decide) dX6_read_38 rfl rfl rfl (fun z hz => (c_X8_isSound x1 t z hz).1) (fun z hz => (c_X8_isSound x1 t z hz).2) (fun z2 _ => ?_)
      show mk_O _ _ _ _ (.int z2.1 :: []) _ _
      refine xo_if_eq (tgt := 68) dX6_read_41 rfl (fun _ => ?_) (fun _ => ?_)
      · refine xo_aload_n rfl rfl dX6_read_68 ?_
        refine xo_geti dX6_read_69 cl_7 fl_RX6_58 rfl (fun v3 => ?_)
        exact xo_iret dX6_read_72 rfl
      · refine xo_aload_n rfl rfl dX6_read_44 ?_
        refine xo_geti dX6_read_45 cl_5 fl_RX6_25 rfl (fun v4 => ?_)
        refine xo_iconst kc_4 dX6_read_48 ?_
        refine xo_icmp_eq (tgt := 68) dX6_read_49 rfl (fun _ => ?_) (fun _ => ?_)
        · refine xo_aload_n rfl rfl dX6_read_68 ?_
          refine xo_geti dX6_read_69 cl_7 fl_RX6_58 rfl (fun v5 => ?_)
          exact xo_iret dX6_read_72 rfl
        · refine xo_aload_n rfl rfl dX6_read_52 ?_
          refine mk_O.callV (N := M_X8_advance) (ci := 7) (q := (RX8, TX8, 7)) (b := x1) (As1 := []) (S := []) md_X8_advance mv_X8_advance lk_RX6_51 rfl (Nat.le_of_ble_eq_true rfl) (by decide) dX6_read_53 rfl rfl rfl (fun z hz => (c_X8_advance x1 z2.2 z hz).1) (fun z hz => (c_X8_advance x1 z2.2 z hz).2) (fun z6 _ => ?_)
          show mk_O _ _ _ _ [] _ _
          refine xo_aload_n rfl rfl dX6_read_56 ?_
          refine xo_aload_n rfl rfl dX6_read_57 ?_
          refine xo_aload_n rfl rfl dX6_read_58 ?_
          refine mk_O.callV (N := M_X6_readOn) (ci := 5) (q := (RX6, TX6, 8)) (b := x0) (As1 := [.ref x1, .ref x2]) (S := []) md_X6_readOn mv_X6_readOn lk_RX6_54 rfl (Nat.le_of_ble_eq_true rfl) (by decide) dX6_read_59 rfl rfl rfl (fun z hz => (c_X6_readOn x0 x1 x2 z6.2 z hz).1) (fun z hz => (c_X6_readOn x0 x1 x2 z6.2 z hz).2) (fun z7 _ => ?_)
          show mk_O _ _ _ _ [] _ _
          refine xo_iinc rfl (congrArg _ kc_1) (by decide) (mk_p1_v rfl rfl) dX6_read_62 ?_
          refine xo_goto (tgt := 30) dX6_read_65 rfl ?_
          exact mk_O.wk (ih x0 x1 x2 (x3 + (1 : Int32)) z7.2) ⟨rfl, ⟨rfl, ⟨rfl, ⟨rfl, trivial⟩⟩⟩⟩
theorem p_X6_read (x0 : Nat) (x1 : Nat) (x2 : Nat) (t : mk_S) : mk_O mk_wi M_X6_read 0 [some (.ref x0), some (.ref x1), some (.ref x2), none] [] t ((F_X8_open x1 t).bind fun z1 => (F_X5_clear x2 z1.2).bind fun z2 => (mk_pi z2.2 x0 5 1 (0 : Int32)).bind fun t3 => (mk_pi t3 x0 5 2 (0 : Int32)).bind fun t4 => (mk_pi t4 x0 5 3 (0 : Int32)).bind fun t5 => (mk_pi t5 x0 5 4 (0 : Int32)).bind fun t6 => B_X6_read_30 mk_fu x0 x1 x2 (0 : Int32) t6) := by
  refine xo_aload_n rfl rfl dX6_read_0 ?_
  refine mk_O.callV (N := M_X8_open) (ci := 7) (q := (RX8, TX8, 7)) (b := x1) (As1 := []) (S := []) md_X8_open mv_X8_open lk_RX6_37 rfl (Nat.le_of_ble_eq_true rfl) (by decide) dX6_read_1 rfl rfl rfl (fun z hz => (c_X8_open x1 t z hz).1) (fun z hz => (c_X8_open x1 t z hz).2) (fun z1 _ => ?_)
  show mk_O _ _ _ _ [] _ _
  refine xo_aload_n rfl rfl dX6_read_4 ?_
  refine mk_O.callV (N := M_X5_clear) (ci := 4) (q := (RX5, TX5, 8)) (b := x2) (As1 := []) (S := []) md_X5_clear mv_X5_clear lk_RX6_42 rfl (Nat.le_of_ble_eq_true rfl) (by decide) dX6_read_5 rfl rfl rfl (fun z hz => (c_X5_clear x2 z1.2 z hz).1) (fun z hz => (c_X5_clear x2 z1.2 z hz).2) (fun z2 _ => ?_)
  show mk_O _ _ _ _ [] _ _
  refine xo_aload_n rfl rfl dX6_read_8 ?_
  refine xo_iconst kc_0 dX6_read_9 ?_
  refine xo_puti dX6_read_10 cl_5 fl_RX6_15 rfl ft_5_1 (fun t3 => ?_)
  refine xo_aload_n rfl rfl dX6_read_13 ?_
  refine xo_iconst kc_0 dX6_read_14 ?_
  refine xo_puti dX6_read_15 cl_5 fl_RX6_19 rfl ft_5_2 (fun t4 => ?_)
  refine xo_aload_n rfl rfl dX6_read_18 ?_
  refine xo_iconst kc_0 dX6_read_19 ?_
  refine xo_puti dX6_read_20 cl_5 fl_RX6_22 rfl ft_5_3 (fun t5 => ?_)
  refine xo_aload_n rfl rfl dX6_read_23 ?_
  refine xo_iconst kc_0 dX6_read_24 ?_
  refine xo_puti dX6_read_25 cl_5 fl_RX6_25 rfl ft_5_4 (fun t6 => ?_)
  refine xo_iconst kc_0 dX6_read_28 ?_
  refine xo_istore_n rfl (by decide) (mk_p1_v rfl rfl) dX6_read_29 ?_
  exact mk_O.wk (o_X6_read_30 mk_fu x0 x1 x2 (0 : Int32) t6) ⟨rfl, ⟨rfl, ⟨rfl, ⟨rfl, trivial⟩⟩⟩⟩
theorem c_X6_read (x0 : Nat) (x1 : Nat) (x2 : Nat) (t : mk_S) (z : Int32 × mk_S) (h : F_X6_read x0 x1 x2 t = some z) : mk_is t x0 5 ∧ mk_Ct M_X6_read [.ref x0, .ref x1, .ref x2] t (mk_wi z.1, z.2) :=
  ⟨(mk_gd_spec h).1, mk_ct (w := mk_wi) (by decide +kernel) (Nat.le_of_ble_eq_true rfl) (p_X6_read x0 x1 x2 t) z (mk_gd_spec h).2⟩
def F_X7_actedInAll (x0 : Nat) (t : mk_S) : Option (Int32 × mk_S) := mk_gd t x0 6 ((mk_ga t x0 6 3).bind fun v1 => (F_X7_sum v1 t).bind fun z2 => some (z2.1, z2.2))
theorem p_X7_actedInAll (x0 : Nat) (t : mk_S) : mk_O mk_wi M_X7_actedInAll 0 [some (.ref x0)] [] t ((mk_ga t x0 6 3).bind fun v1 => (F_X7_sum v1 t).bind fun z2 => some (z2.1, z2.2)) := by
  refine xo_aload_n rfl rfl dX7_actedInAll_0 ?_
  refine xo_geta dX7_actedInAll_1 cl_6 fl_RX7_21 rfl (fun v1 => ?_)
  refine mk_O.callS (N := M_X7_sum) (As := [.ref v1]) (S := []) md_X7_sum ms_X7_sum lk_RX7_62 rfl (Nat.le_of_ble_eq_true rfl) (by decide) dX7_actedInAll_4 rfl (fun z hz => c_X7_sum v1 t z hz) (fun z2 _ => ?_)
  show mk_O _ _ _ _ (.int z2.1 :: []) _ _
  exact xo_iret dX7_actedInAll_7 rfl
theorem c_X7_actedInAll (x0 : Nat) (t : mk_S) (z : Int32 × mk_S) (h : F_X7_actedInAll x0 t = some z) : mk_is t x0 6 ∧ mk_Ct M_X7_actedInAll [.ref x0] t (mk_wi z.1, z.2) :=
  ⟨(mk_gd_spec h).1, mk_ct (w := mk_wi) (by decide +kernel) (Nat.le_of_ble_eq_true rfl) (p_X7_actedInAll x0 t) z (mk_gd_spec h).2⟩
def B_X7_share_101 (k42 : Nat → Int32 → Int32 → Int32 → Int32 → Int32 → Int32 → Int32 → mk_S → Option (Int32 × mk_S)) (x0 : Nat) (x1 : Int32) (x2 : Int32) (x3 : Int32) (x4 : Int32) (x5 : Int32) (x6 : Int32) (x7 : Int32) (t : mk_S) : Option (Int32 × mk_S) := k42 x0 x1 x2 x3 x4 x5 x6 (x7 + (1 : Int32)) t
def B_X7_share_98 (k42 : Nat → Int32 → Int32 → Int32 → Int32 → Int32 → Int32 → Int32 → mk_S → Option (Int32 × mk_S)) (x0 : Nat) (x1 : Int32) (x2 : Int32) (x3 : Int32) (x4 : Int32) (x5 : Int32) (x6 : Int32) (x7 : Int32) (t : mk_S) : Option (Int32 × mk_S) := B_X7_share_101 k42 x0 x1 x2 x3 x4 (x5 + (1 : Int32)) x6 x7 t
def B_X7_share_42 : Nat → Nat → Int32 → Int32 → Int32 → Int32 → Int32 → Int32 → Int32 → mk_S → Option (Int32 × mk_S)
  | 0, _, _, _, _, _, _, _, _, _ => none
  | n + 1, x0, x1, x2, x3, x4, x5, x6, x7, t => if (6 : Int32) ≤ x7 then ((mk_ga t x0 6 3).bind fun v1 => (mk_ld 100 t v1 x2).bind fun v2 => if x3 = 0 then none else if x4 ≤ x5 then (some ((((x1 * v2) / x3) + (0 : Int32)), t)) else (some ((((x1 * v2) / x3) + (1 : Int32)), t))) else ((mk_ga t x0 6 3).bind fun v3 => (mk_ld 100 t v3 x7).bind fun v4 => if x3 = 0 then none else (mk_ga t x0 6 3).bind fun v5 => (mk_ld 100 t v5 x7).bind fun v6 => if x3 = 0 then none else if x6 < ((x1 * v4) - (x1 * v4) / x3 * x3) then (B_X7_share_98 (B_X7_share_42 n) x0 x1 x2 x3 (x4 - ((x1 * v6) / x3)) x5 x6 x7 t) else (if ((x1 * v4) - (x1 * v4) / x3 * x3) = x6 then (if x2 ≤ x7 then (B_X7_share_101 (B_X7_share_42 n) x0 x1 x2 x3 (x4 - ((x1 * v6) / x3)) x5 x6 x7 t) else (B_X7_share_98 (B_X7_share_42 n) x0 x1 x2 x3 (x4 - ((x1 * v6) / x3)) x5 x6 x7 t)) else (B_X7_share_101 (B_X7_share_42 n) x0 x1 x2 x3 (x4 - ((x1 * v6) / x3)) x5 x6 x7 t)))
def F_X7_share (x0 : Nat) (x1 : Int32) (x2 : Int32) (t : mk_S) : Option (Int32 × mk_S) := mk_gd t x0 6 ((F_X7_actedInAll x0 t).bind fun z1 => if z1.1 ≤ 0 then (some ((0 : Int32), z1.2)) else (if x2 < 0 then (some ((0 : Int32), z1.2)) else (if x2 < (6 : Int32) then ((mk_ga z1.2 x0 6 3).bind fun v2 => (mk_ld 100 z1.2 v2 x2).bind fun v3 => if z1.1 = 0 then none else B_X7_share_42 mk_fu x0 x1 x2 z1.1 x1 (0 : Int32) ((x1 * v3) - (x1 * v3) / z1.1 * z1.1) (0 : Int32) z1.2) else (some ((0 : Int32), z1.2)))))
theorem o_X7_share_101 (k42 : Nat → Int32 → Int32 → Int32 → Int32 → Int32 → Int32 → Int32 → mk_S → Option (Int32 × mk_S)) (h42 : ∀ (x0 : Nat) (x1 : Int32) (x2 : Int32) (x3 : Int32) (x4 : Int32) (x5 : Int32) (x6 : Int32) (x7 : Int32) (t : mk_S), mk_O mk_wi M_X7_share 42 [some (.ref x0), some (.int x1), some (.int x2), some (.int x3), some (.int x4), some (.int x5), some (.int x6), some (.int x7), none] [] t (k42 x0 x1 x2 x3 x4 x5 x6 x7 t)) (x0 : Nat) (x1 : Int32) (x2 : Int32) (x3 : Int32) (x4 : Int32) (x5 : Int32) (x6 : Int32) (x7 : Int32) (t : mk_S) : mk_O mk_wi M_X7_share 101 [some (.ref x0), some (.int x1), some (.int x2), some (.int x3), some (.int x4), some (.int x5), some (.int x6), some (.int x7), none] [] t (B_X7_share_101 k42 x0 x1 x2 x3 x4 x5 x6 x7 t) := by
  unfold B_X7_share_101
  refine xo_iinc rfl (congrArg _ kc_1) (by decide) (mk_p1_v rfl rfl) dX7_share_101 ?_
  refine xo_goto (tgt := 42) dX7_share_104 rfl ?_
  exact mk_O.wk (h42 x0 x1 x2 x3 x4 x5 x6 (x7 + (1 : Int32)) t) ⟨rfl, ⟨rfl, ⟨rfl, ⟨rfl, ⟨rfl, ⟨rfl, ⟨rfl, ⟨rfl, trivial⟩⟩⟩⟩⟩⟩⟩⟩
theorem o_X7_share_98 (k42 : Nat → Int32 → Int32 → Int32 → Int32 → Int32 → Int32 → Int32 → mk_S → Option (Int32 × mk_S)) (h42 : ∀ (x0 : Nat) (x1 : Int32) (x2 : Int32) (x3 : Int32) (x4 : Int32) (x5 : Int32) (x6 : Int32) (x7 : Int32) (t : mk_S), mk_O mk_wi M_X7_share 42 [some (.ref x0), some (.int x1), some (.int x2), some (.int x3), some (.int x4), some (.int x5), some (.int x6), some (.int x7), none] [] t (k42 x0 x1 x2 x3 x4 x5 x6 x7 t)) (x0 : Nat) (x1 : Int32) (x2 : Int32) (x3 : Int32) (x4 : Int32) (x5 : Int32) (x6 : Int32) (x7 : Int32) (t : mk_S) : mk_O mk_wi M_X7_share 98 [some (.ref x0), some (.int x1), some (.int x2), some (.int x3), some (.int x4), some (.int x5), some (.int x6), some (.int x7), none] [] t (B_X7_share_98 k42 x0 x1 x2 x3 x4 x5 x6 x7 t) := by
  unfold B_X7_share_98
  refine xo_iinc rfl (congrArg _ kc_1) (by decide) (mk_p1_v rfl rfl) dX7_share_98 ?_
  exact mk_O.wk (o_X7_share_101 _ h42 x0 x1 x2 x3 x4 (x5 + (1 : Int32)) x6 x7 t) ⟨rfl, ⟨rfl, ⟨rfl, ⟨rfl, ⟨rfl, ⟨rfl, ⟨rfl, ⟨rfl, trivial⟩⟩⟩⟩⟩⟩⟩⟩
theorem o_X7_share_42 : ∀ (n : Nat) (x0 : Nat) (x1 : Int32) (x2 : Int32) (x3 : Int32) (x4 : Int32) (x5 : Int32) (x6 : Int32) (x7 : Int32) (t : mk_S), mk_O mk_wi M_X7_share 42 [some (.ref x0), some (.int x1), some (.int x2), some (.int x3), some (.int x4), some (.int x5), some (.int x6), some (.int x7), none] [] t (B_X7_share_42 n x0 x1 x2 x3 x4 x5 x6 x7 t) := by
  intro n
  induction n with
  | zero =>
    intro x0 x1 x2 x3 x4 x5 x6 x7 t
    exact mk_O.none
  | succ n ih =>
    intro x0 x1 x2 x3 x4 x5 x6 x7 t
    rw [B_X7_share_42]
    refine xo_iload rfl dX7_share_42 ?_
    refine xo_bipush kb_6 dX7_share_44 ?_
    refine xo_icmp_ge (tgt := 107) dX7_share_46 rfl (fun _ => ?_) (fun _ => ?_)
    · refine xo_iload_n rfl rfl dX7_share_107 ?_
      refine xo_aload_n rfl rfl dX7_share_108 ?_
      refine xo_geta dX7_share_109 cl_6 fl_RX7_21 rfl (fun v1 => ?_)
      refine xo_iload_n rfl rfl dX7_share_112 ?_
      refine xo_iald dX7_share_113 (fun v2 => ?_)
      refine xo_imul dX7_share_114 ?_
      refine xo_iload_n rfl rfl dX7_share_115 ?_
      refine xo_idiv dX7_share_116 (fun _ => ?_)
      refine xo_iload rfl dX7_share_117 ?_
      refine xo_iload rfl dX7_share_119 ?_
      refine xo_icmp_ge (tgt := 128) dX7_share_121 rfl (fun _ => ?_) (fun _ => ?_)
      · refine xo_iconst kc_0 dX7_share_128 ?_
        refine xo_iadd dX7_share_129 ?_
        exact xo_iret dX7_share_130 rfl
      · refine xo_iconst kc_1 dX7_share_124 ?_
        refine xo_goto (tgt := 129) dX7_share_125 rfl ?_
        refine xo_iadd dX7_share_129 ?_
        exact xo_iret dX7_share_130 rfl
    · refine xo_iload_n rfl rfl dX7_share_49 ?_
      refine xo_aload_n rfl rfl dX7_share_50 ?_
      refine xo_geta dX7_share_51 cl_6 fl_RX7_21 rfl (fun v3 => ?_)
      refine xo_iload rfl dX7_share_54 ?_
      refine xo_iald dX7_share_56 (fun v4 => ?_)
      refine xo_imul dX7_share_57 ?_
      refine xo_iload_n rfl rfl dX7_share_58 ?_
      refine xo_irem dX7_share_59 (fun _ => ?_)
      refine xo_istore (by decide) (mk_p1_v rfl rfl) dX7_share_60 ?_
      refine xo_iload rfl dX7_share_62 ?_
      refine xo_iload_n rfl rfl dX7_share_64 ?_
      refine xo_aload_n rfl rfl dX7_share_65 ?_
      refine xo_geta dX7_share_66 cl_6 fl_RX7_21 rfl (fun v5 => ?_)
      refine xo_iload rfl dX7_share_69 ?_
      refine xo_iald dX7_share_71 (fun v6 => ?_)
      refine xo_imul dX7_share_72 ?_
      refine xo_iload_n rfl rfl dX7_share_73 ?_
      refine xo_idiv dX7_share_74 (fun _ => ?_)
      refine xo_isub dX7_share_75 ?_
      refine xo_istore (by decide) (mk_p1_v rfl rfl) dX7_share_76 ?_
      refine xo_iload rfl dX7_share_78 ?_
      refine xo_iload rfl dX7_share_80 ?_
      refine xo_icmp_gt (tgt := 98) dX7_share_82 rfl (fun _ => ?_) (fun _ => ?_)
      · exact mk_O.wk (o_X7_share_98 _ ih x0 x1 x2 x3 (x4 - ((x1 * v6) / x3)) x5 x6 x7 t) ⟨rfl, ⟨rfl, ⟨rfl, ⟨rfl, ⟨rfl, ⟨rfl, ⟨rfl, ⟨rfl, trivial⟩⟩⟩⟩⟩⟩⟩⟩
      · refine xo_iload rfl dX7_share_85 ?_
        refine xo_iload rfl dX7_share_87 ?_
        refine xo_icmp_ne (tgt := 101) dX7_share_89 rfl (fun _ => ?_) (fun _ => ?_)
        · refine xo_iload rfl dX7_share_92 ?_
          refine xo_iload_n rfl rfl dX7_share_94 ?_
          refine xo_icmp_ge (tgt := 101) dX7_share_95 rfl (fun _ => ?_) (fun _ => ?_)
          · exact mk_O.wk (o_X7_share_101 _ ih x0 x1 x2 x3 (x4 - ((x1 * v6) / x3)) x5 x6 x7 t) ⟨rfl, ⟨rfl, ⟨rfl, ⟨rfl, ⟨rfl, ⟨rfl, ⟨rfl, ⟨rfl, trivial⟩⟩⟩⟩⟩⟩⟩⟩
          · exact mk_O.wk (o_X7_share_98 _ ih x0 x1 x2 x3 (x4 - ((x1 * v6) / x3)) x5 x6 x7 t) ⟨rfl, ⟨rfl, ⟨rfl, ⟨rfl, ⟨rfl, ⟨rfl, ⟨rfl, ⟨rfl, trivial⟩⟩⟩⟩⟩⟩⟩⟩
        · exact mk_O.wk (o_X7_share_101 _ ih x0 x1 x2 x3 (x4 - ((x1 * v6) / x3)) x5 x6 x7 t) ⟨rfl, ⟨rfl, ⟨rfl, ⟨rfl, ⟨rfl, ⟨rfl, ⟨rfl, ⟨rfl, trivial⟩⟩⟩⟩⟩⟩⟩⟩
theorem p_X7_share (x0 : Nat) (x1 : Int32) (x2 : Int32) (t : mk_S) : mk_O mk_wi M_X7_share 0 [some (.ref x0), some (.int x1), some (.int x2), none, none, none, none, none, none] [] t ((F_X7_actedInAll x0 t).bind fun z1 => if z1.1 ≤ 0 then (some ((0 : Int32), z1.2)) else (if x2 < 0 then (some ((0 : Int32), z1.2)) else (if x2 < (6 : Int32) then ((mk_ga z1.2 x0 6 3).bind fun v2 => (mk_ld 100 z1.2 v2 x2).bind fun v3 => if z1.1 = 0 then none else B_X7_share_42 mk_fu x0 x1 x2 z1.1 x1 (0 : Int32) ((x1 * v3) - (x1 * v3) / z1.1 * z1.1) (0 : Int32) z1.2) else (some ((0 : Int32), z1.2))))) := by
  refine xo_aload_n rfl rfl dX7_share_0 ?_
  refine mk_O.callV (N := M_X7_actedInAll) (ci := 6) (q := (RX7, TX7, 9)) (b := x0) (As1 := []) (S := []) md_X7_actedInAll mv_X7_actedInAll lk_RX7_66 rfl (Nat.le_of_ble_eq_true rfl) (by decide) dX7_share_1 rfl rfl rfl (fun z hz => (c_X7_actedInAll x0 t z hz).1) (fun z hz => (c_X7_actedInAll x0 t z hz).2) (fun z1 _ => ?_)
  show mk_O _ _ _ _ (.int z1.1 :: []) _ _
  refine xo_istore_n rfl (by decide) (mk_p1_v rfl rfl) dX7_share_4 ?_
  refine xo_iload_n rfl rfl dX7_share_5 ?_
  refine xo_if_le (tgt := 19) dX7_share_6 rfl (fun _ => ?_) (fun _ => ?_)
  · refine xo_iconst kc_0 dX7_share_19 ?_
    exact xo_iret dX7_share_20 rfl
  · refine xo_iload_n rfl rfl dX7_share_9 ?_
    refine xo_if_lt (tgt := 19) dX7_share_10 rfl (fun _ => ?_) (fun _ => ?_)
    · refine xo_iconst kc_0 dX7_share_19 ?_
      exact xo_iret dX7_share_20 rfl
    · refine xo_iload_n rfl rfl dX7_share_13 ?_
      refine xo_bipush kb_6 dX7_share_14 ?_
      refine xo_icmp_lt (tgt := 21) dX7_share_16 rfl (fun _ => ?_) (fun _ => ?_)
      · refine xo_iload_n rfl rfl dX7_share_21 ?_
        refine xo_istore (by decide) (mk_p1_v rfl rfl) dX7_share_22 ?_
        refine xo_iconst kc_0 dX7_share_24 ?_
        refine xo_istore (by decide) (mk_p1_v rfl rfl) dX7_share_25 ?_
        refine xo_iload_n rfl rfl dX7_share_27 ?_
        refine xo_aload_n rfl rfl dX7_share_28 ?_
        refine xo_geta dX7_share_29 cl_6 fl_RX7_21 rfl (fun v2 => ?_)
        refine xo_iload_n rfl rfl dX7_share_32 ?_
        refine xo_iald dX7_share_33 (fun v3 => ?_)
        refine xo_imul dX7_share_34 ?_
        refine xo_iload_n rfl rfl dX7_share_35 ?_
        refine xo_irem dX7_share_36 (fun _ => ?_)
        refine xo_istore (by decide) (mk_p1_v rfl rfl) dX7_share_37 ?_
        refine xo_iconst kc_0 dX7_share_39 ?_
        refine xo_istore (by decide) (mk_p1_v rfl rfl) dX7_share_40 ?_
        exact mk_O.wk (o_X7_share_42 mk_fu x0 x1 x2 z1.1 x1 (0 : Int32) ((x1 * v3) - (x1 * v3) / z1.1 * z1.1) (0 : Int32) z1.2) ⟨rfl, ⟨rfl, ⟨rfl, ⟨rfl, ⟨rfl, ⟨rfl, ⟨rfl, ⟨rfl, trivial⟩⟩⟩⟩⟩⟩⟩⟩
      · refine xo_iconst kc_0 dX7_share_19 ?_
        exact xo_iret dX7_share_20 rfl
theorem c_X7_share (x0 : Nat) (x1 : Int32) (x2 : Int32) (t : mk_S) (z : Int32 × mk_S) (h : F_X7_share x0 x1 x2 t = some z) : mk_is t x0 6 ∧ mk_Ct M_X7_share [.ref x0, .int x1, .int x2] t (mk_wi z.1, z.2) :=
  ⟨(mk_gd_spec h).1, mk_ct (w := mk_wi) (by decide +kernel) (Nat.le_of_ble_eq_true rfl) (p_X7_share x0 x1 x2 t) z (mk_gd_spec h).2⟩
