def F_X11_seed (x0 : Nat) (x1 : Int32) (t : mk_S) : Option (Int32 × mk_S) := mk_gd t x0 10 (if 0 ≤ x1 then ((mk_ga t x0 10 4).bind fun v1 => (mk_gi t v1 9 5).bind fun v2 => (mk_ga t x0 10 4).bind fun v3 => (mk_pi t v3 9 5 x1).bind fun t4 => some (v2, t4)) else (some ((-1 : Int32), t)))
theorem p_X11_seed (x0 : Nat) (x1 : Int32) (t : mk_S) : mk_O mk_wi M_X11_seed 0 [some (.ref x0), some (.int x1), none] [] t (if 0 ≤ x1 then ((mk_ga t x0 10 4).bind fun v1 => (mk_gi t v1 9 5).bind fun v2 => (mk_ga t x0 10 4).bind fun v3 => (mk_pi t v3 9 5 x1).bind fun t4 => some (v2, t4)) else (some ((-1 : Int32), t))) := by
  refine xo_iload_n rfl rfl dX11_seed_0 ?_
  refine xo_if_ge (tgt := 6) dX11_seed_1 rfl (fun _ => ?_) (fun _ => ?_)
  · refine xo_aload_n rfl rfl dX11_seed_6 ?_
    refine xo_geta dX11_seed_7 cl_10 fl_RX11_41 rfl (fun v1 => ?_)
    refine xo_geti dX11_seed_10 cl_9 fl_RX11_198 rfl (fun v2 => ?_)
    refine xo_istore_n rfl (by decide) (mk_p1_v rfl rfl) dX11_seed_13 ?_
    refine xo_aload_n rfl rfl dX11_seed_14 ?_
    refine xo_geta dX11_seed_15 cl_10 fl_RX11_41 rfl (fun v3 => ?_)
    refine xo_iload_n rfl rfl dX11_seed_18 ?_
    refine xo_puti dX11_seed_19 cl_9 fl_RX11_198 rfl ft_9_5 (fun t4 => ?_)
    refine xo_iload_n rfl rfl dX11_seed_22 ?_
    exact xo_iret dX11_seed_23 rfl
  · refine xo_iconst kc_m1 dX11_seed_4 ?_
    exact xo_iret dX11_seed_5 rfl
theorem c_X11_seed (x0 : Nat) (x1 : Int32) (t : mk_S) (z : Int32 × mk_S) (h : F_X11_seed x0 x1 t = some z) : mk_is t x0 10 ∧ mk_Ct M_X11_seed [.ref x0, .int x1] t (mk_wi z.1, z.2) :=
  ⟨(mk_gd_spec h).1, mk_ct (w := mk_wi) (by decide +kernel) (Nat.le_of_ble_eq_true rfl) (p_X11_seed x0 x1 t) z (mk_gd_spec h).2⟩
def F_X11_notions (x0 : Nat) (x1 : Int32) (x2 : Int32) (x3 : Int32) (x4 : Int32) (t : mk_S) : Option (Int32 × mk_S) := mk_gd t x0 10 ((mk_ga t x0 10 4).bind fun v1 => (mk_ga t v1 9 0).bind fun v2 => (F_X3_isThere v2 t).bind fun z3 => if z3.1 = 0 then (some ((-1 : Int32), z3.2)) else ((F_X11_within x1 (1 : Int32) (10 : Int32) z3.2).bind fun z4 => if z4.1 = 0 then (some ((-1 : Int32), z4.2)) else ((F_X11_within x2 (1 : Int32) (60 : Int32) z4.2).bind fun z5 => if z5.1 = 0 then (some ((-1 : Int32), z5.2)) else ((F_X11_within x3 (0 : Int32) (100 : Int32) z5.2).bind fun z6 => if z6.1 = 0 then (some ((-1 : Int32), z6.2)) else ((F_X11_within x4 (0 : Int32) (1 : Int32) z6.2).bind fun z7 => if z7.1 = 0 then (some ((-1 : Int32), z7.2)) else ((mk_ga z7.2 x0 10 3).bind fun v8 => (F_X2_yearsOfNotions v8 x1 x2 x3 x4 z7.2).bind fun z9 => some (z9.1, z9.2)))))))
theorem p_X11_notions (x0 : Nat) (x1 : Int32) (x2 : Int32) (x3 : Int32) (x4 : Int32) (t : mk_S) : mk_O mk_wi M_X11_notions 0 [some (.ref x0), some (.int x1), some (.int x2), some (.int x3), some (.int x4)] [] t ((mk_ga t x0 10 4).bind fun v1 => (mk_ga t v1 9 0).bind fun v2 => (F_X3_isThere v2 t).bind fun z3 => if z3.1 = 0 then (some ((-1 : Int32), z3.2)) else ((F_X11_within x1 (1 : Int32) (10 : Int32) z3.2).bind fun z4 => if z4.1 = 0 then (some ((-1 : Int32), z4.2)) else ((F_X11_within x2 (1 : Int32) (60 : Int32) z4.2).bind fun z5 => if z5.1 = 0 then (some ((-1 : Int32), z5.2)) else ((F_X11_within x3 (0 : Int32) (100 : Int32) z5.2).bind fun z6 => if z6.1 = 0 then (some ((-1 : Int32), z6.2)) else ((F_X11_within x4 (0 : Int32) (1 : Int32) z6.2).bind fun z7 => if z7.1 = 0 then (some ((-1 : Int32), z7.2)) else ((mk_ga z7.2 x0 10 3).bind fun v8 => (F_X2_yearsOfNotions v8 x1 x2 x3 x4 z7.2).bind fun z9 => some (z9.1, z9.2))))))) := by
  refine xo_aload_n rfl rfl dX11_notions_0 ?_
  refine xo_geta dX11_notions_1 cl_10 fl_RX11_41 rfl (fun v1 => ?_)
  refine xo_geta dX11_notions_4 cl_9 fl_RX11_78 rfl (fun v2 => ?_)
  refine mk_O.callV (N := M_X3_isThere) (ci := 3) (q := (RX3, TX3, 12)) (b := v2) (As1 := []) (S := []) md_X3_isThere mv_X3_isThere lk_RX11_201 rfl (Nat.le_of_ble_eq_true rfl) (by decide) dX11_notions_7 rfl rfl rfl (fun z hz => (c_X3_isThere v2 t z hz).1) (fun z hz => (c_X3_isThere v2 t z hz).2) (fun z3 _ => ?_)
  show mk_O _ _ _ _ (.int z3.1 :: []) _ _
  refine xo_if_eq (tgt := 33) dX11_notions_10 rfl (fun _ => ?_) (fun _ => ?_)
  · refine xo_iconst kc_m1 dX11_notions_33 ?_
    exact xo_iret dX11_notions_34 rfl
  · refine xo_iload_n rfl rfl dX11_notions_13 ?_
    refine xo_iconst kc_1 dX11_notions_14 ?_
    refine xo_bipush kb_10 dX11_notions_15 ?_
    refine mk_O.callS (N := M_X11_within) (As := [.int x1, .int (1 : Int32), .int (10 : Int32)]) (S := []) md_X11_within ms_X11_within lk_RX11_61 rfl (Nat.le_of_ble_eq_true rfl) (by decide) dX11_notions_17 rfl (fun z hz => c_X11_within x1 (1 : Int32) (10 : Int32) z3.2 z hz) (fun z4 _ => ?_)
    show mk_O _ _ _ _ (.int z4.1 :: []) _ _
    refine xo_if_eq (tgt := 33) dX11_notions_20 rfl (fun _ => ?_) (fun _ => ?_)
    · refine xo_iconst kc_m1 dX11_notions_33 ?_
      exact xo_iret dX11_notions_34 rfl
    · refine xo_iload_n rfl rfl dX11_notions_23 ?_
      refine xo_iconst kc_1 dX11_notions_24 ?_
      refine xo_bipush kb_60 dX11_notions_25 ?_
      refine mk_O.callS (N := M_X11_within) (As := [.int x2, .int (1 : Int32), .int (60 : Int32)]) (S := []) md_X11_within ms_X11_within lk_RX11_61 rfl (Nat.le_of_ble_eq_true rfl) (by decide) dX11_notions_27 rfl (fun z hz => c_X11_within x2 (1 : Int32) (60 : Int32) z4.2 z hz) (fun z5 _ => ?_)
      show mk_O _ _ _ _ (.int z5.1 :: []) _ _
      refine xo_if_ne (tgt := 35) dX11_notions_30 rfl (fun _ => ?_) (fun _ => ?_)
      · refine xo_iconst kc_m1 dX11_notions_33 ?_
        exact xo_iret dX11_notions_34 rfl
      · refine xo_iload_n rfl rfl dX11_notions_35 ?_
        refine xo_iconst kc_0 dX11_notions_36 ?_
        refine xo_bipush kb_100 dX11_notions_37 ?_
        refine mk_O.callS (N := M_X11_within) (As := [.int x3, .int (0 : Int32), .int (100 : Int32)]) (S := []) md_X11_within ms_X11_within lk_RX11_61 rfl (Nat.le_of_ble_eq_true rfl) (by decide) dX11_notions_39 rfl (fun z hz => c_X11_within x3 (0 : Int32) (100 : Int32) z5.2 z hz) (fun z6 _ => ?_)
        show mk_O _ _ _ _ (.int z6.1 :: []) _ _
        refine xo_if_eq (tgt := 55) dX11_notions_42 rfl (fun _ => ?_) (fun _ => ?_)
        · refine xo_iconst kc_m1 dX11_notions_55 ?_
          exact xo_iret dX11_notions_56 rfl
        · refine xo_iload rfl dX11_notions_45 ?_
          refine xo_iconst kc_0 dX11_notions_47 ?_
          refine xo_iconst kc_1 dX11_notions_48 ?_
          refine mk_O.callS (N := M_X11_within) (As := [.int x4, .int (0 : Int32), .int (1 : Int32)]) (S := []) md_X11_within ms_X11_within lk_RX11_61 rfl (Nat.le_of_ble_eq_true rfl) (by decide) dX11_notions_49 rfl (fun z hz => c_X11_within x4 (0 : Int32) (1 : Int32) z6.2 z hz) (fun z7 _ => ?_)
          show mk_O _ _ _ _ (.int z7.1 :: []) _ _
          refine xo_if_ne (tgt := 57) dX11_notions_52 rfl (fun _ => ?_) (fun _ => ?_)
          · refine xo_iconst kc_m1 dX11_notions_55 ?_
            exact xo_iret dX11_notions_56 rfl
          · refine xo_aload_n rfl rfl dX11_notions_57 ?_
            refine xo_geta dX11_notions_58 cl_10 fl_RX11_33 rfl (fun v8 => ?_)
            refine xo_iload_n rfl rfl dX11_notions_61 ?_
            refine xo_iload_n rfl rfl dX11_notions_62 ?_
            refine xo_iload_n rfl rfl dX11_notions_63 ?_
            refine xo_iload rfl dX11_notions_64 ?_
            refine mk_O.callV (N := M_X2_yearsOfNotions) (ci := 2) (q := (RX2, TX2, 14)) (b := v8) (As1 := [.int x1, .int x2, .int x3, .int x4]) (S := []) md_X2_yearsOfNotions mv_X2_yearsOfNotions lk_RX11_287 rfl (Nat.le_of_ble_eq_true rfl) (by decide) dX11_notions_66 rfl rfl rfl (fun z hz => (c_X2_yearsOfNotions v8 x1 x2 x3 x4 z7.2 z hz).1) (fun z hz => (c_X2_yearsOfNotions v8 x1 x2 x3 x4 z7.2 z hz).2) (fun z9 _ => ?_)
            show mk_O _ _ _ _ (.int z9.1 :: []) _ _
            exact xo_iret dX11_notions_69 rfl
theorem c_X11_notions (x0 : Nat) (x1 : Int32) (x2 : Int32) (x3 : Int32) (x4 : Int32) (t : mk_S) (z : Int32 × mk_S) (h : F_X11_notions x0 x1 x2 x3 x4 t = some z) : mk_is t x0 10 ∧ mk_Ct M_X11_notions [.ref x0, .int x1, .int x2, .int x3, .int x4] t (mk_wi z.1, z.2) :=
  ⟨(mk_gd_spec h).1, mk_ct (w := mk_wi) (by decide +kernel) (Nat.le_of_ble_eq_true rfl) (p_X11_notions x0 x1 x2 x3 x4 t) z (mk_gd_spec h).2⟩
def F_X11_image (x0 : Nat) (x1 : Int32) (t : mk_S) : Option (Int32 × mk_S) := mk_gd t x0 10 ((F_X11_within x1 (0 : Int32) (3 : Int32) t).bind fun z1 => if z1.1 = 0 then (some ((-1 : Int32), z1.2)) else ((mk_ga z1.2 x0 10 5).bind fun v2 => (mk_lda (100 + 6) z1.2 v2 x1).bind fun v3 => (mk_ga z1.2 x0 10 4).bind fun v4 => (F_X10_copyFrom v3 v4 z1.2).bind fun z5 => (mk_ga z5.2 x0 10 6).bind fun v6 => (mk_st 103 z5.2 v6 x1 (1 : Int32)).bind fun t7 => (mk_ga t7 x0 10 4).bind fun v8 => (mk_ga t7 v8 9 1).bind fun v9 => (mk_gi t7 v9 6 8).bind fun v10 => some (v10, t7)))
theorem p_X11_image (x0 : Nat) (x1 : Int32) (t : mk_S) : mk_O mk_wi M_X11_image 0 [some (.ref x0), some (.int x1)] [] t ((F_X11_within x1 (0 : Int32) (3 : Int32) t).bind fun z1 => if z1.1 = 0 then (some ((-1 : Int32), z1.2)) else ((mk_ga z1.2 x0 10 5).bind fun v2 => (mk_lda (100 + 6) z1.2 v2 x1).bind fun v3 => (mk_ga z1.2 x0 10 4).bind fun v4 => (F_X10_copyFrom v3 v4 z1.2).bind fun z5 => (mk_ga z5.2 x0 10 6).bind fun v6 => (mk_st 103 z5.2 v6 x1 (1 : Int32)).bind fun t7 => (mk_ga t7 x0 10 4).bind fun v8 => (mk_ga t7 v8 9 1).bind fun v9 => (mk_gi t7 v9 6 8).bind fun v10 => some (v10, t7))) := by
  refine xo_iload_n rfl rfl dX11_image_0 ?_
  refine xo_iconst kc_0 dX11_image_1 ?_
  refine xo_iconst kc_3 dX11_image_2 ?_
  refine mk_O.callS (N := M_X11_within) (As := [.int x1, .int (0 : Int32), .int (3 : Int32)]) (S := []) md_X11_within ms_X11_within lk_RX11_61 rfl (Nat.le_of_ble_eq_true rfl) (by decide) dX11_image_3 rfl (fun z hz => c_X11_within x1 (0 : Int32) (3 : Int32) t z hz) (fun z1 _ => ?_)
  show mk_O _ _ _ _ (.int z1.1 :: []) _ _
  refine xo_if_ne (tgt := 11) dX11_image_6 rfl (fun _ => ?_) (fun _ => ?_)
  · refine xo_iconst kc_m1 dX11_image_9 ?_
    exact xo_iret dX11_image_10 rfl
  · refine xo_aload_n rfl rfl dX11_image_11 ?_
    refine xo_geta dX11_image_12 cl_10 fl_RX11_44 rfl (fun v2 => ?_)
    refine xo_iload_n rfl rfl dX11_image_15 ?_
    refine xo_aald (j := 6) (by decide) (by decide) dX11_image_16 (fun v3 => ?_)
    refine xo_aload_n rfl rfl dX11_image_17 ?_
    refine xo_geta dX11_image_18 cl_10 fl_RX11_41 rfl (fun v4 => ?_)
    refine mk_O.callV (N := M_X10_copyFrom) (ci := 9) (q := (RX10, TX10, 6)) (b := v3) (As1 := [.ref v4]) (S := []) md_X10_copyFrom mv_X10_copyFrom lk_RX11_290 rfl (Nat.le_of_ble_eq_true rfl) (by decide) dX11_image_21 rfl rfl rfl (fun z hz => (c_X10_copyFrom v3 v4 z1.2 z hz).1) (fun z hz => (c_X10_copyFrom v3 v4 z1.2 z hz).2) (fun z5 _ => ?_)
    show mk_O _ _ _ _ [] _ _
    refine xo_aload_n rfl rfl dX11_image_24 ?_
    refine xo_geta dX11_image_25 cl_10 fl_RX11_48 rfl (fun v6 => ?_)
    refine xo_iload_n rfl rfl dX11_image_28 ?_
    refine xo_iconst kc_1 dX11_image_29 ?_
    refine xo_zast dX11_image_30 (fun t7 => ?_)
    refine xo_aload_n rfl rfl dX11_image_31 ?_
    refine xo_geta dX11_image_32 cl_10 fl_RX11_41 rfl (fun v8 => ?_)
    refine xo_geta dX11_image_35 cl_9 fl_RX11_101 rfl (fun v9 => ?_)
    refine xo_geti dX11_image_38 cl_6 fl_RX11_169 rfl (fun v10 => ?_)
    exact xo_iret dX11_image_41 rfl
theorem c_X11_image (x0 : Nat) (x1 : Int32) (t : mk_S) (z : Int32 × mk_S) (h : F_X11_image x0 x1 t = some z) : mk_is t x0 10 ∧ mk_Ct M_X11_image [.ref x0, .int x1] t (mk_wi z.1, z.2) :=
  ⟨(mk_gd_spec h).1, mk_ct (w := mk_wi) (by decide +kernel) (Nat.le_of_ble_eq_true rfl) (p_X11_image x0 x1 t) z (mk_gd_spec h).2⟩
def F_X11_back (x0 : Nat) (x1 : Int32) (t : mk_S) : Option (Int32 × mk_S) := mk_gd t x0 10 ((F_X11_within x1 (0 : Int32) (3 : Int32) t).bind fun z1 => if z1.1 = 0 then (some ((-1 : Int32), z1.2)) else ((mk_ga z1.2 x0 10 6).bind fun v2 => (mk_ld 103 z1.2 v2 x1).bind fun v3 => if v3 = 0 then (some ((-1 : Int32), z1.2)) else ((mk_ga z1.2 x0 10 4).bind fun v4 => (mk_ga z1.2 x0 10 5).bind fun v5 => (mk_lda (100 + 6) z1.2 v5 x1).bind fun v6 => (F_X10_copyFrom v4 v6 z1.2).bind fun z7 => (mk_ga z7.2 x0 10 4).bind fun v8 => (mk_ga z7.2 v8 9 1).bind fun v9 => (mk_gi z7.2 v9 6 8).bind fun v10 => some (v10, z7.2))))
theorem p_X11_back (x0 : Nat) (x1 : Int32) (t : mk_S) : mk_O mk_wi M_X11_back 0 [some (.ref x0), some (.int x1)] [] t ((F_X11_within x1 (0 : Int32) (3 : Int32) t).bind fun z1 => if z1.1 = 0 then (some ((-1 : Int32), z1.2)) else ((mk_ga z1.2 x0 10 6).bind fun v2 => (mk_ld 103 z1.2 v2 x1).bind fun v3 => if v3 = 0 then (some ((-1 : Int32), z1.2)) else ((mk_ga z1.2 x0 10 4).bind fun v4 => (mk_ga z1.2 x0 10 5).bind fun v5 => (mk_lda (100 + 6) z1.2 v5 x1).bind fun v6 => (F_X10_copyFrom v4 v6 z1.2).bind fun z7 => (mk_ga z7.2 x0 10 4).bind fun v8 => (mk_ga z7.2 v8 9 1).bind fun v9 => (mk_gi z7.2 v9 6 8).bind fun v10 => some (v10, z7.2)))) := by
  refine xo_iload_n rfl rfl dX11_back_0 ?_
  refine xo_iconst kc_0 dX11_back_1 ?_
  refine xo_iconst kc_3 dX11_back_2 ?_
  refine mk_O.callS (N := M_X11_within) (As := [.int x1, .int (0 : Int32), .int (3 : Int32)]) (S := []) md_X11_within ms_X11_within lk_RX11_61 rfl (Nat.le_of_ble_eq_true rfl) (by decide) dX11_back_3 rfl (fun z hz => c_X11_within x1 (0 : Int32) (3 : Int32) t z hz) (fun z1 _ => ?_)
  show mk_O _ _ _ _ (.int z1.1 :: []) _ _
  refine xo_if_eq (tgt := 18) dX11_back_6 rfl (fun _ => ?_) (fun _ => ?_)
  · refine xo_iconst kc_m1 dX11_back_18 ?_
    exact xo_iret dX11_back_19 rfl
  · refine xo_aload_n rfl rfl dX11_back_9 ?_
    refine xo_geta dX11_back_10 cl_10 fl_RX11_48 rfl (fun v2 => ?_)
    refine xo_iload_n rfl rfl dX11_back_13 ?_
    refine xo_zald dX11_back_14 (fun v3 => ?_)
    refine xo_if_ne (tgt := 20) dX11_back_15 rfl (fun _ => ?_) (fun _ => ?_)
    · refine xo_iconst kc_m1 dX11_back_18 ?_
      exact xo_iret dX11_back_19 rfl
    · refine xo_aload_n rfl rfl dX11_back_20 ?_
      refine xo_geta dX11_back_21 cl_10 fl_RX11_41 rfl (fun v4 => ?_)
      refine xo_aload_n rfl rfl dX11_back_24 ?_
      refine xo_geta dX11_back_25 cl_10 fl_RX11_44 rfl (fun v5 => ?_)
      refine xo_iload_n rfl rfl dX11_back_28 ?_
      refine xo_aald (j := 6) (by decide) (by decide) dX11_back_29 (fun v6 => ?_)
      refine mk_O.callV (N := M_X10_copyFrom) (ci := 9) (q := (RX10, TX10, 6)) (b := v4) (As1 := [.ref v6]) (S := []) md_X10_copyFrom mv_X10_copyFrom lk_RX11_290 rfl (Nat.le_of_ble_eq_true rfl) (by decide) dX11_back_30 rfl rfl rfl (fun z hz => (c_X10_copyFrom v4 v6 z1.2 z hz).1) (fun z hz => (c_X10_copyFrom v4 v6 z1.2 z hz).2) (fun z7 _ => ?_)
      show mk_O _ _ _ _ [] _ _
      refine xo_aload_n rfl rfl dX11_back_33 ?_
      refine xo_geta dX11_back_34 cl_10 fl_RX11_41 rfl (fun v8 => ?_)
      refine xo_geta dX11_back_37 cl_9 fl_RX11_101 rfl (fun v9 => ?_)
      refine xo_geti dX11_back_40 cl_6 fl_RX11_169 rfl (fun v10 => ?_)
      exact xo_iret dX11_back_43 rfl
theorem c_X11_back (x0 : Nat) (x1 : Int32) (t : mk_S) (z : Int32 × mk_S) (h : F_X11_back x0 x1 t = some z) : mk_is t x0 10 ∧ mk_Ct M_X11_back [.ref x0, .int x1] t (mk_wi z.1, z.2) :=
  ⟨(mk_gd_spec h).1, mk_ct (w := mk_wi) (by decide +kernel) (Nat.le_of_ble_eq_true rfl) (p_X11_back x0 x1 t) z (mk_gd_spec h).2⟩
def F_X12_init (x0 : Nat) (t : mk_S) : Option (Unit × mk_S) := mk_gd t x0 11 ((mk_na 100 t (10 : Int32)).bind fun z1 => (mk_st 100 z1.2 z1.1 (0 : Int32) (0 : Int32)).bind fun t2 => (mk_st 100 t2 z1.1 (1 : Int32) (0 : Int32)).bind fun t3 => (mk_st 100 t3 z1.1 (2 : Int32) (0 : Int32)).bind fun t4 => (mk_st 100 t4 z1.1 (3 : Int32) (0 : Int32)).bind fun t5 => (mk_st 100 t5 z1.1 (4 : Int32) (0 : Int32)).bind fun t6 => (mk_st 100 t6 z1.1 (5 : Int32) (0 : Int32)).bind fun t7 => (mk_st 100 t7 z1.1 (6 : Int32) (0 : Int32)).bind fun t8 => (mk_st 100 t8 z1.1 (7 : Int32) (0 : Int32)).bind fun t9 => (mk_st 100 t9 z1.1 (8 : Int32) (0 : Int32)).bind fun t10 => (mk_st 100 t10 z1.1 (9 : Int32) (-1 : Int32)).bind fun t11 => (mk_pa t11 x0 11 1 z1.1).bind fun t12 => if z1.1 < t11.1.length then (mk_na 100 t12 (6 : Int32)).bind fun z13 => (mk_pa z13.2 x0 11 2 z13.1).bind fun t14 => if z13.1 < z13.2.1.length then (mk_na 100 t14 (6 : Int32)).bind fun z15 => (mk_pa z15.2 x0 11 3 z15.1).bind fun t16 => if z15.1 < z15.2.1.length then (mk_na 100 t16 (6 : Int32)).bind fun z17 => (mk_pa z17.2 x0 11 4 z17.1).bind fun t18 => if z17.1 < z17.2.1.length then (mk_na 100 t18 (6 : Int32)).bind fun z19 => (mk_pa z19.2 x0 11 5 z19.1).bind fun t20 => if z19.1 < z19.2.1.length then (mk_na 100 t20 (6 : Int32)).bind fun z21 => (mk_pa z21.2 x0 11 6 z21.1).bind fun t22 => if z21.1 < z21.2.1.length then (mk_na 100 t22 (4 : Int32)).bind fun z23 => (mk_pa z23.2 x0 11 7 z23.1).bind fun t24 => if z23.1 < z23.2.1.length then (mk_na 100 t24 (36 : Int32)).bind fun z25 => (mk_pa z25.2 x0 11 8 z25.1).bind fun t26 => if z25.1 < z25.2.1.length then (mk_na 100 t26 (6 : Int32)).bind fun z27 => (mk_pa z27.2 x0 11 9 z27.1).bind fun t28 => if z27.1 < z27.2.1.length then (mk_na 100 t28 (4 : Int32)).bind fun z29 => (mk_pa z29.2 x0 11 10 z29.1).bind fun t30 => if z29.1 < z29.2.1.length then (mk_na 100 t30 (4 : Int32)).bind fun z31 => (mk_pa z31.2 x0 11 11 z31.1).bind fun t32 => if z31.1 < z31.2.1.length then (mk_na 100 t32 (4 : Int32)).bind fun z33 => (mk_pa z33.2 x0 11 12 z33.1).bind fun t34 => if z33.1 < z33.2.1.length then (mk_na 100 t34 (4 : Int32)).bind fun z35 => (mk_pa z35.2 x0 11 13 z35.1).bind fun t36 => if z35.1 < z35.2.1.length then (mk_na 100 t36 (10 : Int32)).bind fun z37 => (mk_pa z37.2 x0 11 14 z37.1).bind fun t38 => if z37.1 < z37.2.1.length then (mk_na 100 t38 (10 : Int32)).bind fun z39 => (mk_pa z39.2 x0 11 15 z39.1).bind fun t40 => if z39.1 < z39.2.1.length then (mk_na 100 t40 (10 : Int32)).bind fun z41 => (mk_pa z41.2 x0 11 16 z41.1).bind fun t42 => if z41.1 < z41.2.1.length then (mk_na 100 t42 (6 : Int32)).bind fun z43 => (mk_pa z43.2 x0 11 17 z43.1).bind fun t44 => if z43.1 < z43.2.1.length then (mk_na 100 t44 (6 : Int32)).bind fun z45 => (mk_pa z45.2 x0 11 18 z45.1).bind fun t46 => if z45.1 < z45.2.1.length then (mk_na 100 t46 (5 : Int32)).bind fun z47 => (mk_pa z47.2 x0 11 19 z47.1).bind fun t48 => if z47.1 < z47.2.1.length then (mk_na 100 t48 (6 : Int32)).bind fun z49 => (mk_pa z49.2 x0 11 20 z49.1).bind fun t50 => if z49.1 < z49.2.1.length then (mk_na 100 t50 (6 : Int32)).bind fun z51 => (mk_pa z51.2 x0 11 21 z51.1).bind fun t52 => if z51.1 < z51.2.1.length then (mk_na 100 t52 (6 : Int32)).bind fun z53 => (mk_pa z53.2 x0 11 22 z53.1).bind fun t54 => if z53.1 < z53.2.1.length then (mk_na 100 t54 (4 : Int32)).bind fun z55 => (mk_pa z55.2 x0 11 23 z55.1).bind fun t56 => if z55.1 < z55.2.1.length then (mk_na 100 t56 (4 : Int32)).bind fun z57 => (mk_pa z57.2 x0 11 24 z57.1).bind fun t58 => if z57.1 < z57.2.1.length then (mk_na 100 t58 (4 : Int32)).bind fun z59 => (mk_pa z59.2 x0 11 25 z59.1).bind fun t60 => if z59.1 < z59.2.1.length then (mk_na 100 t60 (4 : Int32)).bind fun z61 => (mk_pa z61.2 x0 11 26 z61.1).bind fun t62 => if z61.1 < z61.2.1.length then (mk_pi t62 x0 11 36 (12 : Int32)).bind fun t63 => (mk_na 102 t63 (400 : Int32)).bind fun z64 => (mk_pa z64.2 x0 11 37 z64.1).bind fun t65 => if z64.1 < z64.2.1.length then (mk_na 100 t65 (1800 : Int32)).bind fun z66 => (mk_pa z66.2 x0 11 38 z66.1).bind fun t67 => if z66.1 < z66.2.1.length then (mk_na 100 t67 (1800 : Int32)).bind fun z68 => (mk_pa z68.2 x0 11 39 z68.1).bind fun t69 => if z68.1 < z68.2.1.length then (mk_na 100 t69 (6 : Int32)).bind fun z70 => (mk_pa z70.2 x0 11 40 z70.1).bind fun t71 => if z70.1 < z70.2.1.length then (mk_na 100 t71 (72 : Int32)).bind fun z72 => (mk_pa z72.2 x0 11 41 z72.1).bind fun t73 => if z72.1 < z72.2.1.length then (mk_na 100 t73 (72 : Int32)).bind fun z74 => (mk_pa z74.2 x0 11 42 z74.1).bind fun t75 => if z74.1 < z74.2.1.length then (mk_na 100 t75 (72 : Int32)).bind fun z76 => (mk_pa z76.2 x0 11 43 z76.1).bind fun t77 => if z76.1 < z76.2.1.length then (mk_na 100 t77 (402 : Int32)).bind fun z78 => (mk_pa z78.2 x0 11 44 z78.1).bind fun t79 => if z78.1 < z78.2.1.length then (mk_na 101 t79 (12 : Int32)).bind fun z80 => (mk_pa z80.2 x0 11 45 z80.1).bind fun t81 => if z80.1 < z80.2.1.length then (mk_na 101 t81 (300 : Int32)).bind fun z82 => (mk_pa z82.2 x0 11 46 z82.1).bind fun t83 => if z82.1 < z82.2.1.length then (mk_pi t83 x0 11 47 (-1 : Int32)).bind fun t84 => (mk_na 100 t84 (1440 : Int32)).bind fun z85 => (mk_pa z85.2 x0 11 48 z85.1).bind fun t86 => if z85.1 < z85.2.1.length then (mk_na 100 t86 (1 : Int32)).bind fun z87 => (mk_pa z87.2 x0 11 49 z87.1).bind fun t88 => if z87.1 < z87.2.1.length then (mk_na 100 t88 (16 : Int32)).bind fun z89 => (mk_pa z89.2 x0 11 56 z89.1).bind fun t90 => if z89.1 < z89.2.1.length then (mk_na 100 t90 (16 : Int32)).bind fun z91 => (mk_pa z91.2 x0 11 57 z91.1).bind fun t92 => if z91.1 < z91.2.1.length then (mk_na 100 t92 (2196 : Int32)).bind fun z93 => (mk_pa z93.2 x0 11 58 z93.1).bind fun t94 => if z93.1 < z93.2.1.length then (mk_na 100 t94 (252 : Int32)).bind fun z95 => (mk_pa z95.2 x0 11 59 z95.1).bind fun t96 => if z95.1 < z95.2.1.length then (mk_na 100 t96 (8500 : Int32)).bind fun z97 => (mk_pa z97.2 x0 11 60 z97.1).bind fun t98 => if z97.1 < z97.2.1.length then (mk_na 103 t98 (4 : Int32)).bind fun z99 => (mk_pa z99.2 x0 11 61 z99.1).bind fun t100 => if z99.1 < z99.2.1.length then some ((), t100) else none else none else none else none else none else none else none else none else none else none else none else none else none else none else none else none else none else none else none else none else none else none else none else none else none else none else none else none else none else none else none else none else none else none else none else none else none else none else none else none else none else none else none else none)
theorem p_X12_init (x0 : Nat) (t : mk_S) : mk_O mk_wu M_X12_init 0 [some (.ref x0)] [] t ((mk_na 100 t (10 : Int32)).bind fun z1 => (mk_st 100 z1.2 z1.1 (0 : Int32) (0 : Int32)).bind fun t2 => (mk_st 100 t2 z1.1 (1 : Int32) (0 : Int32)).bind fun t3 => (mk_st 100 t3 z1.1 (2 : Int32) (0 : Int32)).bind fun t4 => (mk_st 100 t4 z1.1 (3 : Int32) (0 : Int32)).bind fun t5 => (mk_st 100 t5 z1.1 (4 : Int32) (0 : Int32)).bind fun t6 => (mk_st 100 t6 z1.1 (5 : Int32) (0 : Int32)).bind fun t7 => (mk_st 100 t7 z1.1 (6 : Int32) (0 : Int32)).bind fun t8 => (mk_st 100 t8 z1.1 (7 : Int32) (0 : Int32)).bind fun t9 => (mk_st 100 t9 z1.1 (8 : Int32) (0 : Int32)).bind fun t10 => (mk_st 100 t10 z1.1 (9 : Int32) (-1 : Int32)).bind fun t11 => (mk_pa t11 x0 11 1 z1.1).bind fun t12 => if z1.1 < t11.1.length then (mk_na 100 t12 (6 : Int32)).bind fun z13 => (mk_pa z13.2 x0 11 2 z13.1).bind fun t14 => if z13.1 < z13.2.1.length then (mk_na 100 t14 (6 : Int32)).bind fun z15 => (mk_pa z15.2 x0 11 3 z15.1).bind fun t16 => if z15.1 < z15.2.1.length then (mk_na 100 t16 (6 : Int32)).bind fun z17 => (mk_pa z17.2 x0 11 4 z17.1).bind fun t18 => if z17.1 < z17.2.1.length then (mk_na 100 t18 (6 : Int32)).bind fun z19 => (mk_pa z19.2 x0 11 5 z19.1).bind fun t20 => if z19.1 < z19.2.1.length then (mk_na 100 t20 (6 : Int32)).bind fun z21 => (mk_pa z21.2 x0 11 6 z21.1).bind fun t22 => if z21.1 < z21.2.1.length then (mk_na 100 t22 (4 : Int32)).bind fun z23 => (mk_pa z23.2 x0 11 7 z23.1).bind fun t24 => if z23.1 < z23.2.1.length then (mk_na 100 t24 (36 : Int32)).bind fun z25 => (mk_pa z25.2 x0 11 8 z25.1).bind fun t26 => if z25.1 < z25.2.1.length then (mk_na 100 t26 (6 : Int32)).bind fun z27 => (mk_pa z27.2 x0 11 9 z27.1).bind fun t28 => if z27.1 < z27.2.1.length then (mk_na 100 t28 (4 : Int32)).bind fun z29 => (mk_pa z29.2 x0 11 10 z29.1).bind fun t30 => if z29.1 < z29.2.1.length then (mk_na 100 t30 (4 : Int32)).bind fun z31 => (mk_pa z31.2 x0 11 11 z31.1).bind fun t32 => if z31.1 < z31.2.1.length then (mk_na 100 t32 (4 : Int32)).bind fun z33 => (mk_pa z33.2 x0 11 12 z33.1).bind fun t34 => if z33.1 < z33.2.1.length then (mk_na 100 t34 (4 : Int32)).bind fun z35 => (mk_pa z35.2 x0 11 13 z35.1).bind fun t36 => if z35.1 < z35.2.1.length then (mk_na 100 t36 (10 : Int32)).bind fun z37 => (mk_pa z37.2 x0 11 14 z37.1).bind fun t38 => if z37.1 < z37.2.1.length then (mk_na 100 t38 (10 : Int32)).bind fun z39 => (mk_pa z39.2 x0 11 15 z39.1).bind fun t40 => if z39.1 < z39.2.1.length then (mk_na 100 t40 (10 : Int32)).bind fun z41 => (mk_pa z41.2 x0 11 16 z41.1).bind fun t42 => if z41.1 < z41.2.1.length then (mk_na 100 t42 (6 : Int32)).bind fun z43 => (mk_pa z43.2 x0 11 17 z43.1).bind fun t44 => if z43.1 < z43.2.1.length then (mk_na 100 t44 (6 : Int32)).bind fun z45 => (mk_pa z45.2 x0 11 18 z45.1).bind fun t46 => if z45.1 < z45.2.1.length then (mk_na 100 t46 (5 : Int32)).bind fun z47 => (mk_pa z47.2 x0 11 19 z47.1).bind fun t48 => if z47.1 < z47.2.1.length then (mk_na 100 t48 (6 : Int32)).bind fun z49 => (mk_pa z49.2 x0 11 20 z49.1).bind fun t50 => if z49.1 < z49.2.1.length then (mk_na 100 t50 (6 : Int32)).bind fun z51 => (mk_pa z51.2 x0 11 21 z51.1).bind fun t52 => if z51.1 < z51.2.1.length then (mk_na 100 t52 (6 : Int32)).bind fun z53 => (mk_pa z53.2 x0 11 22 z53.1).bind fun t54 => if z53.1 < z53.2.1.length then (mk_na 100 t54 (4 : Int32)).bind fun z55 => (mk_pa z55.2 x0 11 23 z55.1).bind fun t56 => if z55.1 < z55.2.1.length then (mk_na 100 t56 (4 : Int32)).bind fun z57 => (mk_pa z57.2 x0 11 24 z57.1).bind fun t58 => if z57.1 < z57.2.1.length then (mk_na 100 t58 (4 : Int32)).bind fun z59 => (mk_pa z59.2 x0 11 25 z59.1).bind fun t60 => if z59.1 < z59.2.1.length then (mk_na 100 t60 (4 : Int32)).bind fun z61 => (mk_pa z61.2 x0 11 26 z61.1).bind fun t62 => if z61.1 < z61.2.1.length then (mk_pi t62 x0 11 36 (12 : Int32)).bind fun t63 => (mk_na 102 t63 (400 : Int32)).bind fun z64 => (mk_pa z64.2 x0 11 37 z64.1).bind fun t65 => if z64.1 < z64.2.1.length then (mk_na 100 t65 (1800 : Int32)).bind fun z66 => (mk_pa z66.2 x0 11 38 z66.1).bind fun t67 => if z66.1 < z66.2.1.length then (mk_na 100 t67 (1800 : Int32)).bind fun z68 => (mk_pa z68.2 x0 11 39 z68.1).bind fun t69 => if z68.1 < z68.2.1.length then (mk_na 100 t69 (6 : Int32)).bind fun z70 => (mk_pa z70.2 x0 11 40 z70.1).bind fun t71 => if z70.1 < z70.2.1.length then (mk_na 100 t71 (72 : Int32)).bind fun z72 => (mk_pa z72.2 x0 11 41 z72.1).bind fun t73 => if z72.1 < z72.2.1.length then (mk_na 100 t73 (72 : Int32)).bind fun z74 => (mk_pa z74.2 x0 11 42 z74.1).bind fun t75 => if z74.1 < z74.2.1.length then (mk_na 100 t75 (72 : Int32)).bind fun z76 => (mk_pa z76.2 x0 11 43 z76.1).bind fun t77 => if z76.1 < z76.2.1.length then (mk_na 100 t77 (402 : Int32)).bind fun z78 => (mk_pa z78.2 x0 11 44 z78.1).bind fun t79 => if z78.1 < z78.2.1.length then (mk_na 101 t79 (12 : Int32)).bind fun z80 => (mk_pa z80.2 x0 11 45 z80.1).bind fun t81 => if z80.1 < z80.2.1.length then (mk_na 101 t81 (300 : Int32)).bind fun z82 => (mk_pa z82.2 x0 11 46 z82.1).bind fun t83 => if z82.1 < z82.2.1.length then (mk_pi t83 x0 11 47 (-1 : Int32)).bind fun t84 => (mk_na 100 t84 (1440 : Int32)).bind fun z85 => (mk_pa z85.2 x0 11 48 z85.1).bind fun t86 => if z85.1 < z85.2.1.length then (mk_na 100 t86 (1 : Int32)).bind fun z87 => (mk_pa z87.2 x0 11 49 z87.1).bind fun t88 => if z87.1 < z87.2.1.length then (mk_na 100 t88 (16 : Int32)).bind fun z89 => (mk_pa z89.2 x0 11 56 z89.1).bind fun t90 => if z89.1 < z89.2.1.length then (mk_na 100 t90 (16 : Int32)).bind fun z91 => (mk_pa z91.2 x0 11 57 z91.1).bind fun t92 => if z91.1 < z91.2.1.length then (mk_na 100 t92 (2196 : Int32)).bind fun z93 => (mk_pa z93.2 x0 11 58 z93.1).bind fun t94 => if z93.1 < z93.2.1.length then (mk_na 100 t94 (252 : Int32)).bind fun z95 => (mk_pa z95.2 x0 11 59 z95.1).bind fun t96 => if z95.1 < z95.2.1.length then (mk_na 100 t96 (8500 : Int32)).bind fun z97 => (mk_pa z97.2 x0 11 60 z97.1).bind fun t98 => if z97.1 < z97.2.1.length then (mk_na 103 t98 (4 : Int32)).bind fun z99 => (mk_pa z99.2 x0 11 61 z99.1).bind fun t100 => if z99.1 < z99.2.1.length then some ((), t100) else none else none else none else none else none else none else none else none else none else none else none else none else none else none else none else none else none else none else none else none else none else none else none else none else none else none else none else none else none else none else none else none else none else none else none else none else none else none else none else none else none else none else none else none) := by
  refine xo_aload_n rfl rfl dX12_init_0 ?_
  refine xo_obj lo_RX12_3 (by decide) (Nat.le_of_ble_eq_true rfl) dX12_init_1 ?_
  refine xo_aload_n rfl rfl dX12_init_4 ?_
  refine xo_bipush kb_10 dX12_init_5 ?_
  refine xo_newai (mk_w1 (i := 65) rfl rfl) dX12_init_7 (fun z1 _ => ?_)
  refine xo_dup rfl dX12_init_9 ?_
  refine xo_iconst kc_0 dX12_init_10 ?_
  refine xo_iconst kc_0 dX12_init_11 ?_
  refine xo_iast dX12_init_12 (fun t2 => ?_)
  refine xo_dup rfl dX12_init_13 ?_
  refine xo_iconst kc_1 dX12_init_14 ?_
  refine xo_iconst kc_0 dX12_init_15 ?_
  refine xo_iast dX12_init_16 (fun t3 => ?_)
  refine xo_dup rfl dX12_init_17 ?_
  refine xo_iconst kc_2 dX12_init_18 ?_
  refine xo_iconst kc_0 dX12_init_19 ?_
  refine xo_iast dX12_init_20 (fun t4 => ?_)
  refine xo_dup rfl dX12_init_21 ?_
  refine xo_iconst kc_3 dX12_init_22 ?_
  refine xo_iconst kc_0 dX12_init_23 ?_
  refine xo_iast dX12_init_24 (fun t5 => ?_)
  refine xo_dup rfl dX12_init_25 ?_
  refine xo_iconst kc_4 dX12_init_26 ?_
  refine xo_iconst kc_0 dX12_init_27 ?_
  refine xo_iast dX12_init_28 (fun t6 => ?_)
  refine xo_dup rfl dX12_init_29 ?_
  refine xo_iconst kc_5 dX12_init_30 ?_
  refine xo_iconst kc_0 dX12_init_31 ?_
  refine xo_iast dX12_init_32 (fun t7 => ?_)
  refine xo_dup rfl dX12_init_33 ?_
  refine xo_bipush kb_6 dX12_init_34 ?_
  refine xo_iconst kc_0 dX12_init_36 ?_
  refine xo_iast dX12_init_37 (fun t8 => ?_)
  refine xo_dup rfl dX12_init_38 ?_
  refine xo_bipush kb_7 dX12_init_39 ?_
  refine xo_iconst kc_0 dX12_init_41 ?_
  refine xo_iast dX12_init_42 (fun t9 => ?_)
  refine xo_dup rfl dX12_init_43 ?_
  refine xo_bipush kb_8 dX12_init_44 ?_
  refine xo_iconst kc_0 dX12_init_46 ?_
  refine xo_iast dX12_init_47 (fun t10 => ?_)
  refine xo_dup rfl dX12_init_48 ?_
  refine xo_bipush kb_9 dX12_init_49 ?_
  refine xo_iconst kc_m1 dX12_init_51 ?_
  refine xo_iast dX12_init_52 (fun t11 => ?_)
  refine xo_puta dX12_init_53 cl_11 ⟨RX12, TX12, 64, rfl, by decide, (mk_w5 (i := 168) rfl rfl)⟩ rfl ft_11_1 (fun _ => rfl) (fun _ => rfl) rfl rfl (fun t12 => ?_)
  refine xo_aload_n rfl rfl dX12_init_56 ?_
  refine xo_bipush kb_6 dX12_init_57 ?_
  refine xo_newai (mk_w1 (i := 65) rfl rfl) dX12_init_59 (fun z13 _ => ?_)
  refine xo_puta dX12_init_61 cl_11 ⟨RX12, TX12, 64, rfl, by decide, (mk_w5 (i := 169) rfl rfl)⟩ rfl ft_11_2 (fun _ => rfl) (fun _ => rfl) rfl rfl (fun t14 => ?_)
  refine xo_aload_n rfl rfl dX12_init_64 ?_
  refine xo_bipush kb_6 dX12_init_65 ?_
  refine xo_newai (mk_w1 (i := 65) rfl rfl) dX12_init_67 (fun z15 _ => ?_)
  refine xo_puta dX12_init_69 cl_11 ⟨RX12, TX12, 64, rfl, by decide, (mk_w5 (i := 170) rfl rfl)⟩ rfl ft_11_3 (fun _ => rfl) (fun _ => rfl) rfl rfl (fun t16 => ?_)
  refine xo_aload_n rfl rfl dX12_init_72 ?_
  refine xo_bipush kb_6 dX12_init_73 ?_
  refine xo_newai (mk_w1 (i := 65) rfl rfl) dX12_init_75 (fun z17 _ => ?_)
  refine xo_puta dX12_init_77 cl_11 ⟨RX12, TX12, 64, rfl, by decide, (mk_w5 (i := 171) rfl rfl)⟩ rfl ft_11_4 (fun _ => rfl) (fun _ => rfl) rfl rfl (fun t18 => ?_)
  refine xo_aload_n rfl rfl dX12_init_80 ?_
  refine xo_bipush kb_6 dX12_init_81 ?_
  refine xo_newai (mk_w1 (i := 65) rfl rfl) dX12_init_83 (fun z19 _ => ?_)
  refine xo_puta dX12_init_85 cl_11 ⟨RX12, TX12, 64, rfl, by decide, (mk_w5 (i := 172) rfl rfl)⟩ rfl ft_11_5 (fun _ => rfl) (fun _ => rfl) rfl rfl (fun t20 => ?_)
  refine xo_aload_n rfl rfl dX12_init_88 ?_
  refine xo_bipush kb_6 dX12_init_89 ?_
  refine xo_newai (mk_w1 (i := 65) rfl rfl) dX12_init_91 (fun z21 _ => ?_)
  refine xo_puta dX12_init_93 cl_11 ⟨RX12, TX12, 64, rfl, by decide, (mk_w5 (i := 173) rfl rfl)⟩ rfl ft_11_6 (fun _ => rfl) (fun _ => rfl) rfl rfl (fun t22 => ?_)
  refine xo_aload_n rfl rfl dX12_init_96 ?_
  refine xo_iconst kc_4 dX12_init_97 ?_
  refine xo_newai (mk_w1 (i := 65) rfl rfl) dX12_init_98 (fun z23 _ => ?_)
  refine xo_puta dX12_init_100 cl_11 ⟨RX12, TX12, 64, rfl, by decide, (mk_w5 (i := 174) rfl rfl)⟩ rfl ft_11_7 (fun _ => rfl) (fun _ => rfl) rfl rfl (fun t24 => ?_)
  refine xo_aload_n rfl rfl dX12_init_103 ?_
  refine xo_bipush kb_36 dX12_init_104 ?_
  refine xo_newai (mk_w1 (i := 65) rfl rfl) dX12_init_106 (fun z25 _ => ?_)
  refine xo_puta dX12_init_108 cl_11 ⟨RX12, TX12, 64, rfl, by decide, (mk_w5 (i := 175) rfl rfl)⟩ rfl ft_11_8 (fun _ => rfl) (fun _ => rfl) rfl rfl (fun t26 => ?_)
  refine xo_aload_n rfl rfl dX12_init_111 ?_
  refine xo_bipush kb_6 dX12_init_112 ?_
  refine xo_newai (mk_w1 (i := 65) rfl rfl) dX12_init_114 (fun z27 _ => ?_)
  refine xo_puta dX12_init_116 cl_11 ⟨RX12, TX12, 64, rfl, by decide, (mk_w5 (i := 176) rfl rfl)⟩ rfl ft_11_9 (fun _ => rfl) (fun _ => rfl) rfl rfl (fun t28 => ?_)
  refine xo_aload_n rfl rfl dX12_init_119 ?_
  refine xo_iconst kc_4 dX12_init_120 ?_
  refine xo_newai (mk_w1 (i := 65) rfl rfl) dX12_init_121 (fun z29 _ => ?_)
  refine xo_puta dX12_init_123 cl_11 ⟨RX12, TX12, 64, rfl, by decide, (mk_w5 (i := 177) rfl rfl)⟩ rfl ft_11_10 (fun _ => rfl) (fun _ => rfl) rfl rfl (fun t30 => ?_)
  refine xo_aload_n rfl rfl dX12_init_126 ?_
  refine xo_iconst kc_4 dX12_init_127 ?_
  refine xo_newai (mk_w1 (i := 65) rfl rfl) dX12_init_128 (fun z31 _ => ?_)
  refine xo_puta dX12_init_130 cl_11 ⟨RX12, TX12, 64, rfl, by decide, (mk_w5 (i := 178) rfl rfl)⟩ rfl ft_11_11 (fun _ => rfl) (fun _ => rfl) rfl rfl (fun t32 => ?_)
  refine xo_aload_n rfl rfl dX12_init_133 ?_
  refine xo_iconst kc_4 dX12_init_134 ?_
  refine xo_newai (mk_w1 (i := 65) rfl rfl) dX12_init_135 (fun z33 _ => ?_)
  refine xo_puta dX12_init_137 cl_11 ⟨RX12, TX12, 64, rfl, by decide, (mk_w5 (i := 179) rfl rfl)⟩ rfl ft_11_12 (fun _ => rfl) (fun _ => rfl) rfl rfl (fun t34 => ?_)
  refine xo_aload_n rfl rfl dX12_init_140 ?_
  refine xo_iconst kc_4 dX12_init_141 ?_
  refine xo_newai (mk_w1 (i := 65) rfl rfl) dX12_init_142 (fun z35 _ => ?_)
  refine xo_puta dX12_init_144 cl_11 ⟨RX12, TX12, 64, rfl, by decide, (mk_w5 (i := 180) rfl rfl)⟩ rfl ft_11_13 (fun _ => rfl) (fun _ => rfl) rfl rfl (fun t36 => ?_)
  refine xo_aload_n rfl rfl dX12_init_147 ?_
  refine xo_bipush kb_10 dX12_init_148 ?_
  refine xo_newai (mk_w1 (i := 65) rfl rfl) dX12_init_150 (fun z37 _ => ?_)
  refine xo_puta dX12_init_152 cl_11 ⟨RX12, TX12, 64, rfl, by decide, (mk_w5 (i := 181) rfl rfl)⟩ rfl ft_11_14 (fun _ => rfl) (fun _ => rfl) rfl rfl (fun t38 => ?_)
  refine xo_aload_n rfl rfl dX12_init_155 ?_
  refine xo_bipush kb_10 dX12_init_156 ?_
  refine xo_newai (mk_w1 (i := 65) rfl rfl) dX12_init_158 (fun z39 _ => ?_)
  refine xo_puta dX12_init_160 cl_11 ⟨RX12, TX12, 64, rfl, by decide, (mk_w5 (i := 182) rfl rfl)⟩ rfl ft_11_15 (fun _ => rfl) (fun _ => rfl) rfl rfl (fun t40 => ?_)
  refine xo_aload_n rfl rfl dX12_init_163 ?_
  refine xo_bipush kb_10 dX12_init_164 ?_
  refine xo_newai (mk_w1 (i := 65) rfl rfl) dX12_init_166 (fun z41 _ => ?_)
  refine xo_puta dX12_init_168 cl_11 ⟨RX12, TX12, 64, rfl, by decide, (mk_w5 (i := 183) rfl rfl)⟩ rfl ft_11_16 (fun _ => rfl) (fun _ => rfl) rfl rfl (fun t42 => ?_)
  refine xo_aload_n rfl rfl dX12_init_171 ?_
  refine xo_bipush kb_6 dX12_init_172 ?_
  refine xo_newai (mk_w1 (i := 65) rfl rfl) dX12_init_174 (fun z43 _ => ?_)
  refine xo_puta dX12_init_176 cl_11 ⟨RX12, TX12, 64, rfl, by decide, (mk_w5 (i := 184) rfl rfl)⟩ rfl ft_11_17 (fun _ => rfl) (fun _ => rfl) rfl rfl (fun t44 => ?_)
  refine xo_aload_n rfl rfl dX12_init_179 ?_
  refine xo_bipush kb_6 dX12_init_180 ?_
  refine xo_newai (mk_w1 (i := 65) rfl rfl) dX12_init_182 (fun z45 _ => ?_)
  refine xo_puta dX12_init_184 cl_11 ⟨RX12, TX12, 64, rfl, by decide, (mk_w5 (i := 185) rfl rfl)⟩ rfl ft_11_18 (fun _ => rfl) (fun _ => rfl) rfl rfl (fun t46 => ?_)
  refine xo_aload_n rfl rfl dX12_init_187 ?_
  refine xo_iconst kc_5 dX12_init_188 ?_
  refine xo_newai (mk_w1 (i := 65) rfl rfl) dX12_init_189 (fun z47 _ => ?_)
  refine xo_puta dX12_init_191 cl_11 ⟨RX12, TX12, 64, rfl, by decide, (mk_w5 (i := 186) rfl rfl)⟩ rfl ft_11_19 (fun _ => rfl) (fun _ => rfl) rfl rfl (fun t48 => ?_)
  refine xo_aload_n rfl rfl dX12_init_194 ?_
  refine xo_bipush kb_6 dX12_init_195 ?_
  refine xo_newai (mk_w1 (i := 65) rfl rfl) dX12_init_197 (fun z49 _ => ?_)
  refine xo_puta dX12_init_199 cl_11 ⟨RX12, TX12, 64, rfl, by decide, (mk_w5 (i := 187) rfl rfl)⟩ rfl ft_11_20 (fun _ => rfl) (fun _ => rfl) rfl rfl (fun t50 => ?_)
  refine xo_aload_n rfl rfl dX12_init_202 ?_
  refine xo_bipush kb_6 dX12_init_203 ?_
  refine xo_newai (mk_w1 (i := 65) rfl rfl) dX12_init_205 (fun z51 _ => ?_)
  refine xo_puta dX12_init_207 cl_11 ⟨RX12, TX12, 64, rfl, by decide, (mk_w5 (i := 188) rfl rfl)⟩ rfl ft_11_21 (fun _ => rfl) (fun _ => rfl) rfl rfl (fun t52 => ?_)
  refine xo_aload_n rfl rfl dX12_init_210 ?_
  refine xo_bipush kb_6 dX12_init_211 ?_
  refine xo_newai (mk_w1 (i := 65) rfl rfl) dX12_init_213 (fun z53 _ => ?_)
  refine xo_puta dX12_init_215 cl_11 ⟨RX12, TX12, 64, rfl, by decide, (mk_w5 (i := 189) rfl rfl)⟩ rfl ft_11_22 (fun _ => rfl) (fun _ => rfl) rfl rfl (fun t54 => ?_)
  refine xo_aload_n rfl rfl dX12_init_218 ?_
  refine xo_iconst kc_4 dX12_init_219 ?_
  refine xo_newai (mk_w1 (i := 65) rfl rfl) dX12_init_220 (fun z55 _ => ?_)
  refine xo_puta dX12_init_222 cl_11 ⟨RX12, TX12, 64, rfl, by decide, (mk_w5 (i := 190) rfl rfl)⟩ rfl ft_11_23 (fun _ => rfl) (fun _ => rfl) rfl rfl (fun t56 => ?_)
  refine xo_aload_n rfl rfl dX12_init_225 ?_
  refine xo_iconst kc_4 dX12_init_226 ?_
  refine xo_newai (mk_w1 (i := 65) rfl rfl) dX12_init_227 (fun z57 _ => ?_)
  refine xo_puta dX12_init_229 cl_11 ⟨RX12, TX12, 64, rfl, by decide, (mk_w5 (i := 191) rfl rfl)⟩ rfl ft_11_24 (fun _ => rfl) (fun _ => rfl) rfl rfl (fun t58 => ?_)
  refine xo_aload_n rfl rfl dX12_init_232 ?_
  refine xo_iconst kc_4 dX12_init_233 ?_
  refine xo_newai (mk_w1 (i := 65) rfl rfl) dX12_init_234 (fun z59 _ => ?_)
  refine xo_puta dX12_init_236 cl_11 ⟨RX12, TX12, 64, rfl, by decide, (mk_w5 (i := 192) rfl rfl)⟩ rfl ft_11_25 (fun _ => rfl) (fun _ => rfl) rfl rfl (fun t60 => ?_)
  refine xo_aload_n rfl rfl dX12_init_239 ?_
  refine xo_iconst kc_4 dX12_init_240 ?_
  refine xo_newai (mk_w1 (i := 65) rfl rfl) dX12_init_241 (fun z61 _ => ?_)
  refine xo_puta dX12_init_243 cl_11 ⟨RX12, TX12, 64, rfl, by decide, (mk_w5 (i := 193) rfl rfl)⟩ rfl ft_11_26 (fun _ => rfl) (fun _ => rfl) rfl rfl (fun t62 => ?_)
  refine xo_aload_n rfl rfl dX12_init_246 ?_
  refine xo_bipush kb_12 dX12_init_247 ?_
  refine xo_puti dX12_init_249 cl_11 fl_RX12_88 rfl ft_11_36 (fun t63 => ?_)
  refine xo_aload_n rfl rfl dX12_init_252 ?_
  refine xo_sipush ks_400 dX12_init_253 ?_
  refine xo_newab (mk_w3 (i := 148) rfl rfl) dX12_init_256 (fun z64 _ => ?_)
  refine xo_puta dX12_init_258 cl_11 ⟨RX12, TX12, 64, rfl, by decide, (mk_w5 (i := 204) rfl rfl)⟩ rfl ft_11_37 (fun _ => rfl) (fun _ => rfl) rfl rfl (fun t65 => ?_)
  refine xo_aload_n rfl rfl dX12_init_261 ?_
  refine xo_sipush ks_1800 dX12_init_262 ?_
  refine xo_newai (mk_w1 (i := 65) rfl rfl) dX12_init_265 (fun z66 _ => ?_)
  refine xo_puta dX12_init_267 cl_11 ⟨RX12, TX12, 64, rfl, by decide, (mk_w5 (i := 205) rfl rfl)⟩ rfl ft_11_38 (fun _ => rfl) (fun _ => rfl) rfl rfl (fun t67 => ?_)
  refine xo_aload_n rfl rfl dX12_init_270 ?_
  refine xo_sipush ks_1800 dX12_init_271 ?_
  refine xo_newai (mk_w1 (i := 65) rfl rfl) dX12_init_274 (fun z68 _ => ?_)
  refine xo_puta dX12_init_276 cl_11 ⟨RX12, TX12, 64, rfl, by decide, (mk_w5 (i := 206) rfl rfl)⟩ rfl ft_11_39 (fun _ => rfl) (fun _ => rfl) rfl rfl (fun t69 => ?_)
  refine xo_aload_n rfl rfl dX12_init_279 ?_
  refine xo_bipush kb_6 dX12_init_280 ?_
  refine xo_newai (mk_w1 (i := 65) rfl rfl) dX12_init_282 (fun z70 _ => ?_)
  refine xo_puta dX12_init_284 cl_11 ⟨RX12, TX12, 64, rfl, by decide, (mk_w5 (i := 207) rfl rfl)⟩ rfl ft_11_40 (fun _ => rfl) (fun _ => rfl) rfl rfl (fun t71 => ?_)
  refine xo_aload_n rfl rfl dX12_init_287 ?_
  refine xo_bipush kb_72 dX12_init_288 ?_
  refine xo_newai (mk_w1 (i := 65) rfl rfl) dX12_init_290 (fun z72 _ => ?_)
  refine xo_puta dX12_init_292 cl_11 ⟨RX12, TX12, 64, rfl, by decide, (mk_w5 (i := 208) rfl rfl)⟩ rfl ft_11_41 (fun _ => rfl) (fun _ => rfl) rfl rfl (fun t73 => ?_)
  refine xo_aload_n rfl rfl dX12_init_295 ?_
  refine xo_bipush kb_72 dX12_init_296 ?_
  refine xo_newai (mk_w1 (i := 65) rfl rfl) dX12_init_298 (fun z74 _ => ?_)
  refine xo_puta dX12_init_300 cl_11 ⟨RX12, TX12, 64, rfl, by decide, (mk_w5 (i := 209) rfl rfl)⟩ rfl ft_11_42 (fun _ => rfl) (fun _ => rfl) rfl rfl (fun t75 => ?_)
  refine xo_aload_n rfl rfl dX12_init_303 ?_
  refine xo_bipush kb_72 dX12_init_304 ?_
  refine xo_newai (mk_w1 (i := 65) rfl rfl) dX12_init_306 (fun z76 _ => ?_)
  refine xo_puta dX12_init_308 cl_11 ⟨RX12, TX12, 64, rfl, by decide, (mk_w5 (i := 210) rfl rfl)⟩ rfl ft_11_43 (fun _ => rfl) (fun _ => rfl) rfl rfl (fun t77 => ?_)
  refine xo_aload_n rfl rfl dX12_init_311 ?_
  refine xo_sipush ks_402 dX12_init_312 ?_
  refine xo_newai (mk_w1 (i := 65) rfl rfl) dX12_init_315 (fun z78 _ => ?_)
  refine xo_puta dX12_init_317 cl_11 ⟨RX12, TX12, 64, rfl, by decide, (mk_w5 (i := 211) rfl rfl)⟩ rfl ft_11_44 (fun _ => rfl) (fun _ => rfl) rfl rfl (fun t79 => ?_)
  refine xo_aload_n rfl rfl dX12_init_320 ?_
  refine xo_bipush kb_12 dX12_init_321 ?_
  refine xo_newal (mk_w2 (i := 91) rfl rfl) dX12_init_323 (fun z80 _ => ?_)
  refine xo_puta dX12_init_325 cl_11 ⟨RX12, TX12, 64, rfl, by decide, (mk_w5 (i := 212) rfl rfl)⟩ rfl ft_11_45 (fun _ => rfl) (fun _ => rfl) rfl rfl (fun t81 => ?_)
  refine xo_aload_n rfl rfl dX12_init_328 ?_
  refine xo_sipush ks_300 dX12_init_329 ?_
  refine xo_newal (mk_w2 (i := 91) rfl rfl) dX12_init_332 (fun z82 _ => ?_)
  refine xo_puta dX12_init_334 cl_11 ⟨RX12, TX12, 64, rfl, by decide, (mk_w5 (i := 213) rfl rfl)⟩ rfl ft_11_46 (fun _ => rfl) (fun _ => rfl) rfl rfl (fun t83 => ?_)
  refine xo_aload_n rfl rfl dX12_init_337 ?_
  refine xo_iconst kc_m1 dX12_init_338 ?_
  refine xo_puti dX12_init_339 cl_11 fl_RX12_124 rfl ft_11_47 (fun t84 => ?_)
  refine xo_aload_n rfl rfl dX12_init_342 ?_
  refine xo_sipush ks_1440 dX12_init_343 ?_
  refine xo_newai (mk_w1 (i := 65) rfl rfl) dX12_init_346 (fun z85 _ => ?_)
  refine xo_puta dX12_init_348 cl_11 ⟨RX12, TX12, 64, rfl, by decide, (mk_w5 (i := 215) rfl rfl)⟩ rfl ft_11_48 (fun _ => rfl) (fun _ => rfl) rfl rfl (fun t86 => ?_)
  refine xo_aload_n rfl rfl dX12_init_351 ?_
  refine xo_iconst kc_1 dX12_init_352 ?_
  refine xo_newai (mk_w1 (i := 65) rfl rfl) dX12_init_353 (fun z87 _ => ?_)
  refine xo_puta dX12_init_355 cl_11 ⟨RX12, TX12, 64, rfl, by decide, (mk_w5 (i := 216) rfl rfl)⟩ rfl ft_11_49 (fun _ => rfl) (fun _ => rfl) rfl rfl (fun t88 => ?_)
  refine xo_aload_n rfl rfl dX12_init_358 ?_
  refine xo_bipush kb_16 dX12_init_359 ?_
  refine xo_newai (mk_w1 (i := 65) rfl rfl) dX12_init_361 (fun z89 _ => ?_)
  refine xo_puta dX12_init_363 cl_11 ⟨RX12, TX12, 64, rfl, by decide, (mk_w5 (i := 223) rfl rfl)⟩ rfl ft_11_56 (fun _ => rfl) (fun _ => rfl) rfl rfl (fun t90 => ?_)
  refine xo_aload_n rfl rfl dX12_init_366 ?_
  refine xo_bipush kb_16 dX12_init_367 ?_
  refine xo_newai (mk_w1 (i := 65) rfl rfl) dX12_init_369 (fun z91 _ => ?_)
  refine xo_puta dX12_init_371 cl_11 ⟨RX12, TX12, 64, rfl, by decide, (mk_w5 (i := 224) rfl rfl)⟩ rfl ft_11_57 (fun _ => rfl) (fun _ => rfl) rfl rfl (fun t92 => ?_)
  refine xo_aload_n rfl rfl dX12_init_374 ?_
  refine xo_sipush ks_2196 dX12_init_375 ?_
  refine xo_newai (mk_w1 (i := 65) rfl rfl) dX12_init_378 (fun z93 _ => ?_)
  refine xo_puta dX12_init_380 cl_11 ⟨RX12, TX12, 64, rfl, by decide, (mk_w5 (i := 225) rfl rfl)⟩ rfl ft_11_58 (fun _ => rfl) (fun _ => rfl) rfl rfl (fun t94 => ?_)
  refine xo_aload_n rfl rfl dX12_init_383 ?_
  refine xo_sipush ks_252 dX12_init_384 ?_
  refine xo_newai (mk_w1 (i := 65) rfl rfl) dX12_init_387 (fun z95 _ => ?_)
  refine xo_puta dX12_init_389 cl_11 ⟨RX12, TX12, 64, rfl, by decide, (mk_w5 (i := 226) rfl rfl)⟩ rfl ft_11_59 (fun _ => rfl) (fun _ => rfl) rfl rfl (fun t96 => ?_)
  refine xo_aload_n rfl rfl dX12_init_392 ?_
  refine xo_sipush ks_8500 dX12_init_393 ?_
  refine xo_newai (mk_w1 (i := 65) rfl rfl) dX12_init_396 (fun z97 _ => ?_)
  refine xo_puta dX12_init_398 cl_11 ⟨RX12, TX12, 64, rfl, by decide, (mk_w5 (i := 227) rfl rfl)⟩ rfl ft_11_60 (fun _ => rfl) (fun _ => rfl) rfl rfl (fun t98 => ?_)
  refine xo_aload_n rfl rfl dX12_init_401 ?_
  refine xo_iconst kc_4 dX12_init_402 ?_
  refine xo_newaz (mk_w2 (i := 200) rfl rfl) dX12_init_403 (fun z99 _ => ?_)
  refine xo_puta dX12_init_405 cl_11 ⟨RX12, TX12, 64, rfl, by decide, (mk_w5 (i := 228) rfl rfl)⟩ rfl ft_11_61 (fun _ => rfl) (fun _ => rfl) rfl rfl (fun t100 => ?_)
  exact xo_vret dX12_init_408 rfl
theorem c_X12_init (x0 : Nat) (t : mk_S) (z : Unit × mk_S) (h : F_X12_init x0 t = some z) : mk_is t x0 11 ∧ mk_Ct M_X12_init [.ref x0] t (mk_wu z.1, z.2) :=
  ⟨(mk_gd_spec h).1, mk_ct (w := mk_wu) (by decide +kernel) (Nat.le_of_ble_eq_true rfl) (p_X12_init x0 t) z (mk_gd_spec h).2⟩
def B_X12_in_17 (t : mk_S) : Option (Int32 × mk_S) := mk_rz (0 : Int32) t
def F_X12_in (x0 : Int64) (x2 : Int64) (x4 : Int64) (t : mk_S) : Option (Int32 × mk_S) := if (lg_cmp x0 x2) < 0 then (B_X12_in_17 t) else (if 0 < (lg_cmp x0 x4) then (B_X12_in_17 t) else (mk_rz (1 : Int32) t))
theorem o_X12_in_17 (t : mk_S) : mk_O mk_wi M_X12_in 17 [none, none, none, none, none, none] [] t (B_X12_in_17  t) := by
  unfold B_X12_in_17
  refine xo_iconst kc_0 dX12_in_17 ?_
  exact xo_zret dX12_in_18 rfl
theorem p_X12_in (x0 : Int64) (x2 : Int64) (x4 : Int64) (t : mk_S) : mk_O mk_wi M_X12_in 0 [some (.long x0), none, some (.long x2), none, some (.long x4), none] [] t (if (lg_cmp x0 x2) < 0 then (B_X12_in_17 t) else (if 0 < (lg_cmp x0 x4) then (B_X12_in_17 t) else (mk_rz (1 : Int32) t))) := by
  refine xo_lload_n rfl rfl dX12_in_0 ?_
  refine xo_lload_n rfl rfl dX12_in_1 ?_
  refine xo_lcmp dX12_in_2 ?_
  refine xo_if_lt (tgt := 17) dX12_in_3 rfl (fun _ => ?_) (fun _ => ?_)
  · exact mk_O.wk (o_X12_in_17 t) trivial
  · refine xo_lload_n rfl rfl dX12_in_6 ?_
    refine xo_lload rfl dX12_in_7 ?_
    refine xo_lcmp dX12_in_9 ?_
    refine xo_if_gt (tgt := 17) dX12_in_10 rfl (fun _ => ?_) (fun _ => ?_)
    · exact mk_O.wk (o_X12_in_17 t) trivial
    · refine xo_iconst kc_1 dX12_in_13 ?_
      refine xo_goto (tgt := 18) dX12_in_14 rfl ?_
      exact xo_zret dX12_in_18 rfl
theorem c_X12_in (x0 : Int64) (x2 : Int64) (x4 : Int64) (t : mk_S) (z : Int32 × mk_S) (h : F_X12_in x0 x2 x4 t = some z) : mk_Ct M_X12_in [.long x0, .long x2, .long x4] t (mk_wi z.1, z.2) :=
  mk_ct (w := mk_wi) (by decide +kernel) (Nat.le_of_ble_eq_true rfl) (p_X12_in x0 x2 x4 t) z h
def B_X12_bits_4 : Nat → Int32 → Int32 → Int32 → mk_S → Option (Int32 × mk_S)
  | 0, _, _, _, _ => none
  | n + 1, x0, x1, x2, t => if (16 : Int32) ≤ x2 then (some (x1, t)) else (B_X12_bits_4 n x0 (x1 + ((x0 >>> (x2 &&& 31)) &&& (1 : Int32))) (x2 + (1 : Int32)) t)
def F_X12_bits (x0 : Int32) (t : mk_S) : Option (Int32 × mk_S) := B_X12_bits_4 mk_fu x0 (0 : Int32) (0 : Int32) t
theorem o_X12_bits_4 : ∀ (n : Nat) (x0 : Int32) (x1 : Int32) (x2 : Int32) (t : mk_S), mk_O mk_wi M_X12_bits 4 [some (.int x0), some (.int x1), some (.int x2)] [] t (B_X12_bits_4 n x0 x1 x2 t) := by
  intro n
  induction n with
  | zero =>
    intro x0 x1 x2 t
    exact mk_O.none
  | succ n ih =>
    intro x0 x1 x2 t
    rw [B_X12_bits_4]
    refine xo_iload_n rfl rfl dX12_bits_4 ?_
    refine xo_bipush kb_16 dX12_bits_5 ?_
    refine xo_icmp_ge (tgt := 24) dX12_bits_7 rfl (fun _ => ?_) (fun _ => ?_)
    · refine xo_iload_n rfl rfl dX12_bits_24 ?_
      exact xo_iret dX12_bits_25 rfl
    · refine xo_iload_n rfl rfl dX12_bits_10 ?_
      refine xo_iload_n rfl rfl dX12_bits_11 ?_
      refine xo_iload_n rfl rfl dX12_bits_12 ?_
      refine xo_ishr dX12_bits_13 ?_
      refine xo_iconst kc_1 dX12_bits_14 ?_
      refine xo_iand dX12_bits_15 ?_
      refine xo_iadd dX12_bits_16 ?_
      refine xo_istore_n rfl (by decide) (mk_p1_v rfl rfl) dX12_bits_17 ?_
      refine xo_iinc rfl (congrArg _ kc_1) (by decide) (mk_p1_v rfl rfl) dX12_bits_18 ?_
      refine xo_goto (tgt := 4) dX12_bits_21 rfl ?_
      exact mk_O.wk (ih x0 (x1 + ((x0 >>> (x2 &&& 31)) &&& (1 : Int32))) (x2 + (1 : Int32)) t) ⟨rfl, ⟨rfl, ⟨rfl, trivial⟩⟩⟩
theorem p_X12_bits (x0 : Int32) (t : mk_S) : mk_O mk_wi M_X12_bits 0 [some (.int x0), none, none] [] t (B_X12_bits_4 mk_fu x0 (0 : Int32) (0 : Int32) t) := by
  refine xo_iconst kc_0 dX12_bits_0 ?_
  refine xo_istore_n rfl (by decide) (mk_p1_v rfl rfl) dX12_bits_1 ?_
  refine xo_iconst kc_0 dX12_bits_2 ?_
  refine xo_istore_n rfl (by decide) (mk_p1_v rfl rfl) dX12_bits_3 ?_
  exact mk_O.wk (o_X12_bits_4 mk_fu x0 (0 : Int32) (0 : Int32) t) ⟨rfl, ⟨rfl, ⟨rfl, trivial⟩⟩⟩
theorem c_X12_bits (x0 : Int32) (t : mk_S) (z : Int32 × mk_S) (h : F_X12_bits x0 t = some z) : mk_Ct M_X12_bits [.int x0] t (mk_wi z.1, z.2) :=
  mk_ct (w := mk_wi) (by decide +kernel) (Nat.le_of_ble_eq_true rfl) (p_X12_bits x0 t) z h
def F_X12_has (x0 : Int32) (x1 : Int32) (t : mk_S) : Option (Int32 × mk_S) := if ((x0 >>> (x1 &&& 31)) &&& (1 : Int32)) = (1 : Int32) then (mk_rz (1 : Int32) t) else (mk_rz (0 : Int32) t)
theorem p_X12_has (x0 : Int32) (x1 : Int32) (t : mk_S) : mk_O mk_wi M_X12_has 0 [some (.int x0), some (.int x1)] [] t (if ((x0 >>> (x1 &&& 31)) &&& (1 : Int32)) = (1 : Int32) then (mk_rz (1 : Int32) t) else (mk_rz (0 : Int32) t)) := by
  refine xo_iload_n rfl rfl dX12_has_0 ?_
  refine xo_iload_n rfl rfl dX12_has_1 ?_
  refine xo_ishr dX12_has_2 ?_
  refine xo_iconst kc_1 dX12_has_3 ?_
  refine xo_iand dX12_has_4 ?_
  refine xo_iconst kc_1 dX12_has_5 ?_
  refine xo_icmp_ne (tgt := 13) dX12_has_6 rfl (fun _ => ?_) (fun _ => ?_)
  · refine xo_iconst kc_1 dX12_has_9 ?_
    refine xo_goto (tgt := 14) dX12_has_10 rfl ?_
    exact xo_zret dX12_has_14 rfl
  · refine xo_iconst kc_0 dX12_has_13 ?_
    exact xo_zret dX12_has_14 rfl
theorem c_X12_has (x0 : Int32) (x1 : Int32) (t : mk_S) (z : Int32 × mk_S) (h : F_X12_has x0 x1 t = some z) : mk_Ct M_X12_has [.int x0, .int x1] t (mk_wi z.1, z.2) :=
  mk_ct (w := mk_wi) (by decide +kernel) (Nat.le_of_ble_eq_true rfl) (p_X12_has x0 x1 t) z h
def F_X12_isPlateau (x0 : Nat) (t : mk_S) : Option (Int32 × mk_S) := mk_gd t x0 11 ((mk_ga t x0 11 1).bind fun v1 => (mk_ld 100 t v1 (0 : Int32)).bind fun v2 => if v2 ≤ 0 then (mk_rz (0 : Int32) t) else (mk_rz (1 : Int32) t))
theorem p_X12_isPlateau (x0 : Nat) (t : mk_S) : mk_O mk_wi M_X12_isPlateau 0 [some (.ref x0)] [] t ((mk_ga t x0 11 1).bind fun v1 => (mk_ld 100 t v1 (0 : Int32)).bind fun v2 => if v2 ≤ 0 then (mk_rz (0 : Int32) t) else (mk_rz (1 : Int32) t)) := by
  refine xo_aload_n rfl rfl dX12_isPlateau_0 ?_
  refine xo_geta dX12_isPlateau_1 cl_11 fl_RX12_9 rfl (fun v1 => ?_)
  refine xo_iconst kc_0 dX12_isPlateau_4 ?_
  refine xo_iald dX12_isPlateau_5 (fun v2 => ?_)
  refine xo_if_le (tgt := 13) dX12_isPlateau_6 rfl (fun _ => ?_) (fun _ => ?_)
  · refine xo_iconst kc_0 dX12_isPlateau_13 ?_
    exact xo_zret dX12_isPlateau_14 rfl
  · refine xo_iconst kc_1 dX12_isPlateau_9 ?_
    refine xo_goto (tgt := 14) dX12_isPlateau_10 rfl ?_
    exact xo_zret dX12_isPlateau_14 rfl
theorem c_X12_isPlateau (x0 : Nat) (t : mk_S) (z : Int32 × mk_S) (h : F_X12_isPlateau x0 t = some z) : mk_is t x0 11 ∧ mk_Ct M_X12_isPlateau [.ref x0] t (mk_wi z.1, z.2) :=
  ⟨(mk_gd_spec h).1, mk_ct (w := mk_wi) (by decide +kernel) (Nat.le_of_ble_eq_true rfl) (p_X12_isPlateau x0 t) z (mk_gd_spec h).2⟩
def F_X12_cells (x0 : Nat) (t : mk_S) : Option (Int32 × mk_S) := mk_gd t x0 11 ((mk_ga t x0 11 1).bind fun v1 => (mk_ld 100 t v1 (0 : Int32)).bind fun v2 => (mk_ga t x0 11 1).bind fun v3 => (mk_ld 100 t v3 (0 : Int32)).bind fun v4 => some ((v2 * v4), t))
theorem p_X12_cells (x0 : Nat) (t : mk_S) : mk_O mk_wi M_X12_cells 0 [some (.ref x0)] [] t ((mk_ga t x0 11 1).bind fun v1 => (mk_ld 100 t v1 (0 : Int32)).bind fun v2 => (mk_ga t x0 11 1).bind fun v3 => (mk_ld 100 t v3 (0 : Int32)).bind fun v4 => some ((v2 * v4), t)) := by
  refine xo_aload_n rfl rfl dX12_cells_0 ?_
  refine xo_geta dX12_cells_1 cl_11 fl_RX12_9 rfl (fun v1 => ?_)
  refine xo_iconst kc_0 dX12_cells_4 ?_
  refine xo_iald dX12_cells_5 (fun v2 => ?_)
  refine xo_aload_n rfl rfl dX12_cells_6 ?_
  refine xo_geta dX12_cells_7 cl_11 fl_RX12_9 rfl (fun v3 => ?_)
  refine xo_iconst kc_0 dX12_cells_10 ?_
  refine xo_iald dX12_cells_11 (fun v4 => ?_)
  refine xo_imul dX12_cells_12 ?_
  exact xo_iret dX12_cells_13 rfl
theorem c_X12_cells (x0 : Nat) (t : mk_S) (z : Int32 × mk_S) (h : F_X12_cells x0 t = some z) : mk_is t x0 11 ∧ mk_Ct M_X12_cells [.ref x0] t (mk_wi z.1, z.2) :=
  ⟨(mk_gd_spec h).1, mk_ct (w := mk_wi) (by decide +kernel) (Nat.le_of_ble_eq_true rfl) (p_X12_cells x0 t) z (mk_gd_spec h).2⟩
def F_X12_isCell (x0 : Nat) (x1 : Int32) (t : mk_S) : Option (Int32 × mk_S) := mk_gd t x0 11 ((F_X12_cells x0 t).bind fun z1 => (F_X12_in ((x1).toInt64) (0 : Int64) (((z1.1 - (1 : Int32))).toInt64) z1.2).bind fun z2 => mk_rz z2.1 z2.2)
theorem p_X12_isCell (x0 : Nat) (x1 : Int32) (t : mk_S) : mk_O mk_wi M_X12_isCell 0 [some (.ref x0), some (.int x1)] [] t ((F_X12_cells x0 t).bind fun z1 => (F_X12_in ((x1).toInt64) (0 : Int64) (((z1.1 - (1 : Int32))).toInt64) z1.2).bind fun z2 => mk_rz z2.1 z2.2) := by
  refine xo_iload_n rfl rfl dX12_isCell_0 ?_
  refine xo_i2l dX12_isCell_1 ?_
  refine xo_lconst kl_0 dX12_isCell_2 ?_
  refine xo_aload_n rfl rfl dX12_isCell_3 ?_
  refine mk_O.callV (N := M_X12_cells) (ci := 11) (q := (RX12, TX12, 64)) (b := x0) (As1 := []) (S := [.long (0 : Int64), .long ((x1).toInt64)]) md_X12_cells mv_X12_cells lk_RX12_155 rfl (Nat.le_of_ble_eq_true rfl) (by decide) dX12_isCell_4 rfl rfl rfl (fun z hz => (c_X12_cells x0 t z hz).1) (fun z hz => (c_X12_cells x0 t z hz).2) (fun z1 _ => ?_)
  show mk_O _ _ _ _ (.int z1.1 :: [.long (0 : Int64), .long ((x1).toInt64)]) _ _
  refine xo_iconst kc_1 dX12_isCell_7 ?_
  refine xo_isub dX12_isCell_8 ?_
  refine xo_i2l dX12_isCell_9 ?_
  refine mk_O.callS (N := M_X12_in) (As := [.long ((x1).toInt64), .long (0 : Int64), .long (((z1.1 - (1 : Int32))).toInt64)]) (S := []) md_X12_in ms_X12_in lk_RX12_159 rfl (Nat.le_of_ble_eq_true rfl) (by decide) dX12_isCell_10 rfl (fun z hz => c_X12_in ((x1).toInt64) (0 : Int64) (((z1.1 - (1 : Int32))).toInt64) z1.2 z hz) (fun z2 _ => ?_)
  show mk_O _ _ _ _ (.int z2.1 :: []) _ _
  exact xo_zret dX12_isCell_13 rfl
theorem c_X12_isCell (x0 : Nat) (x1 : Int32) (t : mk_S) (z : Int32 × mk_S) (h : F_X12_isCell x0 x1 t = some z) : mk_is t x0 11 ∧ mk_Ct M_X12_isCell [.ref x0, .int x1] t (mk_wi z.1, z.2) :=
  ⟨(mk_gd_spec h).1, mk_ct (w := mk_wi) (by decide +kernel) (Nat.le_of_ble_eq_true rfl) (p_X12_isCell x0 x1 t) z (mk_gd_spec h).2⟩
def F_X12_isPerson (x0 : Nat) (x1 : Int32) (t : mk_S) : Option (Int32 × mk_S) := mk_gd t x0 11 ((mk_ga t x0 11 1).bind fun v1 => (mk_ld 100 t v1 (2 : Int32)).bind fun v2 => (F_X12_in ((x1).toInt64) (0 : Int64) (((v2 - (1 : Int32))).toInt64) t).bind fun z3 => mk_rz z3.1 z3.2)
theorem p_X12_isPerson (x0 : Nat) (x1 : Int32) (t : mk_S) : mk_O mk_wi M_X12_isPerson 0 [some (.ref x0), some (.int x1)] [] t ((mk_ga t x0 11 1).bind fun v1 => (mk_ld 100 t v1 (2 : Int32)).bind fun v2 => (F_X12_in ((x1).toInt64) (0 : Int64) (((v2 - (1 : Int32))).toInt64) t).bind fun z3 => mk_rz z3.1 z3.2) := by
  refine xo_iload_n rfl rfl dX12_isPerson_0 ?_
  refine xo_i2l dX12_isPerson_1 ?_
  refine xo_lconst kl_0 dX12_isPerson_2 ?_
  refine xo_aload_n rfl rfl dX12_isPerson_3 ?_
  refine xo_geta dX12_isPerson_4 cl_11 fl_RX12_9 rfl (fun v1 => ?_)
  refine xo_iconst kc_2 dX12_isPerson_7 ?_
  refine xo_iald dX12_isPerson_8 (fun v2 => ?_)
  refine xo_iconst kc_1 dX12_isPerson_9 ?_
  refine xo_isub dX12_isPerson_10 ?_
  refine xo_i2l dX12_isPerson_11 ?_
  refine mk_O.callS (N := M_X12_in) (As := [.long ((x1).toInt64), .long (0 : Int64), .long (((v2 - (1 : Int32))).toInt64)]) (S := []) md_X12_in ms_X12_in lk_RX12_159 rfl (Nat.le_of_ble_eq_true rfl) (by decide) dX12_isPerson_12 rfl (fun z hz => c_X12_in ((x1).toInt64) (0 : Int64) (((v2 - (1 : Int32))).toInt64) t z hz) (fun z3 _ => ?_)
  show mk_O _ _ _ _ (.int z3.1 :: []) _ _
  exact xo_zret dX12_isPerson_15 rfl
theorem c_X12_isPerson (x0 : Nat) (x1 : Int32) (t : mk_S) (z : Int32 × mk_S) (h : F_X12_isPerson x0 x1 t = some z) : mk_is t x0 11 ∧ mk_Ct M_X12_isPerson [.ref x0, .int x1] t (mk_wi z.1, z.2) :=
  ⟨(mk_gd_spec h).1, mk_ct (w := mk_wi) (by decide +kernel) (Nat.le_of_ble_eq_true rfl) (p_X12_isPerson x0 x1 t) z (mk_gd_spec h).2⟩
def F_X12_isMill (x0 : Nat) (x1 : Int32) (t : mk_S) : Option (Int32 × mk_S) := mk_gd t x0 11 ((mk_ga t x0 11 1).bind fun v1 => (mk_ld 100 t v1 (3 : Int32)).bind fun v2 => (F_X12_in ((x1).toInt64) (0 : Int64) (((v2 - (1 : Int32))).toInt64) t).bind fun z3 => mk_rz z3.1 z3.2)
theorem p_X12_isMill (x0 : Nat) (x1 : Int32) (t : mk_S) : mk_O mk_wi M_X12_isMill 0 [some (.ref x0), some (.int x1)] [] t ((mk_ga t x0 11 1).bind fun v1 => (mk_ld 100 t v1 (3 : Int32)).bind fun v2 => (F_X12_in ((x1).toInt64) (0 : Int64) (((v2 - (1 : Int32))).toInt64) t).bind fun z3 => mk_rz z3.1 z3.2) := by
  refine xo_iload_n rfl rfl dX12_isMill_0 ?_
  refine xo_i2l dX12_isMill_1 ?_
  refine xo_lconst kl_0 dX12_isMill_2 ?_
  refine xo_aload_n rfl rfl dX12_isMill_3 ?_
  refine xo_geta dX12_isMill_4 cl_11 fl_RX12_9 rfl (fun v1 => ?_)
  refine xo_iconst kc_3 dX12_isMill_7 ?_
  refine xo_iald dX12_isMill_8 (fun v2 => ?_)
  refine xo_iconst kc_1 dX12_isMill_9 ?_
  refine xo_isub dX12_isMill_10 ?_
  refine xo_i2l dX12_isMill_11 ?_
  refine mk_O.callS (N := M_X12_in) (As := [.long ((x1).toInt64), .long (0 : Int64), .long (((v2 - (1 : Int32))).toInt64)]) (S := []) md_X12_in ms_X12_in lk_RX12_159 rfl (Nat.le_of_ble_eq_true rfl) (by decide) dX12_isMill_12 rfl (fun z hz => c_X12_in ((x1).toInt64) (0 : Int64) (((v2 - (1 : Int32))).toInt64) t z hz) (fun z3 _ => ?_)
  show mk_O _ _ _ _ (.int z3.1 :: []) _ _
  exact xo_zret dX12_isMill_15 rfl
theorem c_X12_isMill (x0 : Nat) (x1 : Int32) (t : mk_S) (z : Int32 × mk_S) (h : F_X12_isMill x0 x1 t = some z) : mk_is t x0 11 ∧ mk_Ct M_X12_isMill [.ref x0, .int x1] t (mk_wi z.1, z.2) :=
  ⟨(mk_gd_spec h).1, mk_ct (w := mk_wi) (by decide +kernel) (Nat.le_of_ble_eq_true rfl) (p_X12_isMill x0 x1 t) z (mk_gd_spec h).2⟩
def F_X12_isRoof (x0 : Nat) (x1 : Int32) (t : mk_S) : Option (Int32 × mk_S) := mk_gd t x0 11 ((mk_ga t x0 11 1).bind fun v1 => (mk_ld 100 t v1 (4 : Int32)).bind fun v2 => (F_X12_in ((x1).toInt64) (0 : Int64) (((v2 - (1 : Int32))).toInt64) t).bind fun z3 => mk_rz z3.1 z3.2)
theorem p_X12_isRoof (x0 : Nat) (x1 : Int32) (t : mk_S) : mk_O mk_wi M_X12_isRoof 0 [some (.ref x0), some (.int x1)] [] t ((mk_ga t x0 11 1).bind fun v1 => (mk_ld 100 t v1 (4 : Int32)).bind fun v2 => (F_X12_in ((x1).toInt64) (0 : Int64) (((v2 - (1 : Int32))).toInt64) t).bind fun z3 => mk_rz z3.1 z3.2) := by
  refine xo_iload_n rfl rfl dX12_isRoof_0 ?_
  refine xo_i2l dX12_isRoof_1 ?_
  refine xo_lconst kl_0 dX12_isRoof_2 ?_
  refine xo_aload_n rfl rfl dX12_isRoof_3 ?_
  refine xo_geta dX12_isRoof_4 cl_11 fl_RX12_9 rfl (fun v1 => ?_)
  refine xo_iconst kc_4 dX12_isRoof_7 ?_
  refine xo_iald dX12_isRoof_8 (fun v2 => ?_)
  refine xo_iconst kc_1 dX12_isRoof_9 ?_
  refine xo_isub dX12_isRoof_10 ?_
  refine xo_i2l dX12_isRoof_11 ?_
  refine mk_O.callS (N := M_X12_in) (As := [.long ((x1).toInt64), .long (0 : Int64), .long (((v2 - (1 : Int32))).toInt64)]) (S := []) md_X12_in ms_X12_in lk_RX12_159 rfl (Nat.le_of_ble_eq_true rfl) (by decide) dX12_isRoof_12 rfl (fun z hz => c_X12_in ((x1).toInt64) (0 : Int64) (((v2 - (1 : Int32))).toInt64) t z hz) (fun z3 _ => ?_)
  show mk_O _ _ _ _ (.int z3.1 :: []) _ _
  exact xo_zret dX12_isRoof_15 rfl
theorem c_X12_isRoof (x0 : Nat) (x1 : Int32) (t : mk_S) (z : Int32 × mk_S) (h : F_X12_isRoof x0 x1 t = some z) : mk_is t x0 11 ∧ mk_Ct M_X12_isRoof [.ref x0, .int x1] t (mk_wi z.1, z.2) :=
  ⟨(mk_gd_spec h).1, mk_ct (w := mk_wi) (by decide +kernel) (Nat.le_of_ble_eq_true rfl) (p_X12_isRoof x0 x1 t) z (mk_gd_spec h).2⟩
def B_X12_put_3 : Nat → Nat → Int32 → Int32 → mk_S → Option (Unit × mk_S)
  | 0, _, _, _, _ => none
  | n + 1, x0, x1, x2, t => if x2 < 0 then (some ((), t)) else ((mk_ga t x0 11 37).bind fun v1 => (mk_gi t x0 11 27).bind fun v2 => (mk_st 102 t v1 v2 (((x1 >>> (x2 &&& 31))).toInt8.toInt32)).bind fun t3 => (mk_gi t3 x0 11 27).bind fun v4 => (mk_pi t3 x0 11 27 (v4 + (1 : Int32))).bind fun t5 => B_X12_put_3 n x0 x1 (x2 + (-8 : Int32)) t5)
def F_X12_put (x0 : Nat) (x1 : Int32) (t : mk_S) : Option (Unit × mk_S) := mk_gd t x0 11 (B_X12_put_3 mk_fu x0 x1 (24 : Int32) t)
theorem o_X12_put_3 : ∀ (n : Nat) (x0 : Nat) (x1 : Int32) (x2 : Int32) (t : mk_S), mk_O mk_wu M_X12_put 3 [some (.ref x0), some (.int x1), some (.int x2)] [] t (B_X12_put_3 n x0 x1 x2 t) := by
  intro n
  induction n with
  | zero =>
    intro x0 x1 x2 t
    exact mk_O.none
  | succ n ih =>
    intro x0 x1 x2 t
    rw [B_X12_put_3]
    refine xo_iload_n rfl rfl dX12_put_3 ?_
    refine xo_if_lt (tgt := 36) dX12_put_4 rfl (fun _ => ?_) (fun _ => ?_)
    · exact xo_vret dX12_put_36 rfl
    · refine xo_aload_n rfl rfl dX12_put_7 ?_
      refine xo_geta dX12_put_8 cl_11 fl_RX12_92 rfl (fun v1 => ?_)
      refine xo_aload_n rfl rfl dX12_put_11 ?_
      refine xo_geti dX12_put_12 cl_11 fl_RX12_163 rfl (fun v2 => ?_)
      refine xo_iload_n rfl rfl dX12_put_15 ?_
      refine xo_iload_n rfl rfl dX12_put_16 ?_
      refine xo_ishr dX12_put_17 ?_
      refine xo_i2b dX12_put_18 ?_
      refine xo_bast dX12_put_19 (fun t3 => ?_)
      refine xo_aload_n rfl rfl dX12_put_20 ?_
      refine xo_dup rfl dX12_put_21 ?_
      refine xo_geti dX12_put_22 cl_11 fl_RX12_163 rfl (fun v4 => ?_)
      refine xo_iconst kc_1 dX12_put_25 ?_
      refine xo_iadd dX12_put_26 ?_
      refine xo_puti dX12_put_27 cl_11 fl_RX12_163 rfl ft_11_27 (fun t5 => ?_)
      refine xo_iinc rfl (congrArg _ kc_m8) (by decide) (mk_p1_v rfl rfl) dX12_put_30 ?_
      refine xo_goto (tgt := 3) dX12_put_33 rfl ?_
      exact mk_O.wk (ih x0 x1 (x2 + (-8 : Int32)) t5) ⟨rfl, ⟨rfl, ⟨rfl, trivial⟩⟩⟩
theorem p_X12_put (x0 : Nat) (x1 : Int32) (t : mk_S) : mk_O mk_wu M_X12_put 0 [some (.ref x0), some (.int x1), none] [] t (B_X12_put_3 mk_fu x0 x1 (24 : Int32) t) := by
  refine xo_bipush kb_24 dX12_put_0 ?_
  refine xo_istore_n rfl (by decide) (mk_p1_v rfl rfl) dX12_put_2 ?_
  exact mk_O.wk (o_X12_put_3 mk_fu x0 x1 (24 : Int32) t) ⟨rfl, ⟨rfl, ⟨rfl, trivial⟩⟩⟩
theorem c_X12_put (x0 : Nat) (x1 : Int32) (t : mk_S) (z : Unit × mk_S) (h : F_X12_put x0 x1 t = some z) : mk_is t x0 11 ∧ mk_Ct M_X12_put [.ref x0, .int x1] t (mk_wu z.1, z.2) :=
  ⟨(mk_gd_spec h).1, mk_ct (w := mk_wu) (by decide +kernel) (Nat.le_of_ble_eq_true rfl) (p_X12_put x0 x1 t) z (mk_gd_spec h).2⟩
def F_X12_feed (x0 : Nat) (x1 : Int32) (x2 : Int32) (x3 : Int32) (x4 : Int32) (x5 : Int32) (t : mk_S) : Option (Int32 × mk_S) := mk_gd t x0 11 ((mk_gi t x0 11 27).bind fun v1 => if (v1 + (20 : Int32)) ≤ (400 : Int32) then ((F_X12_put x0 x1 t).bind fun z2 => (F_X12_put x0 x2 z2.2).bind fun z3 => (F_X12_put x0 x3 z3.2).bind fun z4 => (F_X12_put x0 x4 z4.2).bind fun z5 => (F_X12_put x0 x5 z5.2).bind fun z6 => (mk_gi z6.2 x0 11 27).bind fun v7 => some (v7, z6.2)) else (some ((-1 : Int32), t)))
theorem p_X12_feed (x0 : Nat) (x1 : Int32) (x2 : Int32) (x3 : Int32) (x4 : Int32) (x5 : Int32) (t : mk_S) : mk_O mk_wi M_X12_feed 0 [some (.ref x0), some (.int x1), some (.int x2), some (.int x3), some (.int x4), some (.int x5)] [] t ((mk_gi t x0 11 27).bind fun v1 => if (v1 + (20 : Int32)) ≤ (400 : Int32) then ((F_X12_put x0 x1 t).bind fun z2 => (F_X12_put x0 x2 z2.2).bind fun z3 => (F_X12_put x0 x3 z3.2).bind fun z4 => (F_X12_put x0 x4 z4.2).bind fun z5 => (F_X12_put x0 x5 z5.2).bind fun z6 => (mk_gi z6.2 x0 11 27).bind fun v7 => some (v7, z6.2)) else (some ((-1 : Int32), t))) := by
  refine xo_aload_n rfl rfl dX12_feed_0 ?_
  refine xo_geti dX12_feed_1 cl_11 fl_RX12_163 rfl (fun v1 => ?_)
  refine xo_bipush kb_20 dX12_feed_4 ?_
  refine xo_iadd dX12_feed_6 ?_
  refine xo_sipush ks_400 dX12_feed_7 ?_
  refine xo_icmp_le (tgt := 15) dX12_feed_10 rfl (fun _ => ?_) (fun _ => ?_)
  · refine xo_aload_n rfl rfl dX12_feed_15 ?_
    refine xo_iload_n rfl rfl dX12_feed_16 ?_
    refine mk_O.callV (N := M_X12_put) (ci := 11) (q := (RX12, TX12, 64)) (b := x0) (As1 := [.int x1]) (S := []) md_X12_put mv_X12_put lk_RX12_166 rfl (Nat.le_of_ble_eq_true rfl) (by decide) dX12_feed_17 rfl rfl rfl (fun z hz => (c_X12_put x0 x1 t z hz).1) (fun z hz => (c_X12_put x0 x1 t z hz).2) (fun z2 _ => ?_)
    show mk_O _ _ _ _ [] _ _
    refine xo_aload_n rfl rfl dX12_feed_20 ?_
    refine xo_iload_n rfl rfl dX12_feed_21 ?_
    refine mk_O.callV (N := M_X12_put) (ci := 11) (q := (RX12, TX12, 64)) (b := x0) (As1 := [.int x2]) (S := []) md_X12_put mv_X12_put lk_RX12_166 rfl (Nat.le_of_ble_eq_true rfl) (by decide) dX12_feed_22 rfl rfl rfl (fun z hz => (c_X12_put x0 x2 z2.2 z hz).1) (fun z hz => (c_X12_put x0 x2 z2.2 z hz).2) (fun z3 _ => ?_)
    show mk_O _ _ _ _ [] _ _
    refine xo_aload_n rfl rfl dX12_feed_25 ?_
    refine xo_iload_n rfl rfl dX12_feed_26 ?_
    refine mk_O.callV (N := M_X12_put) (ci := 11) (q := (RX12, TX12, 64)) (b := x0) (As1 := [.int x3]) (S := []) md_X12_put mv_X12_put lk_RX12_166 rfl (Nat.le_of_ble_eq_true rfl) (by decide) dX12_feed_27 rfl rfl rfl (fun z hz => (c_X12_put x0 x3 z3.2 z hz).1) (fun z hz => (c_X12_put x0 x3 z3.2 z hz).2) (fun z4 _ => ?_)
    show mk_O _ _ _ _ [] _ _
    refine xo_aload_n rfl rfl dX12_feed_30 ?_
    refine xo_iload rfl dX12_feed_31 ?_
    refine mk_O.callV (N := M_X12_put) (ci := 11) (q := (RX12, TX12, 64)) (b := x0) (As1 := [.int x4]) (S := []) md_X12_put mv_X12_put lk_RX12_166 rfl (Nat.le_of_ble_eq_true rfl) (by decide) dX12_feed_33 rfl rfl rfl (fun z hz => (c_X12_put x0 x4 z4.2 z hz).1) (fun z hz => (c_X12_put x0 x4 z4.2 z hz).2) (fun z5 _ => ?_)
    show mk_O _ _ _ _ [] _ _
    refine xo_aload_n rfl rfl dX12_feed_36 ?_
    refine xo_iload rfl dX12_feed_37 ?_
    refine mk_O.callV (N := M_X12_put) (ci := 11) (q := (RX12, TX12, 64)) (b := x0) (As1 := [.int x5]) (S := []) md_X12_put mv_X12_put lk_RX12_166 rfl (Nat.le_of_ble_eq_true rfl) (by decide) dX12_feed_39 rfl rfl rfl (fun z hz => (c_X12_put x0 x5 z5.2 z hz).1) (fun z hz => (c_X12_put x0 x5 z5.2 z hz).2) (fun z6 _ => ?_)
    show mk_O _ _ _ _ [] _ _
    refine xo_aload_n rfl rfl dX12_feed_42 ?_
    refine xo_geti dX12_feed_43 cl_11 fl_RX12_163 rfl (fun v7 => ?_)
    exact xo_iret dX12_feed_46 rfl
  · refine xo_iconst kc_m1 dX12_feed_13 ?_
    exact xo_iret dX12_feed_14 rfl
theorem c_X12_feed (x0 : Nat) (x1 : Int32) (x2 : Int32) (x3 : Int32) (x4 : Int32) (x5 : Int32) (t : mk_S) (z : Int32 × mk_S) (h : F_X12_feed x0 x1 x2 x3 x4 x5 t = some z) : mk_is t x0 11 ∧ mk_Ct M_X12_feed [.ref x0, .int x1, .int x2, .int x3, .int x4, .int x5] t (mk_wi z.1, z.2) :=
  ⟨(mk_gd_spec h).1, mk_ct (w := mk_wi) (by decide +kernel) (Nat.le_of_ble_eq_true rfl) (p_X12_feed x0 x1 x2 x3 x4 x5 t) z (mk_gd_spec h).2⟩
def F_X12_end (x0 : Nat) (x1 : Int32) (t : mk_S) : Option (Int32 × mk_S) := mk_gd t x0 11 (if x1 < 0 then (some ((-1 : Int32), t)) else ((mk_gi t x0 11 27).bind fun v1 => if x1 ≤ v1 then ((mk_pi t x0 11 27 x1).bind fun t2 => some (x1, t2)) else (some ((-1 : Int32), t))))
theorem p_X12_end (x0 : Nat) (x1 : Int32) (t : mk_S) : mk_O mk_wi M_X12_end 0 [some (.ref x0), some (.int x1)] [] t (if x1 < 0 then (some ((-1 : Int32), t)) else ((mk_gi t x0 11 27).bind fun v1 => if x1 ≤ v1 then ((mk_pi t x0 11 27 x1).bind fun t2 => some (x1, t2)) else (some ((-1 : Int32), t)))) := by
  refine xo_iload_n rfl rfl dX12_end_0 ?_
  refine xo_if_lt (tgt := 12) dX12_end_1 rfl (fun _ => ?_) (fun _ => ?_)
  · refine xo_iconst kc_m1 dX12_end_12 ?_
    exact xo_iret dX12_end_13 rfl
  · refine xo_iload_n rfl rfl dX12_end_4 ?_
    refine xo_aload_n rfl rfl dX12_end_5 ?_
    refine xo_geti dX12_end_6 cl_11 fl_RX12_163 rfl (fun v1 => ?_)
    refine xo_icmp_le (tgt := 14) dX12_end_9 rfl (fun _ => ?_) (fun _ => ?_)
    · refine xo_aload_n rfl rfl dX12_end_14 ?_
      refine xo_iload_n rfl rfl dX12_end_15 ?_
      refine xo_puti dX12_end_16 cl_11 fl_RX12_163 rfl ft_11_27 (fun t2 => ?_)
      refine xo_iload_n rfl rfl dX12_end_19 ?_
      exact xo_iret dX12_end_20 rfl
    · refine xo_iconst kc_m1 dX12_end_12 ?_
      exact xo_iret dX12_end_13 rfl
theorem c_X12_end (x0 : Nat) (x1 : Int32) (t : mk_S) (z : Int32 × mk_S) (h : F_X12_end x0 x1 t = some z) : mk_is t x0 11 ∧ mk_Ct M_X12_end [.ref x0, .int x1] t (mk_wi z.1, z.2) :=
  ⟨(mk_gd_spec h).1, mk_ct (w := mk_wi) (by decide +kernel) (Nat.le_of_ble_eq_true rfl) (p_X12_end x0 x1 t) z (mk_gd_spec h).2⟩
def F_X12_wordOf (x0 : Int32) (t : mk_S) : Option (Nat × mk_S) := if x0 = (0 : Int32) then (some (1000021, t)) else (if x0 = (1 : Int32) then (some (1000022, t)) else (if x0 = (2 : Int32) then (some (1000023, t)) else (if x0 = (3 : Int32) then (some (1000024, t)) else (if x0 = (4 : Int32) then (some (1000025, t)) else (if x0 = (5 : Int32) then (some (1000026, t)) else (if x0 = (6 : Int32) then (some (1000027, t)) else (if x0 = (7 : Int32) then (some (1000028, t)) else (if x0 = (8 : Int32) then (some (1000029, t)) else (if x0 = (9 : Int32) then (some (1000030, t)) else (if x0 = (10 : Int32) then (some (1000031, t)) else (some (1000032, t))))))))))))
theorem p_X12_wordOf (x0 : Int32) (t : mk_S) : mk_O mk_wn M_X12_wordOf 0 [some (.int x0)] [] t (if x0 = (0 : Int32) then (some (1000021, t)) else (if x0 = (1 : Int32) then (some (1000022, t)) else (if x0 = (2 : Int32) then (some (1000023, t)) else (if x0 = (3 : Int32) then (some (1000024, t)) else (if x0 = (4 : Int32) then (some (1000025, t)) else (if x0 = (5 : Int32) then (some (1000026, t)) else (if x0 = (6 : Int32) then (some (1000027, t)) else (if x0 = (7 : Int32) then (some (1000028, t)) else (if x0 = (8 : Int32) then (some (1000029, t)) else (if x0 = (9 : Int32) then (some (1000030, t)) else (if x0 = (10 : Int32) then (some (1000031, t)) else (some (1000032, t))))))))))))) := by
  refine xo_iload_n rfl rfl dX12_wordOf_0 ?_
  refine mk_O.cs (fun n0 => ?_) (fun n0 => ?_)
  · refine xo_tab (kx := 0) (j := 0) n0 dX12_wordOf_1 (by decide) (by decide) (by decide) rfl rfl ?_
    refine xo_str (i := 21) (by decide) rfl rfl dX12_wordOf_60 ?_
    exact xo_aret dX12_wordOf_62 rfl
  · refine mk_O.cs (fun n1 => ?_) (fun n1 => ?_)
    · refine xo_tab (kx := 1) (j := 1) n1 dX12_wordOf_1 (by decide) (by decide) (by decide) rfl rfl ?_
      refine xo_str (i := 22) (by decide) rfl rfl dX12_wordOf_63 ?_
      exact xo_aret dX12_wordOf_65 rfl
    · refine mk_O.cs (fun n2 => ?_) (fun n2 => ?_)
      · refine xo_tab (kx := 2) (j := 2) n2 dX12_wordOf_1 (by decide) (by decide) (by decide) rfl rfl ?_
        refine xo_str (i := 23) (by decide) rfl rfl dX12_wordOf_66 ?_
        exact xo_aret dX12_wordOf_68 rfl
      · refine mk_O.cs (fun n3 => ?_) (fun n3 => ?_)
        · refine xo_tab (kx := 3) (j := 3) n3 dX12_wordOf_1 (by decide) (by decide) (by decide) rfl rfl ?_
          refine xo_str (i := 24) (by decide) rfl rfl dX12_wordOf_69 ?_
          exact xo_aret dX12_wordOf_71 rfl
        · refine mk_O.cs (fun n4 => ?_) (fun n4 => ?_)
          · refine xo_tab (kx := 4) (j := 4) n4 dX12_wordOf_1 (by decide) (by decide) (by decide) rfl rfl ?_
            refine xo_str (i := 25) (by decide) rfl rfl dX12_wordOf_72 ?_
            exact xo_aret dX12_wordOf_74 rfl
          · refine mk_O.cs (fun n5 => ?_) (fun n5 => ?_)
            · refine xo_tab (kx := 5) (j := 5) n5 dX12_wordOf_1 (by decide) (by decide) (by decide) rfl rfl ?_
              refine xo_str (i := 26) (by decide) rfl rfl dX12_wordOf_75 ?_
              exact xo_aret dX12_wordOf_77 rfl
            · refine mk_O.cs (fun n6 => ?_) (fun n6 => ?_)
              · refine xo_tab (kx := 6) (j := 6) n6 dX12_wordOf_1 (by decide) (by decide) (by decide) rfl rfl ?_
                refine xo_str (i := 27) (by decide) rfl rfl dX12_wordOf_78 ?_
                exact xo_aret dX12_wordOf_80 rfl
              · refine mk_O.cs (fun n7 => ?_) (fun n7 => ?_)
                · refine xo_tab (kx := 7) (j := 7) n7 dX12_wordOf_1 (by decide) (by decide) (by decide) rfl rfl ?_
                  refine xo_str (i := 28) (by decide) rfl rfl dX12_wordOf_81 ?_
                  exact xo_aret dX12_wordOf_83 rfl
                · refine mk_O.cs (fun n8 => ?_) (fun n8 => ?_)
                  · refine xo_tab (kx := 8) (j := 8) n8 dX12_wordOf_1 (by decide) (by decide) (by decide) rfl rfl ?_
                    refine xo_str (i := 29) (by decide) rfl rfl dX12_wordOf_84 ?_
                    exact xo_aret dX12_wordOf_86 rfl
                  · refine mk_O.cs (fun n9 => ?_) (fun n9 => ?_)
                    · refine xo_tab (kx := 9) (j := 9) n9 dX12_wordOf_1 (by decide) (by decide) (by decide) rfl rfl ?_
                      refine xo_str (i := 30) (by decide) rfl rfl dX12_wordOf_87 ?_
                      exact xo_aret dX12_wordOf_89 rfl
                    · refine mk_O.cs (fun n10 => ?_) (fun n10 => ?_)
                      · refine xo_tab (kx := 10) (j := 10) n10 dX12_wordOf_1 (by decide) (by decide) (by decide) rfl rfl ?_
                        refine xo_str (i := 31) (by decide) rfl rfl dX12_wordOf_90 ?_
                        exact xo_aret dX12_wordOf_92 rfl
                      · refine xo_tabo dX12_wordOf_1 (by have q0 := lv_neT (a := 0) n0 (by decide); have q1 := lv_neT (a := 1) n1 (by decide); have q2 := lv_neT (a := 2) n2 (by decide); have q3 := lv_neT (a := 3) n3 (by decide); have q4 := lv_neT (a := 4) n4 (by decide); have q5 := lv_neT (a := 5) n5 (by decide); have q6 := lv_neT (a := 6) n6 (by decide); have q7 := lv_neT (a := 7) n7 (by decide); have q8 := lv_neT (a := 8) n8 (by decide); have q9 := lv_neT (a := 9) n9 (by decide); have q10 := lv_neT (a := 10) n10 (by decide); omega) rfl ?_
                        refine xo_str (i := 32) (by decide) rfl rfl dX12_wordOf_93 ?_
                        exact xo_aret dX12_wordOf_95 rfl
theorem c_X12_wordOf (x0 : Int32) (t : mk_S) (z : Nat × mk_S) (h : F_X12_wordOf x0 t = some z) : mk_Ct M_X12_wordOf [.int x0] t (mk_wn z.1, z.2) :=
  mk_ct (w := mk_wn) (by decide +kernel) (Nat.le_of_ble_eq_true rfl) (p_X12_wordOf x0 t) z h
def F_X12_fails (x0 : Nat) (x1 : Int32) (x2 : Int32) (t : mk_S) : Option (Unit × mk_S) := mk_gd t x0 11 ((mk_gi t x0 11 29).bind fun v1 => if v1 = 0 then ((mk_pi t x0 11 29 (((1 : Int32) + ((8 : Int32) * x2)) + x1)).bind fun t2 => some ((), t2)) else ((mk_gi t x0 11 29).bind fun v3 => (mk_pi t x0 11 29 v3).bind fun t4 => some ((), t4)))
theorem p_X12_fails (x0 : Nat) (x1 : Int32) (x2 : Int32) (t : mk_S) : mk_O mk_wu M_X12_fails 0 [some (.ref x0), some (.int x1), some (.int x2)] [] t ((mk_gi t x0 11 29).bind fun v1 => if v1 = 0 then ((mk_pi t x0 11 29 (((1 : Int32) + ((8 : Int32) * x2)) + x1)).bind fun t2 => some ((), t2)) else ((mk_gi t x0 11 29).bind fun v3 => (mk_pi t x0 11 29 v3).bind fun t4 => some ((), t4))) := by
  refine xo_aload_n rfl rfl dX12_fails_0 ?_
  refine xo_aload_n rfl rfl dX12_fails_1 ?_
  refine xo_geti dX12_fails_2 cl_11 fl_RX12_189 rfl (fun v1 => ?_)
  refine xo_if_ne (tgt := 19) dX12_fails_5 rfl (fun _ => ?_) (fun _ => ?_)
  · refine xo_iconst kc_1 dX12_fails_8 ?_
    refine xo_bipush kb_8 dX12_fails_9 ?_
    refine xo_iload_n rfl rfl dX12_fails_11 ?_
    refine xo_imul dX12_fails_12 ?_
    refine xo_iadd dX12_fails_13 ?_
    refine xo_iload_n rfl rfl dX12_fails_14 ?_
    refine xo_iadd dX12_fails_15 ?_
    refine xo_goto (tgt := 23) dX12_fails_16 rfl ?_
    refine xo_puti dX12_fails_23 cl_11 fl_RX12_189 rfl ft_11_29 (fun t2 => ?_)
    exact xo_vret dX12_fails_26 rfl
  · refine xo_aload_n rfl rfl dX12_fails_19 ?_
    refine xo_geti dX12_fails_20 cl_11 fl_RX12_189 rfl (fun v3 => ?_)
    refine xo_puti dX12_fails_23 cl_11 fl_RX12_189 rfl ft_11_29 (fun t4 => ?_)
    exact xo_vret dX12_fails_26 rfl
theorem c_X12_fails (x0 : Nat) (x1 : Int32) (x2 : Int32) (t : mk_S) (z : Unit × mk_S) (h : F_X12_fails x0 x1 x2 t = some z) : mk_is t x0 11 ∧ mk_Ct M_X12_fails [.ref x0, .int x1, .int x2] t (mk_wu z.1, z.2) :=
  ⟨(mk_gd_spec h).1, mk_ct (w := mk_wu) (by decide +kernel) (Nat.le_of_ble_eq_true rfl) (p_X12_fails x0 x1 x2 t) z (mk_gd_spec h).2⟩
def F_X12_sign (x0 : Nat) (t : mk_S) : Option (Int32 × mk_S) := mk_gd t x0 11 ((mk_gi t x0 11 28).bind fun v1 => (mk_gi t x0 11 27).bind fun v2 => if v2 ≤ v1 then (some ((-1 : Int32), t)) else ((mk_ga t x0 11 37).bind fun v3 => (mk_gi t x0 11 28).bind fun v4 => (mk_ld 102 t v3 v4).bind fun v5 => some ((v5 &&& (255 : Int32)), t)))
theorem p_X12_sign (x0 : Nat) (t : mk_S) : mk_O mk_wi M_X12_sign 0 [some (.ref x0)] [] t ((mk_gi t x0 11 28).bind fun v1 => (mk_gi t x0 11 27).bind fun v2 => if v2 ≤ v1 then (some ((-1 : Int32), t)) else ((mk_ga t x0 11 37).bind fun v3 => (mk_gi t x0 11 28).bind fun v4 => (mk_ld 102 t v3 v4).bind fun v5 => some ((v5 &&& (255 : Int32)), t))) := by
  refine xo_aload_n rfl rfl dX12_sign_0 ?_
  refine xo_geti dX12_sign_1 cl_11 fl_RX12_192 rfl (fun v1 => ?_)
  refine xo_aload_n rfl rfl dX12_sign_4 ?_
  refine xo_geti dX12_sign_5 cl_11 fl_RX12_163 rfl (fun v2 => ?_)
  refine xo_icmp_ge (tgt := 27) dX12_sign_8 rfl (fun _ => ?_) (fun _ => ?_)
  · refine xo_iconst kc_m1 dX12_sign_27 ?_
    exact xo_iret dX12_sign_28 rfl
  · refine xo_aload_n rfl rfl dX12_sign_11 ?_
    refine xo_geta dX12_sign_12 cl_11 fl_RX12_92 rfl (fun v3 => ?_)
    refine xo_aload_n rfl rfl dX12_sign_15 ?_
    refine xo_geti dX12_sign_16 cl_11 fl_RX12_192 rfl (fun v4 => ?_)
    refine xo_bald dX12_sign_19 (fun v5 => ?_)
    refine xo_sipush ks_255 dX12_sign_20 ?_
    refine xo_iand dX12_sign_23 ?_
    refine xo_goto (tgt := 28) dX12_sign_24 rfl ?_
    exact xo_iret dX12_sign_28 rfl
theorem c_X12_sign (x0 : Nat) (t : mk_S) (z : Int32 × mk_S) (h : F_X12_sign x0 t = some z) : mk_is t x0 11 ∧ mk_Ct M_X12_sign [.ref x0] t (mk_wi z.1, z.2) :=
  ⟨(mk_gd_spec h).1, mk_ct (w := mk_wi) (by decide +kernel) (Nat.le_of_ble_eq_true rfl) (p_X12_sign x0 t) z (mk_gd_spec h).2⟩
def B_X12_blanks_0 : Nat → Nat → mk_S → Option (Unit × mk_S)
  | 0, _, _ => none
  | n + 1, x0, t => (F_X12_sign x0 t).bind fun z1 => if z1.1 = (32 : Int32) then ((mk_gi z1.2 x0 11 28).bind fun v2 => (mk_pi z1.2 x0 11 28 (v2 + (1 : Int32))).bind fun t3 => B_X12_blanks_0 n x0 t3) else (some ((), z1.2))
def F_X12_blanks (x0 : Nat) (t : mk_S) : Option (Unit × mk_S) := mk_gd t x0 11 (B_X12_blanks_0 mk_fu x0 t)
theorem o_X12_blanks_0 : ∀ (n : Nat) (x0 : Nat) (t : mk_S), mk_O mk_wu M_X12_blanks 0 [some (.ref x0)] [] t (B_X12_blanks_0 n x0 t) := by
  intro n
  induction n with
  | zero =>
    intro x0 t
    exact mk_O.none
  | succ n ih =>
    intro x0 t
    rw [B_X12_blanks_0]
    refine xo_aload_n rfl rfl dX12_blanks_0 ?_
    refine mk_O.callV (N := M_X12_sign) (ci := 11) (q := (RX12, TX12, 64)) (b := x0) (As1 := []) (S := []) md_X12_sign mv_X12_sign lk_RX12_195 rfl (Nat.le_of_ble_eq_true rfl) (by decide) dX12_blanks_1 rfl rfl rfl (fun z hz => (c_X12_sign x0 t z hz).1) (fun z hz => (c_X12_sign x0 t z hz).2) (fun z1 _ => ?_)
    show mk_O _ _ _ _ (.int z1.1 :: []) _ _
    refine xo_bipush kb_32 dX12_blanks_4 ?_
    refine xo_icmp_ne (tgt := 22) dX12_blanks_6 rfl (fun _ => ?_) (fun _ => ?_)
    · refine xo_aload_n rfl rfl dX12_blanks_9 ?_
      refine xo_dup rfl dX12_blanks_10 ?_
      refine xo_geti dX12_blanks_11 cl_11 fl_RX12_192 rfl (fun v2 => ?_)
      refine xo_iconst kc_1 dX12_blanks_14 ?_
      refine xo_iadd dX12_blanks_15 ?_
      refine xo_puti dX12_blanks_16 cl_11 fl_RX12_192 rfl ft_11_28 (fun t3 => ?_)
      refine xo_goto (tgt := 0) dX12_blanks_19 rfl ?_
      exact mk_O.wk (ih x0 t3) ⟨rfl, trivial⟩
    · exact xo_vret dX12_blanks_22 rfl
theorem p_X12_blanks (x0 : Nat) (t : mk_S) : mk_O mk_wu M_X12_blanks 0 [some (.ref x0)] [] t (B_X12_blanks_0 mk_fu x0 t) := by
  exact mk_O.wk (o_X12_blanks_0 mk_fu x0 t) ⟨rfl, trivial⟩
theorem c_X12_blanks (x0 : Nat) (t : mk_S) (z : Unit × mk_S) (h : F_X12_blanks x0 t = some z) : mk_is t x0 11 ∧ mk_Ct M_X12_blanks [.ref x0] t (mk_wu z.1, z.2) :=
  ⟨(mk_gd_spec h).1, mk_ct (w := mk_wu) (by decide +kernel) (Nat.le_of_ble_eq_true rfl) (p_X12_blanks x0 t) z (mk_gd_spec h).2⟩
def F_X12_isDigit (x0 : Nat) (t : mk_S) : Option (Int32 × mk_S) := mk_gd t x0 11 ((F_X12_sign x0 t).bind fun z1 => (F_X12_in ((z1.1).toInt64) (48 : Int64) (57 : Int64) z1.2).bind fun z2 => mk_rz z2.1 z2.2)
theorem p_X12_isDigit (x0 : Nat) (t : mk_S) : mk_O mk_wi M_X12_isDigit 0 [some (.ref x0)] [] t ((F_X12_sign x0 t).bind fun z1 => (F_X12_in ((z1.1).toInt64) (48 : Int64) (57 : Int64) z1.2).bind fun z2 => mk_rz z2.1 z2.2) := by
  refine xo_aload_n rfl rfl dX12_isDigit_0 ?_
  refine mk_O.callV (N := M_X12_sign) (ci := 11) (q := (RX12, TX12, 64)) (b := x0) (As1 := []) (S := []) md_X12_sign mv_X12_sign lk_RX12_195 rfl (Nat.le_of_ble_eq_true rfl) (by decide) dX12_isDigit_1 rfl rfl rfl (fun z hz => (c_X12_sign x0 t z hz).1) (fun z hz => (c_X12_sign x0 t z hz).2) (fun z1 _ => ?_)
  show mk_O _ _ _ _ (.int z1.1 :: []) _ _
  refine xo_i2l dX12_isDigit_4 ?_
  refine xo_ldc2 (v := 48) (mk_w6 (i := 194) rfl rfl) dX12_isDigit_5 ?_
  refine xo_ldc2 (v := 57) (mk_w6 (i := 195) rfl rfl) dX12_isDigit_8 ?_
  refine mk_O.callS (N := M_X12_in) (As := [.long ((z1.1).toInt64), .long (48 : Int64), .long (57 : Int64)]) (S := []) md_X12_in ms_X12_in lk_RX12_159 rfl (Nat.le_of_ble_eq_true rfl) (by decide) dX12_isDigit_11 rfl (fun z hz => c_X12_in ((z1.1).toInt64) (48 : Int64) (57 : Int64) z1.2 z hz) (fun z2 _ => ?_)
  show mk_O _ _ _ _ (.int z2.1 :: []) _ _
  exact xo_zret dX12_isDigit_14 rfl
theorem c_X12_isDigit (x0 : Nat) (t : mk_S) (z : Int32 × mk_S) (h : F_X12_isDigit x0 t = some z) : mk_is t x0 11 ∧ mk_Ct M_X12_isDigit [.ref x0] t (mk_wi z.1, z.2) :=
  ⟨(mk_gd_spec h).1, mk_ct (w := mk_wi) (by decide +kernel) (Nat.le_of_ble_eq_true rfl) (p_X12_isDigit x0 t) z (mk_gd_spec h).2⟩
def B_X12_stood_102 (k63 : Nat → Nat → Int32 → Int32 → mk_S → Option (Int32 × mk_S)) (x0 : Nat) (x1 : Nat) (x4 : Int32) (s0 : Int32) (t : mk_S) : Option (Int32 × mk_S) := k63 x0 x1 s0 (x4 + (1 : Int32)) t
def B_X12_stood_63 : Nat → Nat → Nat → Int32 → Int32 → mk_S → Option (Int32 × mk_S)
  | 0, _, _, _, _, _ => none
  | n + 1, x0, x1, x3, x4, t => (mk_sln x1 t).bind fun z1 => if z1.1 ≤ x4 then (mk_rz x3 z1.2) else (if x3 = 0 then (mk_rz x3 z1.2) else ((mk_ga z1.2 x0 11 37).bind fun v2 => (mk_gi z1.2 x0 11 28).bind fun v3 => (mk_ld 102 z1.2 v2 (v3 + x4)).bind fun v4 => (mk_sch x1 x4 z1.2).bind fun z5 => if v4 = z5.1 then (B_X12_stood_102 (B_X12_stood_63 n) x0 x1 x4 (1 : Int32) z5.2) else (B_X12_stood_102 (B_X12_stood_63 n) x0 x1 x4 (0 : Int32) z5.2)))
def B_X12_stood_59 (x0 : Nat) (x1 : Nat) (s0 : Int32) (t : mk_S) : Option (Int32 × mk_S) := B_X12_stood_63 mk_fu x0 x1 s0 (0 : Int32) t
def B_X12_stood_41 (x0 : Nat) (x1 : Nat) (x2 : Int32) (t : mk_S) : Option (Int32 × mk_S) := (mk_gi t x0 11 28).bind fun v1 => (mk_sln x1 t).bind fun z2 => if (x2 - v1) = z2.1 then (B_X12_stood_59 x0 x1 (1 : Int32) z2.2) else (B_X12_stood_59 x0 x1 (0 : Int32) z2.2)
def B_X12_stood_5 : Nat → Nat → Nat → Int32 → mk_S → Option (Int32 × mk_S)
  | 0, _, _, _, _ => none
  | n + 1, x0, x1, x2, t => (mk_gi t x0 11 27).bind fun v1 => if v1 ≤ x2 then (B_X12_stood_41 x0 x1 x2 t) else ((mk_ga t x0 11 37).bind fun v2 => (mk_ld 102 t v2 x2).bind fun v3 => if v3 < (97 : Int32) then (B_X12_stood_41 x0 x1 x2 t) else ((mk_ga t x0 11 37).bind fun v4 => (mk_ld 102 t v4 x2).bind fun v5 => if (122 : Int32) < v5 then (B_X12_stood_41 x0 x1 x2 t) else (B_X12_stood_5 n x0 x1 (x2 + (1 : Int32)) t)))
def F_X12_stood (x0 : Nat) (x1 : Nat) (t : mk_S) : Option (Int32 × mk_S) := mk_gd t x0 11 ((mk_gi t x0 11 28).bind fun v1 => B_X12_stood_5 mk_fu x0 x1 v1 t)
theorem o_X12_stood_102 (k63 : Nat → Nat → Int32 → Int32 → mk_S → Option (Int32 × mk_S)) (h63 : ∀ (x0 : Nat) (x1 : Nat) (x3 : Int32) (x4 : Int32) (t : mk_S), mk_O mk_wi M_X12_stood 63 [some (.ref x0), some (.ref x1), none, some (.int x3), some (.int x4)] [] t (k63 x0 x1 x3 x4 t)) (x0 : Nat) (x1 : Nat) (x4 : Int32) (s0 : Int32) (t : mk_S) : mk_O mk_wi M_X12_stood 102 [some (.ref x0), some (.ref x1), none, none, some (.int x4)] [.int s0] t (B_X12_stood_102 k63 x0 x1 x4 s0 t) := by
  unfold B_X12_stood_102
  refine xo_istore_n rfl (by decide) (mk_p1_n rfl) dX12_stood_102 ?_
  refine xo_iinc rfl (congrArg _ kc_1) (by decide) (mk_p1_v rfl rfl) dX12_stood_103 ?_
  refine xo_goto (tgt := 63) dX12_stood_106 rfl ?_
  exact mk_O.wk (h63 x0 x1 s0 (x4 + (1 : Int32)) t) ⟨rfl, ⟨rfl, ⟨rfl, ⟨rfl, trivial⟩⟩⟩⟩
theorem o_X12_stood_63 : ∀ (n : Nat) (x0 : Nat) (x1 : Nat) (x3 : Int32) (x4 : Int32) (t : mk_S), mk_O mk_wi M_X12_stood 63 [some (.ref x0), some (.ref x1), none, some (.int x3), some (.int x4)] [] t (B_X12_stood_63 n x0 x1 x3 x4 t) := by
  intro n
  induction n with
  | zero =>
    intro x0 x1 x3 x4 t
    exact mk_O.none
  | succ n ih =>
    intro x0 x1 x3 x4 t
    rw [B_X12_stood_63]
    refine xo_iload rfl dX12_stood_63 ?_
    refine xo_aload_n rfl rfl dX12_stood_65 ?_
    refine xo_sln (mk_w6 (i := 167) rfl rfl) (Nat.le_of_ble_eq_true rfl) (by decide) dX12_stood_66 (fun z1 _ => ?_)
    refine xo_icmp_ge (tgt := 109) dX12_stood_69 rfl (fun _ => ?_) (fun _ => ?_)
    · refine xo_iload_n rfl rfl dX12_stood_109 ?_
      exact xo_zret dX12_stood_110 rfl
    · refine xo_iload_n rfl rfl dX12_stood_72 ?_
      refine xo_if_eq (tgt := 109) dX12_stood_73 rfl (fun _ => ?_) (fun _ => ?_)
      · refine xo_iload_n rfl rfl dX12_stood_109 ?_
        exact xo_zret dX12_stood_110 rfl
      · refine xo_aload_n rfl rfl dX12_stood_76 ?_
        refine xo_geta dX12_stood_77 cl_11 fl_RX12_92 rfl (fun v2 => ?_)
        refine xo_aload_n rfl rfl dX12_stood_80 ?_
        refine xo_geti dX12_stood_81 cl_11 fl_RX12_192 rfl (fun v3 => ?_)
        refine xo_iload rfl dX12_stood_84 ?_
        refine xo_iadd dX12_stood_86 ?_
        refine xo_bald dX12_stood_87 (fun v4 => ?_)
        refine xo_aload_n rfl rfl dX12_stood_88 ?_
        refine xo_iload rfl dX12_stood_89 ?_
        refine xo_sch (mk_w6 (i := 168) rfl rfl) (Nat.le_of_ble_eq_true rfl) (by decide) dX12_stood_91 (fun z5 _ => ?_)
        refine xo_icmp_ne (tgt := 101) dX12_stood_94 rfl (fun _ => ?_) (fun _ => ?_)
        · refine xo_iconst kc_1 dX12_stood_97 ?_
          refine xo_goto (tgt := 102) dX12_stood_98 rfl ?_
          exact mk_O.wk (o_X12_stood_102 _ ih x0 x1 x4 (1 : Int32) z5.2) ⟨rfl, ⟨rfl, ⟨rfl, trivial⟩⟩⟩
        · refine xo_iconst kc_0 dX12_stood_101 ?_
          exact mk_O.wk (o_X12_stood_102 _ ih x0 x1 x4 (0 : Int32) z5.2) ⟨rfl, ⟨rfl, ⟨rfl, trivial⟩⟩⟩
theorem o_X12_stood_59 (x0 : Nat) (x1 : Nat) (s0 : Int32) (t : mk_S) : mk_O mk_wi M_X12_stood 59 [some (.ref x0), some (.ref x1), none, none, none] [.int s0] t (B_X12_stood_59 x0 x1 s0 t) := by
  unfold B_X12_stood_59
  refine xo_istore_n rfl (by decide) (mk_p1_n rfl) dX12_stood_59 ?_
  refine xo_iconst kc_0 dX12_stood_60 ?_
  refine xo_istore (by decide) (mk_p1_v rfl rfl) dX12_stood_61 ?_
  exact mk_O.wk (o_X12_stood_63 mk_fu x0 x1 s0 (0 : Int32) t) ⟨rfl, ⟨rfl, ⟨rfl, ⟨rfl, trivial⟩⟩⟩⟩
theorem o_X12_stood_41 (x0 : Nat) (x1 : Nat) (x2 : Int32) (t : mk_S) : mk_O mk_wi M_X12_stood 41 [some (.ref x0), some (.ref x1), some (.int x2), none, none] [] t (B_X12_stood_41 x0 x1 x2 t) := by
  unfold B_X12_stood_41
  refine xo_iload_n rfl rfl dX12_stood_41 ?_
  refine xo_aload_n rfl rfl dX12_stood_42 ?_
  refine xo_geti dX12_stood_43 cl_11 fl_RX12_192 rfl (fun v1 => ?_)
  refine xo_isub dX12_stood_46 ?_
  refine xo_aload_n rfl rfl dX12_stood_47 ?_
  refine xo_sln (mk_w6 (i := 167) rfl rfl) (Nat.le_of_ble_eq_true rfl) (by decide) dX12_stood_48 (fun z2 _ => ?_)
  refine xo_icmp_ne (tgt := 58) dX12_stood_51 rfl (fun _ => ?_) (fun _ => ?_)
  · refine xo_iconst kc_1 dX12_stood_54 ?_
    refine xo_goto (tgt := 59) dX12_stood_55 rfl ?_
    exact mk_O.wk (o_X12_stood_59 x0 x1 (1 : Int32) z2.2) ⟨rfl, ⟨rfl, trivial⟩⟩
  · refine xo_iconst kc_0 dX12_stood_58 ?_
    exact mk_O.wk (o_X12_stood_59 x0 x1 (0 : Int32) z2.2) ⟨rfl, ⟨rfl, trivial⟩⟩
theorem o_X12_stood_5 : ∀ (n : Nat) (x0 : Nat) (x1 : Nat) (x2 : Int32) (t : mk_S), mk_O mk_wi M_X12_stood 5 [some (.ref x0), some (.ref x1), some (.int x2), none, none] [] t (B_X12_stood_5 n x0 x1 x2 t) := by
  intro n
  induction n with
  | zero =>
    intro x0 x1 x2 t
    exact mk_O.none
  | succ n ih =>
    intro x0 x1 x2 t
    rw [B_X12_stood_5]
    refine xo_iload_n rfl rfl dX12_stood_5 ?_
    refine xo_aload_n rfl rfl dX12_stood_6 ?_
    refine xo_geti dX12_stood_7 cl_11 fl_RX12_163 rfl (fun v1 => ?_)
    refine xo_icmp_ge (tgt := 41) dX12_stood_10 rfl (fun _ => ?_) (fun _ => ?_)
    · exact mk_O.wk (o_X12_stood_41 x0 x1 x2 t) ⟨rfl, ⟨rfl, ⟨rfl, trivial⟩⟩⟩
    · refine xo_aload_n rfl rfl dX12_stood_13 ?_
      refine xo_geta dX12_stood_14 cl_11 fl_RX12_92 rfl (fun v2 => ?_)
      refine xo_iload_n rfl rfl dX12_stood_17 ?_
      refine xo_bald dX12_stood_18 (fun v3 => ?_)
      refine xo_bipush kb_97 dX12_stood_19 ?_
      refine xo_icmp_lt (tgt := 41) dX12_stood_21 rfl (fun _ => ?_) (fun _ => ?_)
      · exact mk_O.wk (o_X12_stood_41 x0 x1 x2 t) ⟨rfl, ⟨rfl, ⟨rfl, trivial⟩⟩⟩
      · refine xo_aload_n rfl rfl dX12_stood_24 ?_
        refine xo_geta dX12_stood_25 cl_11 fl_RX12_92 rfl (fun v4 => ?_)
        refine xo_iload_n rfl rfl dX12_stood_28 ?_
        refine xo_bald dX12_stood_29 (fun v5 => ?_)
        refine xo_bipush kb_122 dX12_stood_30 ?_
        refine xo_icmp_gt (tgt := 41) dX12_stood_32 rfl (fun _ => ?_) (fun _ => ?_)
        · exact mk_O.wk (o_X12_stood_41 x0 x1 x2 t) ⟨rfl, ⟨rfl, ⟨rfl, trivial⟩⟩⟩
        · refine xo_iinc rfl (congrArg _ kc_1) (by decide) (mk_p1_v rfl rfl) dX12_stood_35 ?_
          refine xo_goto (tgt := 5) dX12_stood_38 rfl ?_
          exact mk_O.wk (ih x0 x1 (x2 + (1 : Int32)) t) ⟨rfl, ⟨rfl, ⟨rfl, trivial⟩⟩⟩
theorem p_X12_stood (x0 : Nat) (x1 : Nat) (t : mk_S) : mk_O mk_wi M_X12_stood 0 [some (.ref x0), some (.ref x1), none, none, none] [] t ((mk_gi t x0 11 28).bind fun v1 => B_X12_stood_5 mk_fu x0 x1 v1 t) := by
  refine xo_aload_n rfl rfl dX12_stood_0 ?_
  refine xo_geti dX12_stood_1 cl_11 fl_RX12_192 rfl (fun v1 => ?_)
  refine xo_istore_n rfl (by decide) (mk_p1_v rfl rfl) dX12_stood_4 ?_
  exact mk_O.wk (o_X12_stood_5 mk_fu x0 x1 v1 t) ⟨rfl, ⟨rfl, ⟨rfl, trivial⟩⟩⟩
theorem c_X12_stood (x0 : Nat) (x1 : Nat) (t : mk_S) (z : Int32 × mk_S) (h : F_X12_stood x0 x1 t = some z) : mk_is t x0 11 ∧ mk_Ct M_X12_stood [.ref x0, .ref x1] t (mk_wi z.1, z.2) :=
  ⟨(mk_gd_spec h).1, mk_ct (w := mk_wi) (by decide +kernel) (Nat.le_of_ble_eq_true rfl) (p_X12_stood x0 x1 t) z (mk_gd_spec h).2⟩
def F_X12_isNext (x0 : Nat) (x1 : Nat) (t : mk_S) : Option (Int32 × mk_S) := mk_gd t x0 11 ((F_X12_blanks x0 t).bind fun z1 => (F_X12_stood x0 x1 z1.2).bind fun z2 => (mk_gi z2.2 x0 11 28).bind fun v3 => if z2.1 = 0 then ((mk_pi z2.2 x0 11 28 (v3 + (0 : Int32))).bind fun t4 => mk_rz z2.1 t4) else ((mk_sln x1 z2.2).bind fun z5 => (mk_pi z5.2 x0 11 28 (v3 + z5.1)).bind fun t6 => mk_rz z2.1 t6))
theorem p_X12_isNext (x0 : Nat) (x1 : Nat) (t : mk_S) : mk_O mk_wi M_X12_isNext 0 [some (.ref x0), some (.ref x1), none] [] t ((F_X12_blanks x0 t).bind fun z1 => (F_X12_stood x0 x1 z1.2).bind fun z2 => (mk_gi z2.2 x0 11 28).bind fun v3 => if z2.1 = 0 then ((mk_pi z2.2 x0 11 28 (v3 + (0 : Int32))).bind fun t4 => mk_rz z2.1 t4) else ((mk_sln x1 z2.2).bind fun z5 => (mk_pi z5.2 x0 11 28 (v3 + z5.1)).bind fun t6 => mk_rz z2.1 t6)) := by
  refine xo_aload_n rfl rfl dX12_isNext_0 ?_
  refine mk_O.callV (N := M_X12_blanks) (ci := 11) (q := (RX12, TX12, 64)) (b := x0) (As1 := []) (S := []) md_X12_blanks mv_X12_blanks lk_RX12_211 rfl (Nat.le_of_ble_eq_true rfl) (by decide) dX12_isNext_1 rfl rfl rfl (fun z hz => (c_X12_blanks x0 t z hz).1) (fun z hz => (c_X12_blanks x0 t z hz).2) (fun z1 _ => ?_)
  show mk_O _ _ _ _ [] _ _
  refine xo_aload_n rfl rfl dX12_isNext_4 ?_
  refine xo_aload_n rfl rfl dX12_isNext_5 ?_
  refine mk_O.callV (N := M_X12_stood) (ci := 11) (q := (RX12, TX12, 64)) (b := x0) (As1 := [.ref x1]) (S := []) md_X12_stood mv_X12_stood lk_RX12_214 rfl (Nat.le_of_ble_eq_true rfl) (by decide) dX12_isNext_6 rfl rfl rfl (fun z hz => (c_X12_stood x0 x1 z1.2 z hz).1) (fun z hz => (c_X12_stood x0 x1 z1.2 z hz).2) (fun z2 _ => ?_)
  show mk_O _ _ _ _ (.int z2.1 :: []) _ _
  refine xo_istore_n rfl (by decide) (mk_p1_v rfl rfl) dX12_isNext_9 ?_
  refine xo_aload_n rfl rfl dX12_isNext_10 ?_
  refine xo_dup rfl dX12_isNext_11 ?_
  refine xo_geti dX12_isNext_12 cl_11 fl_RX12_192 rfl (fun v3 => ?_)
  refine xo_iload_n rfl rfl dX12_isNext_15 ?_
  refine xo_if_eq (tgt := 26) dX12_isNext_16 rfl (fun _ => ?_) (fun _ => ?_)
  · refine xo_iconst kc_0 dX12_isNext_26 ?_
    refine xo_iadd dX12_isNext_27 ?_
    refine xo_puti dX12_isNext_28 cl_11 fl_RX12_192 rfl ft_11_28 (fun t4 => ?_)
    refine xo_iload_n rfl rfl dX12_isNext_31 ?_
    exact xo_zret dX12_isNext_32 rfl
  · refine xo_aload_n rfl rfl dX12_isNext_19 ?_
    refine xo_sln (mk_w6 (i := 167) rfl rfl) (Nat.le_of_ble_eq_true rfl) (by decide) dX12_isNext_20 (fun z5 _ => ?_)
    refine xo_goto (tgt := 27) dX12_isNext_23 rfl ?_
    refine xo_iadd dX12_isNext_27 ?_
    refine xo_puti dX12_isNext_28 cl_11 fl_RX12_192 rfl ft_11_28 (fun t6 => ?_)
    refine xo_iload_n rfl rfl dX12_isNext_31 ?_
    exact xo_zret dX12_isNext_32 rfl
theorem c_X12_isNext (x0 : Nat) (x1 : Nat) (t : mk_S) (z : Int32 × mk_S) (h : F_X12_isNext x0 x1 t = some z) : mk_is t x0 11 ∧ mk_Ct M_X12_isNext [.ref x0, .ref x1] t (mk_wi z.1, z.2) :=
  ⟨(mk_gd_spec h).1, mk_ct (w := mk_wi) (by decide +kernel) (Nat.le_of_ble_eq_true rfl) (p_X12_isNext x0 x1 t) z (mk_gd_spec h).2⟩
def F_X12_entry (x0 : Nat) (x1 : Int32) (x2 : Int32) (t : mk_S) : Option (Unit × mk_S) := mk_gd t x0 11 ((mk_gi t x0 11 29).bind fun v1 => if v1 = 0 then ((mk_ga t x0 11 38).bind fun v2 => (mk_gi t x0 11 30).bind fun v3 => (mk_gi t x0 11 32).bind fun v4 => (mk_st 100 t v2 (((300 : Int32) * v3) + v4) x1).bind fun t5 => (mk_ga t5 x0 11 39).bind fun v6 => (mk_gi t5 x0 11 30).bind fun v7 => (mk_gi t5 x0 11 32).bind fun v8 => (mk_st 100 t5 v6 (((300 : Int32) * v7) + v8) x2).bind fun t9 => (mk_gi t9 x0 11 32).bind fun v10 => (mk_pi t9 x0 11 32 (v10 + (1 : Int32))).bind fun t11 => some ((), t11)) else (some ((), t)))
theorem p_X12_entry (x0 : Nat) (x1 : Int32) (x2 : Int32) (t : mk_S) : mk_O mk_wu M_X12_entry 0 [some (.ref x0), some (.int x1), some (.int x2)] [] t ((mk_gi t x0 11 29).bind fun v1 => if v1 = 0 then ((mk_ga t x0 11 38).bind fun v2 => (mk_gi t x0 11 30).bind fun v3 => (mk_gi t x0 11 32).bind fun v4 => (mk_st 100 t v2 (((300 : Int32) * v3) + v4) x1).bind fun t5 => (mk_ga t5 x0 11 39).bind fun v6 => (mk_gi t5 x0 11 30).bind fun v7 => (mk_gi t5 x0 11 32).bind fun v8 => (mk_st 100 t5 v6 (((300 : Int32) * v7) + v8) x2).bind fun t9 => (mk_gi t9 x0 11 32).bind fun v10 => (mk_pi t9 x0 11 32 (v10 + (1 : Int32))).bind fun t11 => some ((), t11)) else (some ((), t))) := by
  refine xo_aload_n rfl rfl dX12_entry_0 ?_
  refine xo_geti dX12_entry_1 cl_11 fl_RX12_189 rfl (fun v1 => ?_)
  refine xo_if_ne (tgt := 55) dX12_entry_4 rfl (fun _ => ?_) (fun _ => ?_)
  · refine xo_aload_n rfl rfl dX12_entry_7 ?_
    refine xo_geta dX12_entry_8 cl_11 fl_RX12_96 rfl (fun v2 => ?_)
    refine xo_sipush ks_300 dX12_entry_11 ?_
    refine xo_aload_n rfl rfl dX12_entry_14 ?_
    refine xo_geti dX12_entry_15 cl_11 fl_RX12_218 rfl (fun v3 => ?_)
    refine xo_imul dX12_entry_18 ?_
    refine xo_aload_n rfl rfl dX12_entry_19 ?_
    refine xo_geti dX12_entry_20 cl_11 fl_RX12_221 rfl (fun v4 => ?_)
    refine xo_iadd dX12_entry_23 ?_
    refine xo_iload_n rfl rfl dX12_entry_24 ?_
    refine xo_iast dX12_entry_25 (fun t5 => ?_)
    refine xo_aload_n rfl rfl dX12_entry_26 ?_
    refine xo_geta dX12_entry_27 cl_11 fl_RX12_99 rfl (fun v6 => ?_)
    refine xo_sipush ks_300 dX12_entry_30 ?_
    refine xo_aload_n rfl rfl dX12_entry_33 ?_
    refine xo_geti dX12_entry_34 cl_11 fl_RX12_218 rfl (fun v7 => ?_)
    refine xo_imul dX12_entry_37 ?_
    refine xo_aload_n rfl rfl dX12_entry_38 ?_
    refine xo_geti dX12_entry_39 cl_11 fl_RX12_221 rfl (fun v8 => ?_)
    refine xo_iadd dX12_entry_42 ?_
    refine xo_iload_n rfl rfl dX12_entry_43 ?_
    refine xo_iast dX12_entry_44 (fun t9 => ?_)
    refine xo_aload_n rfl rfl dX12_entry_45 ?_
    refine xo_dup rfl dX12_entry_46 ?_
    refine xo_geti dX12_entry_47 cl_11 fl_RX12_221 rfl (fun v10 => ?_)
    refine xo_iconst kc_1 dX12_entry_50 ?_
    refine xo_iadd dX12_entry_51 ?_
    refine xo_puti dX12_entry_52 cl_11 fl_RX12_221 rfl ft_11_32 (fun t11 => ?_)
    exact xo_vret dX12_entry_55 rfl
  · exact xo_vret dX12_entry_55 rfl
theorem c_X12_entry (x0 : Nat) (x1 : Int32) (x2 : Int32) (t : mk_S) (z : Unit × mk_S) (h : F_X12_entry x0 x1 x2 t = some z) : mk_is t x0 11 ∧ mk_Ct M_X12_entry [.ref x0, .int x1, .int x2] t (mk_wu z.1, z.2) :=
  ⟨(mk_gd_spec h).1, mk_ct (w := mk_wu) (by decide +kernel) (Nat.le_of_ble_eq_true rfl) (p_X12_entry x0 x1 x2 t) z (mk_gd_spec h).2⟩
def B_X12_isCounted_15 (x0 : Nat) (t : mk_S) : Option (Unit × mk_S) := (mk_gi t x0 11 34).bind fun v1 => (mk_pi t x0 11 34 (v1 + (1 : Int32))).bind fun t2 => some ((), t2)
def F_X12_isCounted (x0 : Nat) (x1 : Int32) (t : mk_S) : Option (Unit × mk_S) := mk_gd t x0 11 ((mk_gi t x0 11 34).bind fun v1 => if v1 = (60 : Int32) then ((F_X12_fails x0 (3 : Int32) x1 t).bind fun z2 => B_X12_isCounted_15 x0 z2.2) else (B_X12_isCounted_15 x0 t))
theorem o_X12_isCounted_15 (x0 : Nat) (t : mk_S) : mk_O mk_wu M_X12_isCounted 15 [some (.ref x0), none] [] t (B_X12_isCounted_15 x0 t) := by
  unfold B_X12_isCounted_15
  refine xo_aload_n rfl rfl dX12_isCounted_15 ?_
  refine xo_dup rfl dX12_isCounted_16 ?_
  refine xo_geti dX12_isCounted_17 cl_11 fl_RX12_224 rfl (fun v1 => ?_)
  refine xo_iconst kc_1 dX12_isCounted_20 ?_
  refine xo_iadd dX12_isCounted_21 ?_
  refine xo_puti dX12_isCounted_22 cl_11 fl_RX12_224 rfl ft_11_34 (fun t2 => ?_)
  exact xo_vret dX12_isCounted_25 rfl
theorem p_X12_isCounted (x0 : Nat) (x1 : Int32) (t : mk_S) : mk_O mk_wu M_X12_isCounted 0 [some (.ref x0), some (.int x1)] [] t ((mk_gi t x0 11 34).bind fun v1 => if v1 = (60 : Int32) then ((F_X12_fails x0 (3 : Int32) x1 t).bind fun z2 => B_X12_isCounted_15 x0 z2.2) else (B_X12_isCounted_15 x0 t)) := by
  refine xo_aload_n rfl rfl dX12_isCounted_0 ?_
  refine xo_geti dX12_isCounted_1 cl_11 fl_RX12_224 rfl (fun v1 => ?_)
  refine xo_bipush kb_60 dX12_isCounted_4 ?_
  refine xo_icmp_ne (tgt := 15) dX12_isCounted_6 rfl (fun _ => ?_) (fun _ => ?_)
  · refine xo_aload_n rfl rfl dX12_isCounted_9 ?_
    refine xo_iconst kc_3 dX12_isCounted_10 ?_
    refine xo_iload_n rfl rfl dX12_isCounted_11 ?_
    refine mk_O.callV (N := M_X12_fails) (ci := 11) (q := (RX12, TX12, 64)) (b := x0) (As1 := [.int (3 : Int32), .int x1]) (S := []) md_X12_fails mv_X12_fails lk_RX12_227 rfl (Nat.le_of_ble_eq_true rfl) (by decide) dX12_isCounted_12 rfl rfl rfl (fun z hz => (c_X12_fails x0 (3 : Int32) x1 t z hz).1) (fun z hz => (c_X12_fails x0 (3 : Int32) x1 t z hz).2) (fun z2 _ => ?_)
    show mk_O _ _ _ _ [] _ _
    exact mk_O.wk (o_X12_isCounted_15 x0 z2.2) ⟨rfl, trivial⟩
  · exact mk_O.wk (o_X12_isCounted_15 x0 t) ⟨rfl, trivial⟩
theorem c_X12_isCounted (x0 : Nat) (x1 : Int32) (t : mk_S) (z : Unit × mk_S) (h : F_X12_isCounted x0 x1 t = some z) : mk_is t x0 11 ∧ mk_Ct M_X12_isCounted [.ref x0, .int x1] t (mk_wu z.1, z.2) :=
  ⟨(mk_gd_spec h).1, mk_ct (w := mk_wu) (by decide +kernel) (Nat.le_of_ble_eq_true rfl) (p_X12_isCounted x0 x1 t) z (mk_gd_spec h).2⟩
def B_X12_digits_58 (k25 : Nat → Int32 → Int32 → Int32 → mk_S → Option (Int32 × mk_S)) (x0 : Nat) (x1 : Int32) (x2 : Int32) (s0 : Int32) (t : mk_S) : Option (Int32 × mk_S) := (mk_gi t x0 11 28).bind fun v1 => (mk_pi t x0 11 28 (v1 + (1 : Int32))).bind fun t2 => k25 x0 x1 x2 s0 t2
def B_X12_digits_87 (x0 : Nat) (x2 : Int32) (x3 : Int32) (t : mk_S) : Option (Int32 × mk_S) := (F_X12_fails x0 (1 : Int32) x2 t).bind fun z1 => some (x3, z1.2)
def B_X12_digits_25 : Nat → Nat → Int32 → Int32 → Int32 → mk_S → Option (Int32 × mk_S)
  | 0, _, _, _, _, _ => none
  | n + 1, x0, x1, x2, x3, t => (F_X12_isDigit x0 t).bind fun z1 => if z1.1 = 0 then ((mk_gi z1.2 x0 11 28).bind fun v2 => if (5 : Int32) < (v2 - x2) then (B_X12_digits_87 x0 x2 x3 z1.2) else (if x3 ≤ x1 then (some (x3, z1.2)) else (B_X12_digits_87 x0 x2 x3 z1.2))) else ((mk_gi z1.2 x0 11 28).bind fun v3 => if (5 : Int32) ≤ (v3 - x2) then (B_X12_digits_58 (B_X12_digits_25 n) x0 x1 x2 x3 z1.2) else ((F_X12_sign x0 z1.2).bind fun z4 => B_X12_digits_58 (B_X12_digits_25 n) x0 x1 x2 ((((10 : Int32) * x3) + z4.1) - (48 : Int32)) z4.2))
def F_X12_digits (x0 : Nat) (x1 : Int32) (t : mk_S) : Option (Int32 × mk_S) := mk_gd t x0 11 ((F_X12_isDigit x0 t).bind fun z1 => if z1.1 = 0 then ((mk_gi z1.2 x0 11 28).bind fun v2 => (F_X12_fails x0 (0 : Int32) v2 z1.2).bind fun z3 => some ((0 : Int32), z3.2)) else ((mk_gi z1.2 x0 11 28).bind fun v4 => B_X12_digits_25 mk_fu x0 x1 v4 (0 : Int32) z1.2))
theorem o_X12_digits_58 (k25 : Nat → Int32 → Int32 → Int32 → mk_S → Option (Int32 × mk_S)) (h25 : ∀ (x0 : Nat) (x1 : Int32) (x2 : Int32) (x3 : Int32) (t : mk_S), mk_O mk_wi M_X12_digits 25 [some (.ref x0), some (.int x1), some (.int x2), some (.int x3)] [] t (k25 x0 x1 x2 x3 t)) (x0 : Nat) (x1 : Int32) (x2 : Int32) (s0 : Int32) (t : mk_S) : mk_O mk_wi M_X12_digits 58 [some (.ref x0), some (.int x1), some (.int x2), none] [.int s0] t (B_X12_digits_58 k25 x0 x1 x2 s0 t) := by
  unfold B_X12_digits_58
  refine xo_istore_n rfl (by decide) (mk_p1_v rfl rfl) dX12_digits_58 ?_
  refine xo_aload_n rfl rfl dX12_digits_59 ?_
  refine xo_dup rfl dX12_digits_60 ?_
  refine xo_geti dX12_digits_61 cl_11 fl_RX12_192 rfl (fun v1 => ?_)
  refine xo_iconst kc_1 dX12_digits_64 ?_
  refine xo_iadd dX12_digits_65 ?_
  refine xo_puti dX12_digits_66 cl_11 fl_RX12_192 rfl ft_11_28 (fun t2 => ?_)
  refine xo_goto (tgt := 25) dX12_digits_69 rfl ?_
  exact mk_O.wk (h25 x0 x1 x2 s0 t2) ⟨rfl, ⟨rfl, ⟨rfl, ⟨rfl, trivial⟩⟩⟩⟩
theorem o_X12_digits_87 (x0 : Nat) (x2 : Int32) (x3 : Int32) (t : mk_S) : mk_O mk_wi M_X12_digits 87 [some (.ref x0), none, some (.int x2), some (.int x3)] [] t (B_X12_digits_87 x0 x2 x3 t) := by
  unfold B_X12_digits_87
  refine xo_aload_n rfl rfl dX12_digits_87 ?_
  refine xo_iconst kc_1 dX12_digits_88 ?_
  refine xo_iload_n rfl rfl dX12_digits_89 ?_
  refine mk_O.callV (N := M_X12_fails) (ci := 11) (q := (RX12, TX12, 64)) (b := x0) (As1 := [.int (1 : Int32), .int x2]) (S := []) md_X12_fails mv_X12_fails lk_RX12_227 rfl (Nat.le_of_ble_eq_true rfl) (by decide) dX12_digits_90 rfl rfl rfl (fun z hz => (c_X12_fails x0 (1 : Int32) x2 t z hz).1) (fun z hz => (c_X12_fails x0 (1 : Int32) x2 t z hz).2) (fun z1 _ => ?_)
  show mk_O _ _ _ _ [] _ _
  refine xo_iload_n rfl rfl dX12_digits_93 ?_
  exact xo_iret dX12_digits_94 rfl
theorem o_X12_digits_25 : ∀ (n : Nat) (x0 : Nat) (x1 : Int32) (x2 : Int32) (x3 : Int32) (t : mk_S), mk_O mk_wi M_X12_digits 25 [some (.ref x0), some (.int x1), some (.int x2), some (.int x3)] [] t (B_X12_digits_25 n x0 x1 x2 x3 t) := by
  intro n
  induction n with
  | zero =>
    intro x0 x1 x2 x3 t
    exact mk_O.none
  | succ n ih =>
    intro x0 x1 x2 x3 t
    rw [B_X12_digits_25]
    refine xo_aload_n rfl rfl dX12_digits_25 ?_
    refine mk_O.callV (N := M_X12_isDigit) (ci := 11) (q := (RX12, TX12, 64)) (b := x0) (As1 := []) (S := []) md_X12_isDigit mv_X12_isDigit lk_RX12_231 rfl (Nat.le_of_ble_eq_true rfl) (by decide) dX12_digits_26 rfl rfl rfl (fun z hz => (c_X12_isDigit x0 t z hz).1) (fun z hz => (c_X12_isDigit x0 t z hz).2) (fun z1 _ => ?_)
    show mk_O _ _ _ _ (.int z1.1 :: []) _ _
    refine xo_if_eq (tgt := 72) dX12_digits_29 rfl (fun _ => ?_) (fun _ => ?_)
    · refine xo_aload_n rfl rfl dX12_digits_72 ?_
      refine xo_geti dX12_digits_73 cl_11 fl_RX12_192 rfl (fun v2 => ?_)
      refine xo_iload_n rfl rfl dX12_digits_76 ?_
      refine xo_isub dX12_digits_77 ?_
      refine xo_iconst kc_5 dX12_digits_78 ?_
      refine xo_icmp_gt (tgt := 87) dX12_digits_79 rfl (fun _ => ?_) (fun _ => ?_)
      · exact mk_O.wk (o_X12_digits_87 x0 x2 x3 z1.2) ⟨rfl, ⟨rfl, ⟨rfl, trivial⟩⟩⟩
      · refine xo_iload_n rfl rfl dX12_digits_82 ?_
        refine xo_iload_n rfl rfl dX12_digits_83 ?_
        refine xo_icmp_le (tgt := 93) dX12_digits_84 rfl (fun _ => ?_) (fun _ => ?_)
        · refine xo_iload_n rfl rfl dX12_digits_93 ?_
          exact xo_iret dX12_digits_94 rfl
        · exact mk_O.wk (o_X12_digits_87 x0 x2 x3 z1.2) ⟨rfl, ⟨rfl, ⟨rfl, trivial⟩⟩⟩
    · refine xo_aload_n rfl rfl dX12_digits_32 ?_
      refine xo_geti dX12_digits_33 cl_11 fl_RX12_192 rfl (fun v3 => ?_)
      refine xo_iload_n rfl rfl dX12_digits_36 ?_
      refine xo_isub dX12_digits_37 ?_
      refine xo_iconst kc_5 dX12_digits_38 ?_
      refine xo_icmp_ge (tgt := 57) dX12_digits_39 rfl (fun _ => ?_) (fun _ => ?_)
      · refine xo_iload_n rfl rfl dX12_digits_57 ?_
        exact mk_O.wk (o_X12_digits_58 _ ih x0 x1 x2 x3 z1.2) ⟨rfl, ⟨rfl, ⟨rfl, trivial⟩⟩⟩
      · refine xo_bipush kb_10 dX12_digits_42 ?_
        refine xo_iload_n rfl rfl dX12_digits_44 ?_
        refine xo_imul dX12_digits_45 ?_
        refine xo_aload_n rfl rfl dX12_digits_46 ?_
        refine mk_O.callV (N := M_X12_sign) (ci := 11) (q := (RX12, TX12, 64)) (b := x0) (As1 := []) (S := [.int ((10 : Int32) * x3)]) md_X12_sign mv_X12_sign lk_RX12_195 rfl (Nat.le_of_ble_eq_true rfl) (by decide) dX12_digits_47 rfl rfl rfl (fun z hz => (c_X12_sign x0 z1.2 z hz).1) (fun z hz => (c_X12_sign x0 z1.2 z hz).2) (fun z4 _ => ?_)
        show mk_O _ _ _ _ (.int z4.1 :: [.int ((10 : Int32) * x3)]) _ _
        refine xo_iadd dX12_digits_50 ?_
        refine xo_bipush kb_48 dX12_digits_51 ?_
        refine xo_isub dX12_digits_53 ?_
        refine xo_goto (tgt := 58) dX12_digits_54 rfl ?_
        exact mk_O.wk (o_X12_digits_58 _ ih x0 x1 x2 ((((10 : Int32) * x3) + z4.1) - (48 : Int32)) z4.2) ⟨rfl, ⟨rfl, ⟨rfl, trivial⟩⟩⟩
theorem p_X12_digits (x0 : Nat) (x1 : Int32) (t : mk_S) : mk_O mk_wi M_X12_digits 0 [some (.ref x0), some (.int x1), none, none] [] t ((F_X12_isDigit x0 t).bind fun z1 => if z1.1 = 0 then ((mk_gi z1.2 x0 11 28).bind fun v2 => (F_X12_fails x0 (0 : Int32) v2 z1.2).bind fun z3 => some ((0 : Int32), z3.2)) else ((mk_gi z1.2 x0 11 28).bind fun v4 => B_X12_digits_25 mk_fu x0 x1 v4 (0 : Int32) z1.2)) := by
  refine xo_aload_n rfl rfl dX12_digits_0 ?_
  refine mk_O.callV (N := M_X12_isDigit) (ci := 11) (q := (RX12, TX12, 64)) (b := x0) (As1 := []) (S := []) md_X12_isDigit mv_X12_isDigit lk_RX12_231 rfl (Nat.le_of_ble_eq_true rfl) (by decide) dX12_digits_1 rfl rfl rfl (fun z hz => (c_X12_isDigit x0 t z hz).1) (fun z hz => (c_X12_isDigit x0 t z hz).2) (fun z1 _ => ?_)
  show mk_O _ _ _ _ (.int z1.1 :: []) _ _
  refine xo_if_ne (tgt := 18) dX12_digits_4 rfl (fun _ => ?_) (fun _ => ?_)
  · refine xo_aload_n rfl rfl dX12_digits_7 ?_
    refine xo_iconst kc_0 dX12_digits_8 ?_
    refine xo_aload_n rfl rfl dX12_digits_9 ?_
    refine xo_geti dX12_digits_10 cl_11 fl_RX12_192 rfl (fun v2 => ?_)
    refine mk_O.callV (N := M_X12_fails) (ci := 11) (q := (RX12, TX12, 64)) (b := x0) (As1 := [.int (0 : Int32), .int v2]) (S := []) md_X12_fails mv_X12_fails lk_RX12_227 rfl (Nat.le_of_ble_eq_true rfl) (by decide) dX12_digits_13 rfl rfl rfl (fun z hz => (c_X12_fails x0 (0 : Int32) v2 z1.2 z hz).1) (fun z hz => (c_X12_fails x0 (0 : Int32) v2 z1.2 z hz).2) (fun z3 _ => ?_)
    show mk_O _ _ _ _ [] _ _
    refine xo_iconst kc_0 dX12_digits_16 ?_
    exact xo_iret dX12_digits_17 rfl
  · refine xo_aload_n rfl rfl dX12_digits_18 ?_
    refine xo_geti dX12_digits_19 cl_11 fl_RX12_192 rfl (fun v4 => ?_)
    refine xo_istore_n rfl (by decide) (mk_p1_v rfl rfl) dX12_digits_22 ?_
    refine xo_iconst kc_0 dX12_digits_23 ?_
    refine xo_istore_n rfl (by decide) (mk_p1_v rfl rfl) dX12_digits_24 ?_
    exact mk_O.wk (o_X12_digits_25 mk_fu x0 x1 v4 (0 : Int32) z1.2) ⟨rfl, ⟨rfl, ⟨rfl, ⟨rfl, trivial⟩⟩⟩⟩
theorem c_X12_digits (x0 : Nat) (x1 : Int32) (t : mk_S) (z : Int32 × mk_S) (h : F_X12_digits x0 x1 t = some z) : mk_is t x0 11 ∧ mk_Ct M_X12_digits [.ref x0, .int x1] t (mk_wi z.1, z.2) :=
  ⟨(mk_gd_spec h).1, mk_ct (w := mk_wi) (by decide +kernel) (Nat.le_of_ble_eq_true rfl) (p_X12_digits x0 x1 t) z (mk_gd_spec h).2⟩
def B_X12_value_62 (x0 : Nat) (x1 : Int32) (x2 : Int32) (t : mk_S) : Option (Unit × mk_S) := (mk_gi t x0 11 36).bind fun v1 => if x2 = v1 then ((F_X12_fails x0 (0 : Int32) x1 t).bind fun z2 => some ((), z2.2)) else ((F_X12_isCounted x0 x1 t).bind fun z3 => (mk_gi z3.2 x0 11 28).bind fun v4 => (F_X12_wordOf x2 z3.2).bind fun z5 => (mk_sln z5.1 z5.2).bind fun z6 => (mk_pi z6.2 x0 11 28 (v4 + z6.1)).bind fun t7 => (F_X12_entry x0 (1 : Int32) x2 t7).bind fun z8 => some ((), z8.2))
def B_X12_value_37 : Nat → Nat → Int32 → Int32 → mk_S → Option (Unit × mk_S)
  | 0, _, _, _, _ => none
  | n + 1, x0, x1, x2, t => (mk_gi t x0 11 36).bind fun v1 => if v1 ≤ x2 then (B_X12_value_62 x0 x1 x2 t) else ((F_X12_wordOf x2 t).bind fun z2 => (F_X12_stood x0 z2.1 z2.2).bind fun z3 => if z3.1 = 0 then (B_X12_value_37 n x0 x1 (x2 + (1 : Int32)) z3.2) else (B_X12_value_62 x0 x1 x2 z3.2))
def F_X12_value (x0 : Nat) (t : mk_S) : Option (Unit × mk_S) := mk_gd t x0 11 ((F_X12_blanks x0 t).bind fun z1 => (mk_gi z1.2 x0 11 28).bind fun v2 => (F_X12_isDigit x0 z1.2).bind fun z3 => if z3.1 = 0 then (B_X12_value_37 mk_fu x0 v2 (0 : Int32) z3.2) else ((F_X12_digits x0 (99999 : Int32) z3.2).bind fun z4 => (F_X12_isCounted x0 v2 z4.2).bind fun z5 => (F_X12_entry x0 (0 : Int32) z4.1 z5.2).bind fun z6 => some ((), z6.2)))
theorem o_X12_value_62 (x0 : Nat) (x1 : Int32) (x2 : Int32) (t : mk_S) : mk_O mk_wu M_X12_value 62 [some (.ref x0), some (.int x1), some (.int x2)] [] t (B_X12_value_62 x0 x1 x2 t) := by
  unfold B_X12_value_62
  refine xo_iload_n rfl rfl dX12_value_62 ?_
  refine xo_aload_n rfl rfl dX12_value_63 ?_
  refine xo_geti dX12_value_64 cl_11 fl_RX12_88 rfl (fun v1 => ?_)
  refine xo_icmp_ne (tgt := 77) dX12_value_67 rfl (fun _ => ?_) (fun _ => ?_)
  · refine xo_aload_n rfl rfl dX12_value_70 ?_
    refine xo_iconst kc_0 dX12_value_71 ?_
    refine xo_iload_n rfl rfl dX12_value_72 ?_
    refine mk_O.callV (N := M_X12_fails) (ci := 11) (q := (RX12, TX12, 64)) (b := x0) (As1 := [.int (0 : Int32), .int x1]) (S := []) md_X12_fails mv_X12_fails lk_RX12_227 rfl (Nat.le_of_ble_eq_true rfl) (by decide) dX12_value_73 rfl rfl rfl (fun z hz => (c_X12_fails x0 (0 : Int32) x1 t z hz).1) (fun z hz => (c_X12_fails x0 (0 : Int32) x1 t z hz).2) (fun z2 _ => ?_)
    show mk_O _ _ _ _ [] _ _
    exact xo_vret dX12_value_76 rfl
  · refine xo_aload_n rfl rfl dX12_value_77 ?_
    refine xo_iload_n rfl rfl dX12_value_78 ?_
    refine mk_O.callV (N := M_X12_isCounted) (ci := 11) (q := (RX12, TX12, 64)) (b := x0) (As1 := [.int x1]) (S := []) md_X12_isCounted mv_X12_isCounted lk_RX12_240 rfl (Nat.le_of_ble_eq_true rfl) (by decide) dX12_value_79 rfl rfl rfl (fun z hz => (c_X12_isCounted x0 x1 t z hz).1) (fun z hz => (c_X12_isCounted x0 x1 t z hz).2) (fun z3 _ => ?_)
    show mk_O _ _ _ _ [] _ _
    refine xo_aload_n rfl rfl dX12_value_82 ?_
    refine xo_dup rfl dX12_value_83 ?_
    refine xo_geti dX12_value_84 cl_11 fl_RX12_192 rfl (fun v4 => ?_)
    refine xo_iload_n rfl rfl dX12_value_87 ?_
    refine mk_O.callS (N := M_X12_wordOf) (As := [.int x2]) (S := [.int v4, .ref x0]) md_X12_wordOf ms_X12_wordOf lk_RX12_246 rfl (Nat.le_of_ble_eq_true rfl) (by decide) dX12_value_88 rfl (fun z hz => c_X12_wordOf x2 z3.2 z hz) (fun z5 _ => ?_)
    show mk_O _ _ _ _ (.ref z5.1 :: [.int v4, .ref x0]) _ _
    refine xo_sln (mk_w6 (i := 167) rfl rfl) (Nat.le_of_ble_eq_true rfl) (by decide) dX12_value_91 (fun z6 _ => ?_)
    refine xo_iadd dX12_value_94 ?_
    refine xo_puti dX12_value_95 cl_11 fl_RX12_192 rfl ft_11_28 (fun t7 => ?_)
    refine xo_aload_n rfl rfl dX12_value_98 ?_
    refine xo_iconst kc_1 dX12_value_99 ?_
    refine xo_iload_n rfl rfl dX12_value_100 ?_
    refine mk_O.callV (N := M_X12_entry) (ci := 11) (q := (RX12, TX12, 64)) (b := x0) (As1 := [.int (1 : Int32), .int x2]) (S := []) md_X12_entry mv_X12_entry lk_RX12_243 rfl (Nat.le_of_ble_eq_true rfl) (by decide) dX12_value_101 rfl rfl rfl (fun z hz => (c_X12_entry x0 (1 : Int32) x2 t7 z hz).1) (fun z hz => (c_X12_entry x0 (1 : Int32) x2 t7 z hz).2) (fun z8 _ => ?_)
    show mk_O _ _ _ _ [] _ _
    exact xo_vret dX12_value_104 rfl
theorem o_X12_value_37 : ∀ (n : Nat) (x0 : Nat) (x1 : Int32) (x2 : Int32) (t : mk_S), mk_O mk_wu M_X12_value 37 [some (.ref x0), some (.int x1), some (.int x2)] [] t (B_X12_value_37 n x0 x1 x2 t) := by
  intro n
  induction n with
  | zero =>
    intro x0 x1 x2 t
    exact mk_O.none
  | succ n ih =>
    intro x0 x1 x2 t
    rw [B_X12_value_37]
    refine xo_iload_n rfl rfl dX12_value_37 ?_
    refine xo_aload_n rfl rfl dX12_value_38 ?_
    refine xo_geti dX12_value_39 cl_11 fl_RX12_88 rfl (fun v1 => ?_)
    refine xo_icmp_ge (tgt := 62) dX12_value_42 rfl (fun _ => ?_) (fun _ => ?_)
    · exact mk_O.wk (o_X12_value_62 x0 x1 x2 t) ⟨rfl, ⟨rfl, ⟨rfl, trivial⟩⟩⟩
    · refine xo_aload_n rfl rfl dX12_value_45 ?_
      refine xo_iload_n rfl rfl dX12_value_46 ?_
      refine mk_O.callS (N := M_X12_wordOf) (As := [.int x2]) (S := [.ref x0]) md_X12_wordOf ms_X12_wordOf lk_RX12_246 rfl (Nat.le_of_ble_eq_true rfl) (by decide) dX12_value_47 rfl (fun z hz => c_X12_wordOf x2 t z hz) (fun z2 _ => ?_)
      show mk_O _ _ _ _ (.ref z2.1 :: [.ref x0]) _ _
      refine mk_O.callV (N := M_X12_stood) (ci := 11) (q := (RX12, TX12, 64)) (b := x0) (As1 := [.ref z2.1]) (S := []) md_X12_stood mv_X12_stood lk_RX12_214 rfl (Nat.le_of_ble_eq_true rfl) (by decide) dX12_value_50 rfl rfl rfl (fun z hz => (c_X12_stood x0 z2.1 z2.2 z hz).1) (fun z hz => (c_X12_stood x0 z2.1 z2.2 z hz).2) (fun z3 _ => ?_)
      show mk_O _ _ _ _ (.int z3.1 :: []) _ _
      refine xo_if_ne (tgt := 62) dX12_value_53 rfl (fun _ => ?_) (fun _ => ?_)
      · refine xo_iinc rfl (congrArg _ kc_1) (by decide) (mk_p1_v rfl rfl) dX12_value_56 ?_
        refine xo_goto (tgt := 37) dX12_value_59 rfl ?_
        exact mk_O.wk (ih x0 x1 (x2 + (1 : Int32)) z3.2) ⟨rfl, ⟨rfl, ⟨rfl, trivial⟩⟩⟩
      · exact mk_O.wk (o_X12_value_62 x0 x1 x2 z3.2) ⟨rfl, ⟨rfl, ⟨rfl, trivial⟩⟩⟩
theorem p_X12_value (x0 : Nat) (t : mk_S) : mk_O mk_wu M_X12_value 0 [some (.ref x0), none, none] [] t ((F_X12_blanks x0 t).bind fun z1 => (mk_gi z1.2 x0 11 28).bind fun v2 => (F_X12_isDigit x0 z1.2).bind fun z3 => if z3.1 = 0 then (B_X12_value_37 mk_fu x0 v2 (0 : Int32) z3.2) else ((F_X12_digits x0 (99999 : Int32) z3.2).bind fun z4 => (F_X12_isCounted x0 v2 z4.2).bind fun z5 => (F_X12_entry x0 (0 : Int32) z4.1 z5.2).bind fun z6 => some ((), z6.2))) := by
  refine xo_aload_n rfl rfl dX12_value_0 ?_
  refine mk_O.callV (N := M_X12_blanks) (ci := 11) (q := (RX12, TX12, 64)) (b := x0) (As1 := []) (S := []) md_X12_blanks mv_X12_blanks lk_RX12_211 rfl (Nat.le_of_ble_eq_true rfl) (by decide) dX12_value_1 rfl rfl rfl (fun z hz => (c_X12_blanks x0 t z hz).1) (fun z hz => (c_X12_blanks x0 t z hz).2) (fun z1 _ => ?_)
  show mk_O _ _ _ _ [] _ _
  refine xo_aload_n rfl rfl dX12_value_4 ?_
  refine xo_geti dX12_value_5 cl_11 fl_RX12_192 rfl (fun v2 => ?_)
  refine xo_istore_n rfl (by decide) (mk_p1_v rfl rfl) dX12_value_8 ?_
  refine xo_aload_n rfl rfl dX12_value_9 ?_
  refine mk_O.callV (N := M_X12_isDigit) (ci := 11) (q := (RX12, TX12, 64)) (b := x0) (As1 := []) (S := []) md_X12_isDigit mv_X12_isDigit lk_RX12_231 rfl (Nat.le_of_ble_eq_true rfl) (by decide) dX12_value_10 rfl rfl rfl (fun z hz => (c_X12_isDigit x0 z1.2 z hz).1) (fun z hz => (c_X12_isDigit x0 z1.2 z hz).2) (fun z3 _ => ?_)
  show mk_O _ _ _ _ (.int z3.1 :: []) _ _
  refine xo_if_eq (tgt := 35) dX12_value_13 rfl (fun _ => ?_) (fun _ => ?_)
  · refine xo_iconst kc_0 dX12_value_35 ?_
    refine xo_istore_n rfl (by decide) (mk_p1_v rfl rfl) dX12_value_36 ?_
    exact mk_O.wk (o_X12_value_37 mk_fu x0 v2 (0 : Int32) z3.2) ⟨rfl, ⟨rfl, ⟨rfl, trivial⟩⟩⟩
  · refine xo_aload_n rfl rfl dX12_value_16 ?_
    refine xo_ldc (v := 99999) (mk_w6 (i := 185) rfl rfl) dX12_value_17 ?_
    refine mk_O.callV (N := M_X12_digits) (ci := 11) (q := (RX12, TX12, 64)) (b := x0) (As1 := [.int (99999 : Int32)]) (S := []) md_X12_digits mv_X12_digits lk_RX12_236 rfl (Nat.le_of_ble_eq_true rfl) (by decide) dX12_value_19 rfl rfl rfl (fun z hz => (c_X12_digits x0 (99999 : Int32) z3.2 z hz).1) (fun z hz => (c_X12_digits x0 (99999 : Int32) z3.2 z hz).2) (fun z4 _ => ?_)
    show mk_O _ _ _ _ (.int z4.1 :: []) _ _
    refine xo_istore_n rfl (by decide) (mk_p1_v rfl rfl) dX12_value_22 ?_
    refine xo_aload_n rfl rfl dX12_value_23 ?_
    refine xo_iload_n rfl rfl dX12_value_24 ?_
    refine mk_O.callV (N := M_X12_isCounted) (ci := 11) (q := (RX12, TX12, 64)) (b := x0) (As1 := [.int v2]) (S := []) md_X12_isCounted mv_X12_isCounted lk_RX12_240 rfl (Nat.le_of_ble_eq_true rfl) (by decide) dX12_value_25 rfl rfl rfl (fun z hz => (c_X12_isCounted x0 v2 z4.2 z hz).1) (fun z hz => (c_X12_isCounted x0 v2 z4.2 z hz).2) (fun z5 _ => ?_)
    show mk_O _ _ _ _ [] _ _
    refine xo_aload_n rfl rfl dX12_value_28 ?_
    refine xo_iconst kc_0 dX12_value_29 ?_
    refine xo_iload_n rfl rfl dX12_value_30 ?_
    refine mk_O.callV (N := M_X12_entry) (ci := 11) (q := (RX12, TX12, 64)) (b := x0) (As1 := [.int (0 : Int32), .int z4.1]) (S := []) md_X12_entry mv_X12_entry lk_RX12_243 rfl (Nat.le_of_ble_eq_true rfl) (by decide) dX12_value_31 rfl rfl rfl (fun z hz => (c_X12_entry x0 (0 : Int32) z4.1 z5.2 z hz).1) (fun z hz => (c_X12_entry x0 (0 : Int32) z4.1 z5.2 z hz).2) (fun z6 _ => ?_)
    show mk_O _ _ _ _ [] _ _
    exact xo_vret dX12_value_34 rfl
theorem c_X12_value (x0 : Nat) (t : mk_S) (z : Unit × mk_S) (h : F_X12_value x0 t = some z) : mk_is t x0 11 ∧ mk_Ct M_X12_value [.ref x0] t (mk_wu z.1, z.2) :=
  ⟨(mk_gd_spec h).1, mk_ct (w := mk_wu) (by decide +kernel) (Nat.le_of_ble_eq_true rfl) (p_X12_value x0 t) z (mk_gd_spec h).2⟩
def B_X12_term_72 (k8 : Nat → mk_S → Option (Unit × mk_S)) (x0 : Nat) (s0 : Int32) (t : mk_S) : Option (Unit × mk_S) := (mk_gi t x0 11 28).bind fun v1 => (mk_pi t x0 11 28 (v1 + (1 : Int32))).bind fun t2 => (F_X12_value x0 t2).bind fun z3 => (F_X12_entry x0 s0 (0 : Int32) z3.2).bind fun z4 => (F_X12_blanks x0 z4.2).bind fun z5 => k8 x0 z5.2
def B_X12_term_42 (k8 : Nat → mk_S → Option (Unit × mk_S)) (x0 : Nat) (t : mk_S) : Option (Unit × mk_S) := (F_X12_sign x0 t).bind fun z1 => if z1.1 = (42 : Int32) then (B_X12_term_72 k8 x0 (13 : Int32) z1.2) else ((F_X12_sign x0 z1.2).bind fun z2 => if z2.1 = (47 : Int32) then (B_X12_term_72 k8 x0 (14 : Int32) z2.2) else (B_X12_term_72 k8 x0 (15 : Int32) z2.2))
def B_X12_term_8 : Nat → Nat → mk_S → Option (Unit × mk_S)
  | 0, _, _ => none
  | n + 1, x0, t => (mk_gi t x0 11 29).bind fun v1 => if v1 = 0 then ((F_X12_sign x0 t).bind fun z2 => if z2.1 = (42 : Int32) then (B_X12_term_42 (B_X12_term_8 n) x0 z2.2) else ((F_X12_sign x0 z2.2).bind fun z3 => if z3.1 = (47 : Int32) then (B_X12_term_42 (B_X12_term_8 n) x0 z3.2) else ((F_X12_sign x0 z3.2).bind fun z4 => if z4.1 = (37 : Int32) then (B_X12_term_42 (B_X12_term_8 n) x0 z4.2) else (some ((), z4.2))))) else (some ((), t))
def F_X12_term (x0 : Nat) (t : mk_S) : Option (Unit × mk_S) := mk_gd t x0 11 ((F_X12_value x0 t).bind fun z1 => (F_X12_blanks x0 z1.2).bind fun z2 => B_X12_term_8 mk_fu x0 z2.2)
theorem o_X12_term_72 (k8 : Nat → mk_S → Option (Unit × mk_S)) (h8 : ∀ (x0 : Nat) (t : mk_S), mk_O mk_wu M_X12_term 8 [some (.ref x0), none] [] t (k8 x0 t)) (x0 : Nat) (s0 : Int32) (t : mk_S) : mk_O mk_wu M_X12_term 72 [some (.ref x0), none] [.int s0] t (B_X12_term_72 k8 x0 s0 t) := by
  unfold B_X12_term_72
  refine xo_istore_n rfl (by decide) (mk_p1_v rfl rfl) dX12_term_72 ?_
  refine xo_aload_n rfl rfl dX12_term_73 ?_
  refine xo_dup rfl dX12_term_74 ?_
  refine xo_geti dX12_term_75 cl_11 fl_RX12_192 rfl (fun v1 => ?_)
  refine xo_iconst kc_1 dX12_term_78 ?_
  refine xo_iadd dX12_term_79 ?_
  refine xo_puti dX12_term_80 cl_11 fl_RX12_192 rfl ft_11_28 (fun t2 => ?_)
  refine xo_aload_n rfl rfl dX12_term_83 ?_
  refine mk_O.callV (N := M_X12_value) (ci := 11) (q := (RX12, TX12, 64)) (b := x0) (As1 := []) (S := []) md_X12_value mv_X12_value lk_RX12_250 rfl (Nat.le_of_ble_eq_true rfl) (by decide) dX12_term_84 rfl rfl rfl (fun z hz => (c_X12_value x0 t2 z hz).1) (fun z hz => (c_X12_value x0 t2 z hz).2) (fun z3 _ => ?_)
  show mk_O _ _ _ _ [] _ _
  refine xo_aload_n rfl rfl dX12_term_87 ?_
  refine xo_iload_n rfl rfl dX12_term_88 ?_
  refine xo_iconst kc_0 dX12_term_89 ?_
  refine mk_O.callV (N := M_X12_entry) (ci := 11) (q := (RX12, TX12, 64)) (b := x0) (As1 := [.int s0, .int (0 : Int32)]) (S := []) md_X12_entry mv_X12_entry lk_RX12_243 rfl (Nat.le_of_ble_eq_true rfl) (by decide) dX12_term_90 rfl rfl rfl (fun z hz => (c_X12_entry x0 s0 (0 : Int32) z3.2 z hz).1) (fun z hz => (c_X12_entry x0 s0 (0 : Int32) z3.2 z hz).2) (fun z4 _ => ?_)
  show mk_O _ _ _ _ [] _ _
  refine xo_aload_n rfl rfl dX12_term_93 ?_
  refine mk_O.callV (N := M_X12_blanks) (ci := 11) (q := (RX12, TX12, 64)) (b := x0) (As1 := []) (S := []) md_X12_blanks mv_X12_blanks lk_RX12_211 rfl (Nat.le_of_ble_eq_true rfl) (by decide) dX12_term_94 rfl rfl rfl (fun z hz => (c_X12_blanks x0 z4.2 z hz).1) (fun z hz => (c_X12_blanks x0 z4.2 z hz).2) (fun z5 _ => ?_)
  show mk_O _ _ _ _ [] _ _
  refine xo_goto (tgt := 8) dX12_term_97 rfl ?_
  exact mk_O.wk (h8 x0 z5.2) ⟨rfl, trivial⟩
theorem o_X12_term_42 (k8 : Nat → mk_S → Option (Unit × mk_S)) (h8 : ∀ (x0 : Nat) (t : mk_S), mk_O mk_wu M_X12_term 8 [some (.ref x0), none] [] t (k8 x0 t)) (x0 : Nat) (t : mk_S) : mk_O mk_wu M_X12_term 42 [some (.ref x0), none] [] t (B_X12_term_42 k8 x0 t) := by
  unfold B_X12_term_42
  refine xo_aload_n rfl rfl dX12_term_42 ?_
  refine mk_O.callV (N := M_X12_sign) (ci := 11) (q := (RX12, TX12, 64)) (b := x0) (As1 := []) (S := []) md_X12_sign mv_X12_sign lk_RX12_195 rfl (Nat.le_of_ble_eq_true rfl) (by decide) dX12_term_43 rfl rfl rfl (fun z hz => (c_X12_sign x0 t z hz).1) (fun z hz => (c_X12_sign x0 t z hz).2) (fun z1 _ => ?_)
  show mk_O _ _ _ _ (.int z1.1 :: []) _ _
  refine xo_bipush kb_42 dX12_term_46 ?_
  refine xo_icmp_ne (tgt := 56) dX12_term_48 rfl (fun _ => ?_) (fun _ => ?_)
  · refine xo_bipush kb_13 dX12_term_51 ?_
    refine xo_goto (tgt := 72) dX12_term_53 rfl ?_
    exact mk_O.wk (o_X12_term_72 _ h8 x0 (13 : Int32) z1.2) ⟨rfl, trivial⟩
  · refine xo_aload_n rfl rfl dX12_term_56 ?_
    refine mk_O.callV (N := M_X12_sign) (ci := 11) (q := (RX12, TX12, 64)) (b := x0) (As1 := []) (S := []) md_X12_sign mv_X12_sign lk_RX12_195 rfl (Nat.le_of_ble_eq_true rfl) (by decide) dX12_term_57 rfl rfl rfl (fun z hz => (c_X12_sign x0 z1.2 z hz).1) (fun z hz => (c_X12_sign x0 z1.2 z hz).2) (fun z2 _ => ?_)
    show mk_O _ _ _ _ (.int z2.1 :: []) _ _
    refine xo_bipush kb_47 dX12_term_60 ?_
    refine xo_icmp_ne (tgt := 70) dX12_term_62 rfl (fun _ => ?_) (fun _ => ?_)
    · refine xo_bipush kb_14 dX12_term_65 ?_
      refine xo_goto (tgt := 72) dX12_term_67 rfl ?_
      exact mk_O.wk (o_X12_term_72 _ h8 x0 (14 : Int32) z2.2) ⟨rfl, trivial⟩
    · refine xo_bipush kb_15 dX12_term_70 ?_
      exact mk_O.wk (o_X12_term_72 _ h8 x0 (15 : Int32) z2.2) ⟨rfl, trivial⟩
theorem o_X12_term_8 : ∀ (n : Nat) (x0 : Nat) (t : mk_S), mk_O mk_wu M_X12_term 8 [some (.ref x0), none] [] t (B_X12_term_8 n x0 t) := by
  intro n
  induction n with
  | zero =>
    intro x0 t
    exact mk_O.none
  | succ n ih =>
    intro x0 t
    rw [B_X12_term_8]
    refine xo_aload_n rfl rfl dX12_term_8 ?_
    refine xo_geti dX12_term_9 cl_11 fl_RX12_189 rfl (fun v1 => ?_)
    refine xo_if_ne (tgt := 100) dX12_term_12 rfl (fun _ => ?_) (fun _ => ?_)
    · refine xo_aload_n rfl rfl dX12_term_15 ?_
      refine mk_O.callV (N := M_X12_sign) (ci := 11) (q := (RX12, TX12, 64)) (b := x0) (As1 := []) (S := []) md_X12_sign mv_X12_sign lk_RX12_195 rfl (Nat.le_of_ble_eq_true rfl) (by decide) dX12_term_16 rfl rfl rfl (fun z hz => (c_X12_sign x0 t z hz).1) (fun z hz => (c_X12_sign x0 t z hz).2) (fun z2 _ => ?_)
      show mk_O _ _ _ _ (.int z2.1 :: []) _ _
      refine xo_bipush kb_42 dX12_term_19 ?_
      refine xo_icmp_eq (tgt := 42) dX12_term_21 rfl (fun _ => ?_) (fun _ => ?_)
      · exact mk_O.wk (o_X12_term_42 _ ih x0 z2.2) ⟨rfl, trivial⟩
      · refine xo_aload_n rfl rfl dX12_term_24 ?_
        refine mk_O.callV (N := M_X12_sign) (ci := 11) (q := (RX12, TX12, 64)) (b := x0) (As1 := []) (S := []) md_X12_sign mv_X12_sign lk_RX12_195 rfl (Nat.le_of_ble_eq_true rfl) (by decide) dX12_term_25 rfl rfl rfl (fun z hz => (c_X12_sign x0 z2.2 z hz).1) (fun z hz => (c_X12_sign x0 z2.2 z hz).2) (fun z3 _ => ?_)
        show mk_O _ _ _ _ (.int z3.1 :: []) _ _
        refine xo_bipush kb_47 dX12_term_28 ?_
        refine xo_icmp_eq (tgt := 42) dX12_term_30 rfl (fun _ => ?_) (fun _ => ?_)
        · exact mk_O.wk (o_X12_term_42 _ ih x0 z3.2) ⟨rfl, trivial⟩
        · refine xo_aload_n rfl rfl dX12_term_33 ?_
          refine mk_O.callV (N := M_X12_sign) (ci := 11) (q := (RX12, TX12, 64)) (b := x0) (As1 := []) (S := []) md_X12_sign mv_X12_sign lk_RX12_195 rfl (Nat.le_of_ble_eq_true rfl) (by decide) dX12_term_34 rfl rfl rfl (fun z hz => (c_X12_sign x0 z3.2 z hz).1) (fun z hz => (c_X12_sign x0 z3.2 z hz).2) (fun z4 _ => ?_)
          show mk_O _ _ _ _ (.int z4.1 :: []) _ _
          refine xo_bipush kb_37 dX12_term_37 ?_
          refine xo_icmp_ne (tgt := 100) dX12_term_39 rfl (fun _ => ?_) (fun _ => ?_)
          · exact mk_O.wk (o_X12_term_42 _ ih x0 z4.2) ⟨rfl, trivial⟩
          · exact xo_vret dX12_term_100 rfl
    · exact xo_vret dX12_term_100 rfl
theorem p_X12_term (x0 : Nat) (t : mk_S) : mk_O mk_wu M_X12_term 0 [some (.ref x0), none] [] t ((F_X12_value x0 t).bind fun z1 => (F_X12_blanks x0 z1.2).bind fun z2 => B_X12_term_8 mk_fu x0 z2.2) := by
  refine xo_aload_n rfl rfl dX12_term_0 ?_
  refine mk_O.callV (N := M_X12_value) (ci := 11) (q := (RX12, TX12, 64)) (b := x0) (As1 := []) (S := []) md_X12_value mv_X12_value lk_RX12_250 rfl (Nat.le_of_ble_eq_true rfl) (by decide) dX12_term_1 rfl rfl rfl (fun z hz => (c_X12_value x0 t z hz).1) (fun z hz => (c_X12_value x0 t z hz).2) (fun z1 _ => ?_)
  show mk_O _ _ _ _ [] _ _
  refine xo_aload_n rfl rfl dX12_term_4 ?_
  refine mk_O.callV (N := M_X12_blanks) (ci := 11) (q := (RX12, TX12, 64)) (b := x0) (As1 := []) (S := []) md_X12_blanks mv_X12_blanks lk_RX12_211 rfl (Nat.le_of_ble_eq_true rfl) (by decide) dX12_term_5 rfl rfl rfl (fun z hz => (c_X12_blanks x0 z1.2 z hz).1) (fun z hz => (c_X12_blanks x0 z1.2 z hz).2) (fun z2 _ => ?_)
  show mk_O _ _ _ _ [] _ _
  exact mk_O.wk (o_X12_term_8 mk_fu x0 z2.2) ⟨rfl, trivial⟩
theorem c_X12_term (x0 : Nat) (t : mk_S) (z : Unit × mk_S) (h : F_X12_term x0 t = some z) : mk_is t x0 11 ∧ mk_Ct M_X12_term [.ref x0] t (mk_wu z.1, z.2) :=
  ⟨(mk_gd_spec h).1, mk_ct (w := mk_wu) (by decide +kernel) (Nat.le_of_ble_eq_true rfl) (p_X12_term x0 t) z (mk_gd_spec h).2⟩
def B_X12_sum_43 (k4 : Nat → mk_S → Option (Unit × mk_S)) (x0 : Nat) (s0 : Int32) (t : mk_S) : Option (Unit × mk_S) := (mk_gi t x0 11 28).bind fun v1 => (mk_pi t x0 11 28 (v1 + (1 : Int32))).bind fun t2 => (F_X12_term x0 t2).bind fun z3 => (F_X12_entry x0 s0 (0 : Int32) z3.2).bind fun z4 => k4 x0 z4.2
def B_X12_sum_29 (k4 : Nat → mk_S → Option (Unit × mk_S)) (x0 : Nat) (t : mk_S) : Option (Unit × mk_S) := (F_X12_sign x0 t).bind fun z1 => if z1.1 = (43 : Int32) then (B_X12_sum_43 k4 x0 (2 : Int32) z1.2) else (B_X12_sum_43 k4 x0 (3 : Int32) z1.2)
def B_X12_sum_4 : Nat → Nat → mk_S → Option (Unit × mk_S)
  | 0, _, _ => none
  | n + 1, x0, t => (mk_gi t x0 11 29).bind fun v1 => if v1 = 0 then ((F_X12_sign x0 t).bind fun z2 => if z2.1 = (43 : Int32) then (B_X12_sum_29 (B_X12_sum_4 n) x0 z2.2) else ((F_X12_sign x0 z2.2).bind fun z3 => if z3.1 = (45 : Int32) then (B_X12_sum_29 (B_X12_sum_4 n) x0 z3.2) else (some ((), z3.2)))) else (some ((), t))
def F_X12_sum (x0 : Nat) (t : mk_S) : Option (Unit × mk_S) := mk_gd t x0 11 ((F_X12_term x0 t).bind fun z1 => B_X12_sum_4 mk_fu x0 z1.2)
theorem o_X12_sum_43 (k4 : Nat → mk_S → Option (Unit × mk_S)) (h4 : ∀ (x0 : Nat) (t : mk_S), mk_O mk_wu M_X12_sum 4 [some (.ref x0), none] [] t (k4 x0 t)) (x0 : Nat) (s0 : Int32) (t : mk_S) : mk_O mk_wu M_X12_sum 43 [some (.ref x0), none] [.int s0] t (B_X12_sum_43 k4 x0 s0 t) := by
  unfold B_X12_sum_43
  refine xo_istore_n rfl (by decide) (mk_p1_v rfl rfl) dX12_sum_43 ?_
  refine xo_aload_n rfl rfl dX12_sum_44 ?_
  refine xo_dup rfl dX12_sum_45 ?_
  refine xo_geti dX12_sum_46 cl_11 fl_RX12_192 rfl (fun v1 => ?_)
  refine xo_iconst kc_1 dX12_sum_49 ?_
  refine xo_iadd dX12_sum_50 ?_
  refine xo_puti dX12_sum_51 cl_11 fl_RX12_192 rfl ft_11_28 (fun t2 => ?_)
  refine xo_aload_n rfl rfl dX12_sum_54 ?_
  refine mk_O.callV (N := M_X12_term) (ci := 11) (q := (RX12, TX12, 64)) (b := x0) (As1 := []) (S := []) md_X12_term mv_X12_term lk_RX12_253 rfl (Nat.le_of_ble_eq_true rfl) (by decide) dX12_sum_55 rfl rfl rfl (fun z hz => (c_X12_term x0 t2 z hz).1) (fun z hz => (c_X12_term x0 t2 z hz).2) (fun z3 _ => ?_)
  show mk_O _ _ _ _ [] _ _
  refine xo_aload_n rfl rfl dX12_sum_58 ?_
  refine xo_iload_n rfl rfl dX12_sum_59 ?_
  refine xo_iconst kc_0 dX12_sum_60 ?_
  refine mk_O.callV (N := M_X12_entry) (ci := 11) (q := (RX12, TX12, 64)) (b := x0) (As1 := [.int s0, .int (0 : Int32)]) (S := []) md_X12_entry mv_X12_entry lk_RX12_243 rfl (Nat.le_of_ble_eq_true rfl) (by decide) dX12_sum_61 rfl rfl rfl (fun z hz => (c_X12_entry x0 s0 (0 : Int32) z3.2 z hz).1) (fun z hz => (c_X12_entry x0 s0 (0 : Int32) z3.2 z hz).2) (fun z4 _ => ?_)
  show mk_O _ _ _ _ [] _ _
  refine xo_goto (tgt := 4) dX12_sum_64 rfl ?_
  exact mk_O.wk (h4 x0 z4.2) ⟨rfl, trivial⟩
theorem o_X12_sum_29 (k4 : Nat → mk_S → Option (Unit × mk_S)) (h4 : ∀ (x0 : Nat) (t : mk_S), mk_O mk_wu M_X12_sum 4 [some (.ref x0), none] [] t (k4 x0 t)) (x0 : Nat) (t : mk_S) : mk_O mk_wu M_X12_sum 29 [some (.ref x0), none] [] t (B_X12_sum_29 k4 x0 t) := by
  unfold B_X12_sum_29
  refine xo_aload_n rfl rfl dX12_sum_29 ?_
  refine mk_O.callV (N := M_X12_sign) (ci := 11) (q := (RX12, TX12, 64)) (b := x0) (As1 := []) (S := []) md_X12_sign mv_X12_sign lk_RX12_195 rfl (Nat.le_of_ble_eq_true rfl) (by decide) dX12_sum_30 rfl rfl rfl (fun z hz => (c_X12_sign x0 t z hz).1) (fun z hz => (c_X12_sign x0 t z hz).2) (fun z1 _ => ?_)
  show mk_O _ _ _ _ (.int z1.1 :: []) _ _
  refine xo_bipush kb_43 dX12_sum_33 ?_
  refine xo_icmp_ne (tgt := 42) dX12_sum_35 rfl (fun _ => ?_) (fun _ => ?_)
  · refine xo_iconst kc_2 dX12_sum_38 ?_
    refine xo_goto (tgt := 43) dX12_sum_39 rfl ?_
    exact mk_O.wk (o_X12_sum_43 _ h4 x0 (2 : Int32) z1.2) ⟨rfl, trivial⟩
  · refine xo_iconst kc_3 dX12_sum_42 ?_
    exact mk_O.wk (o_X12_sum_43 _ h4 x0 (3 : Int32) z1.2) ⟨rfl, trivial⟩
theorem o_X12_sum_4 : ∀ (n : Nat) (x0 : Nat) (t : mk_S), mk_O mk_wu M_X12_sum 4 [some (.ref x0), none] [] t (B_X12_sum_4 n x0 t) := by
  intro n
  induction n with
  | zero =>
    intro x0 t
    exact mk_O.none
  | succ n ih =>
    intro x0 t
    rw [B_X12_sum_4]
    refine xo_aload_n rfl rfl dX12_sum_4 ?_
    refine xo_geti dX12_sum_5 cl_11 fl_RX12_189 rfl (fun v1 => ?_)
    refine xo_if_ne (tgt := 67) dX12_sum_8 rfl (fun _ => ?_) (fun _ => ?_)
    · refine xo_aload_n rfl rfl dX12_sum_11 ?_
      refine mk_O.callV (N := M_X12_sign) (ci := 11) (q := (RX12, TX12, 64)) (b := x0) (As1 := []) (S := []) md_X12_sign mv_X12_sign lk_RX12_195 rfl (Nat.le_of_ble_eq_true rfl) (by decide) dX12_sum_12 rfl rfl rfl (fun z hz => (c_X12_sign x0 t z hz).1) (fun z hz => (c_X12_sign x0 t z hz).2) (fun z2 _ => ?_)
      show mk_O _ _ _ _ (.int z2.1 :: []) _ _
      refine xo_bipush kb_43 dX12_sum_15 ?_
      refine xo_icmp_eq (tgt := 29) dX12_sum_17 rfl (fun _ => ?_) (fun _ => ?_)
      · exact mk_O.wk (o_X12_sum_29 _ ih x0 z2.2) ⟨rfl, trivial⟩
      · refine xo_aload_n rfl rfl dX12_sum_20 ?_
        refine mk_O.callV (N := M_X12_sign) (ci := 11) (q := (RX12, TX12, 64)) (b := x0) (As1 := []) (S := []) md_X12_sign mv_X12_sign lk_RX12_195 rfl (Nat.le_of_ble_eq_true rfl) (by decide) dX12_sum_21 rfl rfl rfl (fun z hz => (c_X12_sign x0 z2.2 z hz).1) (fun z hz => (c_X12_sign x0 z2.2 z hz).2) (fun z3 _ => ?_)
        show mk_O _ _ _ _ (.int z3.1 :: []) _ _
        refine xo_bipush kb_45 dX12_sum_24 ?_
        refine xo_icmp_ne (tgt := 67) dX12_sum_26 rfl (fun _ => ?_) (fun _ => ?_)
        · exact mk_O.wk (o_X12_sum_29 _ ih x0 z3.2) ⟨rfl, trivial⟩
        · exact xo_vret dX12_sum_67 rfl
    · exact xo_vret dX12_sum_67 rfl
theorem p_X12_sum (x0 : Nat) (t : mk_S) : mk_O mk_wu M_X12_sum 0 [some (.ref x0), none] [] t ((F_X12_term x0 t).bind fun z1 => B_X12_sum_4 mk_fu x0 z1.2) := by
  refine xo_aload_n rfl rfl dX12_sum_0 ?_
  refine mk_O.callV (N := M_X12_term) (ci := 11) (q := (RX12, TX12, 64)) (b := x0) (As1 := []) (S := []) md_X12_term mv_X12_term lk_RX12_253 rfl (Nat.le_of_ble_eq_true rfl) (by decide) dX12_sum_1 rfl rfl rfl (fun z hz => (c_X12_term x0 t z hz).1) (fun z hz => (c_X12_term x0 t z hz).2) (fun z1 _ => ?_)
  show mk_O _ _ _ _ [] _ _
  exact mk_O.wk (o_X12_sum_4 mk_fu x0 z1.2) ⟨rfl, trivial⟩
theorem c_X12_sum (x0 : Nat) (t : mk_S) (z : Unit × mk_S) (h : F_X12_sum x0 t = some z) : mk_is t x0 11 ∧ mk_Ct M_X12_sum [.ref x0] t (mk_wu z.1, z.2) :=
  ⟨(mk_gd_spec h).1, mk_ct (w := mk_wu) (by decide +kernel) (Nat.le_of_ble_eq_true rfl) (p_X12_sum x0 t) z (mk_gd_spec h).2⟩
def B_X12_compared_139 (s0 : Nat) (s1 : Int32) (t : mk_S) : Option (Unit × mk_S) := (F_X12_entry s0 s1 (0 : Int32) t).bind fun z1 => some ((), z1.2)
def B_X12_compared_90 (x0 : Nat) (x1 : Int32) (x2 : Int32) (s0 : Nat) (s1 : Int32) (s2 : Int32) (t : mk_S) : Option (Unit × mk_S) := (mk_pi t s0 11 28 (s1 + s2)).bind fun t1 => (F_X12_sum x0 t1).bind fun z2 => if x1 = (61 : Int32) then (B_X12_compared_139 x0 (6 : Int32) z2.2) else (if x1 = (60 : Int32) then (if x2 = 0 then (B_X12_compared_139 x0 (4 : Int32) z2.2) else (B_X12_compared_139 x0 (5 : Int32) z2.2)) else (if x2 = 0 then (B_X12_compared_139 x0 (8 : Int32) z2.2) else (B_X12_compared_139 x0 (7 : Int32) z2.2)))
def B_X12_compared_75 (x0 : Nat) (x1 : Int32) (s0 : Int32) (t : mk_S) : Option (Unit × mk_S) := (mk_gi t x0 11 28).bind fun v1 => if s0 = 0 then (B_X12_compared_90 x0 x1 s0 x0 v1 (0 : Int32) t) else (B_X12_compared_90 x0 x1 s0 x0 v1 (1 : Int32) t)
def B_X12_compared_74 (x0 : Nat) (x1 : Int32) (t : mk_S) : Option (Unit × mk_S) := B_X12_compared_75 x0 x1 (0 : Int32) t
def B_X12_compared_37 (x0 : Nat) (x1 : Int32) (t : mk_S) : Option (Unit × mk_S) := (mk_gi t x0 11 28).bind fun v1 => (F_X12_isCounted x0 v1 t).bind fun z2 => (mk_gi z2.2 x0 11 28).bind fun v3 => (mk_pi z2.2 x0 11 28 (v3 + (1 : Int32))).bind fun t4 => if x1 = (61 : Int32) then (B_X12_compared_74 x0 x1 t4) else ((F_X12_sign x0 t4).bind fun z5 => if z5.1 = (61 : Int32) then (B_X12_compared_75 x0 x1 (1 : Int32) z5.2) else (B_X12_compared_74 x0 x1 z5.2))
def F_X12_compared (x0 : Nat) (t : mk_S) : Option (Unit × mk_S) := mk_gd t x0 11 ((F_X12_sum x0 t).bind fun z1 => (F_X12_sign x0 z1.2).bind fun z2 => if z2.1 = (60 : Int32) then (B_X12_compared_37 x0 z2.1 z2.2) else (if z2.1 = (61 : Int32) then (B_X12_compared_37 x0 z2.1 z2.2) else (if z2.1 = (62 : Int32) then (B_X12_compared_37 x0 z2.1 z2.2) else ((mk_gi z2.2 x0 11 28).bind fun v3 => (F_X12_fails x0 (0 : Int32) v3 z2.2).bind fun z4 => some ((), z4.2)))))
theorem o_X12_compared_139 (s0 : Nat) (s1 : Int32) (t : mk_S) : mk_O mk_wu M_X12_compared 139 [none, none, none] [.int s1, .ref s0] t (B_X12_compared_139 s0 s1 t) := by
  unfold B_X12_compared_139
  refine xo_iconst kc_0 dX12_compared_139 ?_
  refine mk_O.callV (N := M_X12_entry) (ci := 11) (q := (RX12, TX12, 64)) (b := s0) (As1 := [.int s1, .int (0 : Int32)]) (S := []) md_X12_entry mv_X12_entry lk_RX12_243 rfl (Nat.le_of_ble_eq_true rfl) (by decide) dX12_compared_140 rfl rfl rfl (fun z hz => (c_X12_entry s0 s1 (0 : Int32) t z hz).1) (fun z hz => (c_X12_entry s0 s1 (0 : Int32) t z hz).2) (fun z1 _ => ?_)
  show mk_O _ _ _ _ [] _ _
  exact xo_vret dX12_compared_143 rfl
theorem o_X12_compared_90 (x0 : Nat) (x1 : Int32) (x2 : Int32) (s0 : Nat) (s1 : Int32) (s2 : Int32) (t : mk_S) : mk_O mk_wu M_X12_compared 90 [some (.ref x0), some (.int x1), some (.int x2)] [.int s2, .int s1, .ref s0] t (B_X12_compared_90 x0 x1 x2 s0 s1 s2 t) := by
  unfold B_X12_compared_90
  refine xo_iadd dX12_compared_90 ?_
  refine xo_puti dX12_compared_91 cl_11 fl_RX12_192 rfl ft_11_28 (fun t1 => ?_)
  refine xo_aload_n rfl rfl dX12_compared_94 ?_
  refine mk_O.callV (N := M_X12_sum) (ci := 11) (q := (RX12, TX12, 64)) (b := x0) (As1 := []) (S := []) md_X12_sum mv_X12_sum lk_RX12_256 rfl (Nat.le_of_ble_eq_true rfl) (by decide) dX12_compared_95 rfl rfl rfl (fun z hz => (c_X12_sum x0 t1 z hz).1) (fun z hz => (c_X12_sum x0 t1 z hz).2) (fun z2 _ => ?_)
  show mk_O _ _ _ _ [] _ _
  refine xo_aload_n rfl rfl dX12_compared_98 ?_
  refine xo_iload_n rfl rfl dX12_compared_99 ?_
  refine xo_bipush kb_61 dX12_compared_100 ?_
  refine xo_icmp_ne (tgt := 110) dX12_compared_102 rfl (fun _ => ?_) (fun _ => ?_)
  · refine xo_bipush kb_6 dX12_compared_105 ?_
    refine xo_goto (tgt := 139) dX12_compared_107 rfl ?_
    exact mk_O.wk (o_X12_compared_139 x0 (6 : Int32) z2.2) trivial
  · refine xo_iload_n rfl rfl dX12_compared_110 ?_
    refine xo_bipush kb_60 dX12_compared_111 ?_
    refine xo_icmp_ne (tgt := 128) dX12_compared_113 rfl (fun _ => ?_) (fun _ => ?_)
    · refine xo_iload_n rfl rfl dX12_compared_116 ?_
      refine xo_if_eq (tgt := 124) dX12_compared_117 rfl (fun _ => ?_) (fun _ => ?_)
      · refine xo_iconst kc_4 dX12_compared_124 ?_
        refine xo_goto (tgt := 139) dX12_compared_125 rfl ?_
        exact mk_O.wk (o_X12_compared_139 x0 (4 : Int32) z2.2) trivial
      · refine xo_iconst kc_5 dX12_compared_120 ?_
        refine xo_goto (tgt := 139) dX12_compared_121 rfl ?_
        exact mk_O.wk (o_X12_compared_139 x0 (5 : Int32) z2.2) trivial
    · refine xo_iload_n rfl rfl dX12_compared_128 ?_
      refine xo_if_eq (tgt := 137) dX12_compared_129 rfl (fun _ => ?_) (fun _ => ?_)
      · refine xo_bipush kb_8 dX12_compared_137 ?_
        exact mk_O.wk (o_X12_compared_139 x0 (8 : Int32) z2.2) trivial
      · refine xo_bipush kb_7 dX12_compared_132 ?_
        refine xo_goto (tgt := 139) dX12_compared_134 rfl ?_
        exact mk_O.wk (o_X12_compared_139 x0 (7 : Int32) z2.2) trivial
theorem o_X12_compared_75 (x0 : Nat) (x1 : Int32) (s0 : Int32) (t : mk_S) : mk_O mk_wu M_X12_compared 75 [some (.ref x0), some (.int x1), none] [.int s0] t (B_X12_compared_75 x0 x1 s0 t) := by
  unfold B_X12_compared_75
  refine xo_istore_n rfl (by decide) (mk_p1_v rfl rfl) dX12_compared_75 ?_
  refine xo_aload_n rfl rfl dX12_compared_76 ?_
  refine xo_dup rfl dX12_compared_77 ?_
  refine xo_geti dX12_compared_78 cl_11 fl_RX12_192 rfl (fun v1 => ?_)
  refine xo_iload_n rfl rfl dX12_compared_81 ?_
  refine xo_if_eq (tgt := 89) dX12_compared_82 rfl (fun _ => ?_) (fun _ => ?_)
  · refine xo_iconst kc_0 dX12_compared_89 ?_
    exact mk_O.wk (o_X12_compared_90 x0 x1 s0 x0 v1 (0 : Int32) t) ⟨rfl, ⟨rfl, ⟨rfl, trivial⟩⟩⟩
  · refine xo_iconst kc_1 dX12_compared_85 ?_
    refine xo_goto (tgt := 90) dX12_compared_86 rfl ?_
    exact mk_O.wk (o_X12_compared_90 x0 x1 s0 x0 v1 (1 : Int32) t) ⟨rfl, ⟨rfl, ⟨rfl, trivial⟩⟩⟩
theorem o_X12_compared_74 (x0 : Nat) (x1 : Int32) (t : mk_S) : mk_O mk_wu M_X12_compared 74 [some (.ref x0), some (.int x1), none] [] t (B_X12_compared_74 x0 x1 t) := by
  unfold B_X12_compared_74
  refine xo_iconst kc_0 dX12_compared_74 ?_
  exact mk_O.wk (o_X12_compared_75 x0 x1 (0 : Int32) t) ⟨rfl, ⟨rfl, trivial⟩⟩
theorem o_X12_compared_37 (x0 : Nat) (x1 : Int32) (t : mk_S) : mk_O mk_wu M_X12_compared 37 [some (.ref x0), some (.int x1), none] [] t (B_X12_compared_37 x0 x1 t) := by
  unfold B_X12_compared_37
  refine xo_aload_n rfl rfl dX12_compared_37 ?_
  refine xo_aload_n rfl rfl dX12_compared_38 ?_
  refine xo_geti dX12_compared_39 cl_11 fl_RX12_192 rfl (fun v1 => ?_)
  refine mk_O.callV (N := M_X12_isCounted) (ci := 11) (q := (RX12, TX12, 64)) (b := x0) (As1 := [.int v1]) (S := []) md_X12_isCounted mv_X12_isCounted lk_RX12_240 rfl (Nat.le_of_ble_eq_true rfl) (by decide) dX12_compared_42 rfl rfl rfl (fun z hz => (c_X12_isCounted x0 v1 t z hz).1) (fun z hz => (c_X12_isCounted x0 v1 t z hz).2) (fun z2 _ => ?_)
  show mk_O _ _ _ _ [] _ _
  refine xo_aload_n rfl rfl dX12_compared_45 ?_
  refine xo_dup rfl dX12_compared_46 ?_
  refine xo_geti dX12_compared_47 cl_11 fl_RX12_192 rfl (fun v3 => ?_)
  refine xo_iconst kc_1 dX12_compared_50 ?_
  refine xo_iadd dX12_compared_51 ?_
  refine xo_puti dX12_compared_52 cl_11 fl_RX12_192 rfl ft_11_28 (fun t4 => ?_)
  refine xo_iload_n rfl rfl dX12_compared_55 ?_
  refine xo_bipush kb_61 dX12_compared_56 ?_
  refine xo_icmp_eq (tgt := 74) dX12_compared_58 rfl (fun _ => ?_) (fun _ => ?_)
  · exact mk_O.wk (o_X12_compared_74 x0 x1 t4) ⟨rfl, ⟨rfl, trivial⟩⟩
  · refine xo_aload_n rfl rfl dX12_compared_61 ?_
    refine mk_O.callV (N := M_X12_sign) (ci := 11) (q := (RX12, TX12, 64)) (b := x0) (As1 := []) (S := []) md_X12_sign mv_X12_sign lk_RX12_195 rfl (Nat.le_of_ble_eq_true rfl) (by decide) dX12_compared_62 rfl rfl rfl (fun z hz => (c_X12_sign x0 t4 z hz).1) (fun z hz => (c_X12_sign x0 t4 z hz).2) (fun z5 _ => ?_)
    show mk_O _ _ _ _ (.int z5.1 :: []) _ _
    refine xo_bipush kb_61 dX12_compared_65 ?_
    refine xo_icmp_ne (tgt := 74) dX12_compared_67 rfl (fun _ => ?_) (fun _ => ?_)
    · refine xo_iconst kc_1 dX12_compared_70 ?_
      refine xo_goto (tgt := 75) dX12_compared_71 rfl ?_
      exact mk_O.wk (o_X12_compared_75 x0 x1 (1 : Int32) z5.2) ⟨rfl, ⟨rfl, trivial⟩⟩
    · exact mk_O.wk (o_X12_compared_74 x0 x1 z5.2) ⟨rfl, ⟨rfl, trivial⟩⟩
theorem p_X12_compared (x0 : Nat) (t : mk_S) : mk_O mk_wu M_X12_compared 0 [some (.ref x0), none, none] [] t ((F_X12_sum x0 t).bind fun z1 => (F_X12_sign x0 z1.2).bind fun z2 => if z2.1 = (60 : Int32) then (B_X12_compared_37 x0 z2.1 z2.2) else (if z2.1 = (61 : Int32) then (B_X12_compared_37 x0 z2.1 z2.2) else (if z2.1 = (62 : Int32) then (B_X12_compared_37 x0 z2.1 z2.2) else ((mk_gi z2.2 x0 11 28).bind fun v3 => (F_X12_fails x0 (0 : Int32) v3 z2.2).bind fun z4 => some ((), z4.2))))) := by
  refine xo_aload_n rfl rfl dX12_compared_0 ?_
  refine mk_O.callV (N := M_X12_sum) (ci := 11) (q := (RX12, TX12, 64)) (b := x0) (As1 := []) (S := []) md_X12_sum mv_X12_sum lk_RX12_256 rfl (Nat.le_of_ble_eq_true rfl) (by decide) dX12_compared_1 rfl rfl rfl (fun z hz => (c_X12_sum x0 t z hz).1) (fun z hz => (c_X12_sum x0 t z hz).2) (fun z1 _ => ?_)
  show mk_O _ _ _ _ [] _ _
  refine xo_aload_n rfl rfl dX12_compared_4 ?_
  refine mk_O.callV (N := M_X12_sign) (ci := 11) (q := (RX12, TX12, 64)) (b := x0) (As1 := []) (S := []) md_X12_sign mv_X12_sign lk_RX12_195 rfl (Nat.le_of_ble_eq_true rfl) (by decide) dX12_compared_5 rfl rfl rfl (fun z hz => (c_X12_sign x0 z1.2 z hz).1) (fun z hz => (c_X12_sign x0 z1.2 z hz).2) (fun z2 _ => ?_)
  show mk_O _ _ _ _ (.int z2.1 :: []) _ _
  refine xo_istore_n rfl (by decide) (mk_p1_v rfl rfl) dX12_compared_8 ?_
  refine xo_iload_n rfl rfl dX12_compared_9 ?_
  refine xo_bipush kb_60 dX12_compared_10 ?_
  refine xo_icmp_eq (tgt := 37) dX12_compared_12 rfl (fun _ => ?_) (fun _ => ?_)
  · exact mk_O.wk (o_X12_compared_37 x0 z2.1 z2.2) ⟨rfl, ⟨rfl, trivial⟩⟩
  · refine xo_iload_n rfl rfl dX12_compared_15 ?_
    refine xo_bipush kb_61 dX12_compared_16 ?_
    refine xo_icmp_eq (tgt := 37) dX12_compared_18 rfl (fun _ => ?_) (fun _ => ?_)
    · exact mk_O.wk (o_X12_compared_37 x0 z2.1 z2.2) ⟨rfl, ⟨rfl, trivial⟩⟩
    · refine xo_iload_n rfl rfl dX12_compared_21 ?_
      refine xo_bipush kb_62 dX12_compared_22 ?_
      refine xo_icmp_eq (tgt := 37) dX12_compared_24 rfl (fun _ => ?_) (fun _ => ?_)
      · exact mk_O.wk (o_X12_compared_37 x0 z2.1 z2.2) ⟨rfl, ⟨rfl, trivial⟩⟩
      · refine xo_aload_n rfl rfl dX12_compared_27 ?_
        refine xo_iconst kc_0 dX12_compared_28 ?_
        refine xo_aload_n rfl rfl dX12_compared_29 ?_
        refine xo_geti dX12_compared_30 cl_11 fl_RX12_192 rfl (fun v3 => ?_)
        refine mk_O.callV (N := M_X12_fails) (ci := 11) (q := (RX12, TX12, 64)) (b := x0) (As1 := [.int (0 : Int32), .int v3]) (S := []) md_X12_fails mv_X12_fails lk_RX12_227 rfl (Nat.le_of_ble_eq_true rfl) (by decide) dX12_compared_33 rfl rfl rfl (fun z hz => (c_X12_fails x0 (0 : Int32) v3 z2.2 z hz).1) (fun z hz => (c_X12_fails x0 (0 : Int32) v3 z2.2 z hz).2) (fun z4 _ => ?_)
        show mk_O _ _ _ _ [] _ _
        exact xo_vret dX12_compared_36 rfl
theorem c_X12_compared (x0 : Nat) (t : mk_S) (z : Unit × mk_S) (h : F_X12_compared x0 t = some z) : mk_is t x0 11 ∧ mk_Ct M_X12_compared [.ref x0] t (mk_wu z.1, z.2) :=
  ⟨(mk_gd_spec h).1, mk_ct (w := mk_wu) (by decide +kernel) (Nat.le_of_ble_eq_true rfl) (p_X12_compared x0 t) z (mk_gd_spec h).2⟩
def F_X12_top (x0 : Nat) (t : mk_S) : Option (Int32 × mk_S) := mk_gd t x0 11 ((mk_gi t x0 11 35).bind fun v1 => if v1 = 0 then (some ((-1 : Int32), t)) else ((mk_ga t x0 11 44).bind fun v2 => (mk_gi t x0 11 35).bind fun v3 => (mk_ld 100 t v2 (v3 - (1 : Int32))).bind fun v4 => some (v4, t)))
theorem p_X12_top (x0 : Nat) (t : mk_S) : mk_O mk_wi M_X12_top 0 [some (.ref x0)] [] t ((mk_gi t x0 11 35).bind fun v1 => if v1 = 0 then (some ((-1 : Int32), t)) else ((mk_ga t x0 11 44).bind fun v2 => (mk_gi t x0 11 35).bind fun v3 => (mk_ld 100 t v2 (v3 - (1 : Int32))).bind fun v4 => some (v4, t))) := by
  refine xo_aload_n rfl rfl dX12_top_0 ?_
  refine xo_geti dX12_top_1 cl_11 fl_RX12_259 rfl (fun v1 => ?_)
  refine xo_if_ne (tgt := 11) dX12_top_4 rfl (fun _ => ?_) (fun _ => ?_)
  · refine xo_iconst kc_m1 dX12_top_7 ?_
    refine xo_goto (tgt := 22) dX12_top_8 rfl ?_
    exact xo_iret dX12_top_22 rfl
  · refine xo_aload_n rfl rfl dX12_top_11 ?_
    refine xo_geta dX12_top_12 cl_11 fl_RX12_114 rfl (fun v2 => ?_)
    refine xo_aload_n rfl rfl dX12_top_15 ?_
    refine xo_geti dX12_top_16 cl_11 fl_RX12_259 rfl (fun v3 => ?_)
    refine xo_iconst kc_1 dX12_top_19 ?_
    refine xo_isub dX12_top_20 ?_
    refine xo_iald dX12_top_21 (fun v4 => ?_)
    exact xo_iret dX12_top_22 rfl
theorem c_X12_top (x0 : Nat) (t : mk_S) (z : Int32 × mk_S) (h : F_X12_top x0 t = some z) : mk_is t x0 11 ∧ mk_Ct M_X12_top [.ref x0] t (mk_wi z.1, z.2) :=
  ⟨(mk_gd_spec h).1, mk_ct (w := mk_wi) (by decide +kernel) (Nat.le_of_ble_eq_true rfl) (p_X12_top x0 t) z (mk_gd_spec h).2⟩
def B_X12_opens_40 (x0 : Nat) (x1 : Int32) (t : mk_S) : Option (Unit × mk_S) := (mk_ga t x0 11 44).bind fun v1 => (mk_gi t x0 11 35).bind fun v2 => (mk_st 100 t v1 v2 x1).bind fun t3 => (mk_gi t3 x0 11 35).bind fun v4 => (mk_pi t3 x0 11 35 (v4 + (1 : Int32))).bind fun t5 => some ((), t5)
def B_X12_opens_30 (x0 : Nat) (x1 : Int32) (t : mk_S) : Option (Unit × mk_S) := (mk_gi t x0 11 33).bind fun v1 => (mk_pi t x0 11 33 (v1 + (1 : Int32))).bind fun t2 => B_X12_opens_40 x0 x1 t2
def B_X12_opens_12 (x0 : Nat) (x1 : Int32) (t : mk_S) : Option (Unit × mk_S) := (mk_gi t x0 11 33).bind fun v1 => if v1 = (10 : Int32) then ((mk_gi t x0 11 28).bind fun v2 => (F_X12_fails x0 (2 : Int32) v2 t).bind fun z3 => B_X12_opens_30 x0 x1 z3.2) else (B_X12_opens_30 x0 x1 t)
def F_X12_opens (x0 : Nat) (x1 : Int32) (t : mk_S) : Option (Unit × mk_S) := mk_gd t x0 11 (if x1 = (9 : Int32) then (B_X12_opens_12 x0 x1 t) else (if x1 = (12 : Int32) then (B_X12_opens_12 x0 x1 t) else (B_X12_opens_40 x0 x1 t)))
theorem o_X12_opens_40 (x0 : Nat) (x1 : Int32) (t : mk_S) : mk_O mk_wu M_X12_opens 40 [some (.ref x0), some (.int x1)] [] t (B_X12_opens_40 x0 x1 t) := by
  unfold B_X12_opens_40
  refine xo_aload_n rfl rfl dX12_opens_40 ?_
  refine xo_geta dX12_opens_41 cl_11 fl_RX12_114 rfl (fun v1 => ?_)
  refine xo_aload_n rfl rfl dX12_opens_44 ?_
  refine xo_geti dX12_opens_45 cl_11 fl_RX12_259 rfl (fun v2 => ?_)
  refine xo_iload_n rfl rfl dX12_opens_48 ?_
  refine xo_iast dX12_opens_49 (fun t3 => ?_)
  refine xo_aload_n rfl rfl dX12_opens_50 ?_
  refine xo_dup rfl dX12_opens_51 ?_
  refine xo_geti dX12_opens_52 cl_11 fl_RX12_259 rfl (fun v4 => ?_)
  refine xo_iconst kc_1 dX12_opens_55 ?_
  refine xo_iadd dX12_opens_56 ?_
  refine xo_puti dX12_opens_57 cl_11 fl_RX12_259 rfl ft_11_35 (fun t5 => ?_)
  exact xo_vret dX12_opens_60 rfl
theorem o_X12_opens_30 (x0 : Nat) (x1 : Int32) (t : mk_S) : mk_O mk_wu M_X12_opens 30 [some (.ref x0), some (.int x1)] [] t (B_X12_opens_30 x0 x1 t) := by
  unfold B_X12_opens_30
  refine xo_aload_n rfl rfl dX12_opens_30 ?_
  refine xo_dup rfl dX12_opens_31 ?_
  refine xo_geti dX12_opens_32 cl_11 fl_RX12_262 rfl (fun v1 => ?_)
  refine xo_iconst kc_1 dX12_opens_35 ?_
  refine xo_iadd dX12_opens_36 ?_
  refine xo_puti dX12_opens_37 cl_11 fl_RX12_262 rfl ft_11_33 (fun t2 => ?_)
  exact mk_O.wk (o_X12_opens_40 x0 x1 t2) ⟨rfl, ⟨rfl, trivial⟩⟩
theorem o_X12_opens_12 (x0 : Nat) (x1 : Int32) (t : mk_S) : mk_O mk_wu M_X12_opens 12 [some (.ref x0), some (.int x1)] [] t (B_X12_opens_12 x0 x1 t) := by
  unfold B_X12_opens_12
  refine xo_aload_n rfl rfl dX12_opens_12 ?_
  refine xo_geti dX12_opens_13 cl_11 fl_RX12_262 rfl (fun v1 => ?_)
  refine xo_bipush kb_10 dX12_opens_16 ?_
  refine xo_icmp_ne (tgt := 30) dX12_opens_18 rfl (fun _ => ?_) (fun _ => ?_)
  · refine xo_aload_n rfl rfl dX12_opens_21 ?_
    refine xo_iconst kc_2 dX12_opens_22 ?_
    refine xo_aload_n rfl rfl dX12_opens_23 ?_
    refine xo_geti dX12_opens_24 cl_11 fl_RX12_192 rfl (fun v2 => ?_)
    refine mk_O.callV (N := M_X12_fails) (ci := 11) (q := (RX12, TX12, 64)) (b := x0) (As1 := [.int (2 : Int32), .int v2]) (S := []) md_X12_fails mv_X12_fails lk_RX12_227 rfl (Nat.le_of_ble_eq_true rfl) (by decide) dX12_opens_27 rfl rfl rfl (fun z hz => (c_X12_fails x0 (2 : Int32) v2 t z hz).1) (fun z hz => (c_X12_fails x0 (2 : Int32) v2 t z hz).2) (fun z3 _ => ?_)
    show mk_O _ _ _ _ [] _ _
    exact mk_O.wk (o_X12_opens_30 x0 x1 z3.2) ⟨rfl, ⟨rfl, trivial⟩⟩
  · exact mk_O.wk (o_X12_opens_30 x0 x1 t) ⟨rfl, ⟨rfl, trivial⟩⟩
theorem p_X12_opens (x0 : Nat) (x1 : Int32) (t : mk_S) : mk_O mk_wu M_X12_opens 0 [some (.ref x0), some (.int x1)] [] t (if x1 = (9 : Int32) then (B_X12_opens_12 x0 x1 t) else (if x1 = (12 : Int32) then (B_X12_opens_12 x0 x1 t) else (B_X12_opens_40 x0 x1 t))) := by
  refine xo_iload_n rfl rfl dX12_opens_0 ?_
  refine xo_bipush kb_9 dX12_opens_1 ?_
  refine xo_icmp_eq (tgt := 12) dX12_opens_3 rfl (fun _ => ?_) (fun _ => ?_)
  · exact mk_O.wk (o_X12_opens_12 x0 x1 t) ⟨rfl, ⟨rfl, trivial⟩⟩
  · refine xo_iload_n rfl rfl dX12_opens_6 ?_
    refine xo_bipush kb_12 dX12_opens_7 ?_
    refine xo_icmp_ne (tgt := 40) dX12_opens_9 rfl (fun _ => ?_) (fun _ => ?_)
    · exact mk_O.wk (o_X12_opens_12 x0 x1 t) ⟨rfl, ⟨rfl, trivial⟩⟩
    · exact mk_O.wk (o_X12_opens_40 x0 x1 t) ⟨rfl, ⟨rfl, trivial⟩⟩
theorem c_X12_opens (x0 : Nat) (x1 : Int32) (t : mk_S) (z : Unit × mk_S) (h : F_X12_opens x0 x1 t = some z) : mk_is t x0 11 ∧ mk_Ct M_X12_opens [.ref x0, .int x1] t (mk_wu z.1, z.2) :=
  ⟨(mk_gd_spec h).1, mk_ct (w := mk_wu) (by decide +kernel) (Nat.le_of_ble_eq_true rfl) (p_X12_opens x0 x1 t) z (mk_gd_spec h).2⟩
def B_X12_answers_47 (k0 : Nat → Int32 → mk_S → Option (Unit × mk_S)) (x0 : Nat) (x1 : Int32) (s0 : Nat) (s1 : Int32) (s2 : Int32) (t : mk_S) : Option (Unit × mk_S) := (mk_pi t s0 11 33 (s1 - s2)).bind fun t1 => k0 x0 x1 t1
def B_X12_answers_0 : Nat → Nat → Int32 → mk_S → Option (Unit × mk_S)
  | 0, _, _, _ => none
  | n + 1, x0, x1, t => (F_X12_top x0 t).bind fun z1 => if z1.1 = x1 then ((mk_gi z1.2 x0 11 29).bind fun v2 => if v2 = 0 then ((F_X12_entry x0 x1 (0 : Int32) z1.2).bind fun z3 => (mk_gi z3.2 x0 11 35).bind fun v4 => (mk_pi z3.2 x0 11 35 (v4 - (1 : Int32))).bind fun t5 => (mk_gi t5 x0 11 33).bind fun v6 => if x1 = (9 : Int32) then (B_X12_answers_47 (B_X12_answers_0 n) x0 x1 x0 v6 (1 : Int32) t5) else (B_X12_answers_47 (B_X12_answers_0 n) x0 x1 x0 v6 (0 : Int32) t5)) else (some ((), z1.2))) else (some ((), z1.2))
def F_X12_answers (x0 : Nat) (x1 : Int32) (t : mk_S) : Option (Unit × mk_S) := mk_gd t x0 11 (B_X12_answers_0 mk_fu x0 x1 t)
theorem o_X12_answers_47 (k0 : Nat → Int32 → mk_S → Option (Unit × mk_S)) (h0 : ∀ (x0 : Nat) (x1 : Int32) (t : mk_S), mk_O mk_wu M_X12_answers 0 [some (.ref x0), some (.int x1)] [] t (k0 x0 x1 t)) (x0 : Nat) (x1 : Int32) (s0 : Nat) (s1 : Int32) (s2 : Int32) (t : mk_S) : mk_O mk_wu M_X12_answers 47 [some (.ref x0), some (.int x1)] [.int s2, .int s1, .ref s0] t (B_X12_answers_47 k0 x0 x1 s0 s1 s2 t) := by
  unfold B_X12_answers_47
  refine xo_isub dX12_answers_47 ?_
  refine xo_puti dX12_answers_48 cl_11 fl_RX12_262 rfl ft_11_33 (fun t1 => ?_)
  refine xo_goto (tgt := 0) dX12_answers_51 rfl ?_
  exact mk_O.wk (h0 x0 x1 t1) ⟨rfl, ⟨rfl, trivial⟩⟩
theorem o_X12_answers_0 : ∀ (n : Nat) (x0 : Nat) (x1 : Int32) (t : mk_S), mk_O mk_wu M_X12_answers 0 [some (.ref x0), some (.int x1)] [] t (B_X12_answers_0 n x0 x1 t) := by
  intro n
  induction n with
  | zero =>
    intro x0 x1 t
    exact mk_O.none
  | succ n ih =>
    intro x0 x1 t
    rw [B_X12_answers_0]
    refine xo_aload_n rfl rfl dX12_answers_0 ?_
    refine mk_O.callV (N := M_X12_top) (ci := 11) (q := (RX12, TX12, 64)) (b := x0) (As1 := []) (S := []) md_X12_top mv_X12_top lk_RX12_265 rfl (Nat.le_of_ble_eq_true rfl) (by decide) dX12_answers_1 rfl rfl rfl (fun z hz => (c_X12_top x0 t z hz).1) (fun z hz => (c_X12_top x0 t z hz).2) (fun z1 _ => ?_)
    show mk_O _ _ _ _ (.int z1.1 :: []) _ _
    refine xo_iload_n rfl rfl dX12_answers_4 ?_
    refine xo_icmp_ne (tgt := 54) dX12_answers_5 rfl (fun _ => ?_) (fun _ => ?_)
    · refine xo_aload_n rfl rfl dX12_answers_8 ?_
      refine xo_geti dX12_answers_9 cl_11 fl_RX12_189 rfl (fun v2 => ?_)
      refine xo_if_ne (tgt := 54) dX12_answers_12 rfl (fun _ => ?_) (fun _ => ?_)
      · refine xo_aload_n rfl rfl dX12_answers_15 ?_
        refine xo_iload_n rfl rfl dX12_answers_16 ?_
        refine xo_iconst kc_0 dX12_answers_17 ?_
        refine mk_O.callV (N := M_X12_entry) (ci := 11) (q := (RX12, TX12, 64)) (b := x0) (As1 := [.int x1, .int (0 : Int32)]) (S := []) md_X12_entry mv_X12_entry lk_RX12_243 rfl (Nat.le_of_ble_eq_true rfl) (by decide) dX12_answers_18 rfl rfl rfl (fun z hz => (c_X12_entry x0 x1 (0 : Int32) z1.2 z hz).1) (fun z hz => (c_X12_entry x0 x1 (0 : Int32) z1.2 z hz).2) (fun z3 _ => ?_)
        show mk_O _ _ _ _ [] _ _
        refine xo_aload_n rfl rfl dX12_answers_21 ?_
        refine xo_dup rfl dX12_answers_22 ?_
        refine xo_geti dX12_answers_23 cl_11 fl_RX12_259 rfl (fun v4 => ?_)
        refine xo_iconst kc_1 dX12_answers_26 ?_
        refine xo_isub dX12_answers_27 ?_
        refine xo_puti dX12_answers_28 cl_11 fl_RX12_259 rfl ft_11_35 (fun t5 => ?_)
        refine xo_aload_n rfl rfl dX12_answers_31 ?_
        refine xo_dup rfl dX12_answers_32 ?_
        refine xo_geti dX12_answers_33 cl_11 fl_RX12_262 rfl (fun v6 => ?_)
        refine xo_iload_n rfl rfl dX12_answers_36 ?_
        refine xo_bipush kb_9 dX12_answers_37 ?_
        refine xo_icmp_ne (tgt := 46) dX12_answers_39 rfl (fun _ => ?_) (fun _ => ?_)
        · refine xo_iconst kc_1 dX12_answers_42 ?_
          refine xo_goto (tgt := 47) dX12_answers_43 rfl ?_
          exact mk_O.wk (o_X12_answers_47 _ ih x0 x1 x0 v6 (1 : Int32) t5) ⟨rfl, ⟨rfl, trivial⟩⟩
        · refine xo_iconst kc_0 dX12_answers_46 ?_
          exact mk_O.wk (o_X12_answers_47 _ ih x0 x1 x0 v6 (0 : Int32) t5) ⟨rfl, ⟨rfl, trivial⟩⟩
      · exact xo_vret dX12_answers_54 rfl
    · exact xo_vret dX12_answers_54 rfl
theorem p_X12_answers (x0 : Nat) (x1 : Int32) (t : mk_S) : mk_O mk_wu M_X12_answers 0 [some (.ref x0), some (.int x1)] [] t (B_X12_answers_0 mk_fu x0 x1 t) := by
  exact mk_O.wk (o_X12_answers_0 mk_fu x0 x1 t) ⟨rfl, ⟨rfl, trivial⟩⟩
theorem c_X12_answers (x0 : Nat) (x1 : Int32) (t : mk_S) (z : Unit × mk_S) (h : F_X12_answers x0 x1 t = some z) : mk_is t x0 11 ∧ mk_Ct M_X12_answers [.ref x0, .int x1] t (mk_wu z.1, z.2) :=
  ⟨(mk_gd_spec h).1, mk_ct (w := mk_wu) (by decide +kernel) (Nat.le_of_ble_eq_true rfl) (p_X12_answers x0 x1 t) z (mk_gd_spec h).2⟩
def F_X12_fact (x0 : Nat) (t : mk_S) : Option (Int32 × mk_S) := mk_gd t x0 11 ((F_X12_blanks x0 t).bind fun z1 => (F_X12_stood x0 1000033 z1.2).bind fun z2 => if z2.1 = 0 then ((F_X12_sign x0 z2.2).bind fun z3 => if z3.1 = (91 : Int32) then ((F_X12_opens x0 (12 : Int32) z3.2).bind fun z4 => (mk_gi z4.2 x0 11 28).bind fun v5 => (mk_pi z4.2 x0 11 28 (v5 + (1 : Int32))).bind fun t6 => mk_rz (0 : Int32) t6) else ((F_X12_compared x0 z3.2).bind fun z7 => mk_rz (1 : Int32) z7.2)) else ((F_X12_opens x0 (9 : Int32) z2.2).bind fun z8 => (mk_gi z8.2 x0 11 28).bind fun v9 => (mk_pi z8.2 x0 11 28 (v9 + (3 : Int32))).bind fun t10 => mk_rz (0 : Int32) t10))
theorem p_X12_fact (x0 : Nat) (t : mk_S) : mk_O mk_wi M_X12_fact 0 [some (.ref x0)] [] t ((F_X12_blanks x0 t).bind fun z1 => (F_X12_stood x0 1000033 z1.2).bind fun z2 => if z2.1 = 0 then ((F_X12_sign x0 z2.2).bind fun z3 => if z3.1 = (91 : Int32) then ((F_X12_opens x0 (12 : Int32) z3.2).bind fun z4 => (mk_gi z4.2 x0 11 28).bind fun v5 => (mk_pi z4.2 x0 11 28 (v5 + (1 : Int32))).bind fun t6 => mk_rz (0 : Int32) t6) else ((F_X12_compared x0 z3.2).bind fun z7 => mk_rz (1 : Int32) z7.2)) else ((F_X12_opens x0 (9 : Int32) z2.2).bind fun z8 => (mk_gi z8.2 x0 11 28).bind fun v9 => (mk_pi z8.2 x0 11 28 (v9 + (3 : Int32))).bind fun t10 => mk_rz (0 : Int32) t10)) := by
  refine xo_aload_n rfl rfl dX12_fact_0 ?_
  refine mk_O.callV (N := M_X12_blanks) (ci := 11) (q := (RX12, TX12, 64)) (b := x0) (As1 := []) (S := []) md_X12_blanks mv_X12_blanks lk_RX12_211 rfl (Nat.le_of_ble_eq_true rfl) (by decide) dX12_fact_1 rfl rfl rfl (fun z hz => (c_X12_blanks x0 t z hz).1) (fun z hz => (c_X12_blanks x0 t z hz).2) (fun z1 _ => ?_)
  show mk_O _ _ _ _ [] _ _
  refine xo_aload_n rfl rfl dX12_fact_4 ?_
  refine xo_strw (i := 33) (by decide) rfl rfl dX12_fact_5 ?_
  refine mk_O.callV (N := M_X12_stood) (ci := 11) (q := (RX12, TX12, 64)) (b := x0) (As1 := [.ref 1000033]) (S := []) md_X12_stood mv_X12_stood lk_RX12_214 rfl (Nat.le_of_ble_eq_true rfl) (by decide) dX12_fact_8 rfl rfl rfl (fun z hz => (c_X12_stood x0 1000033 z1.2 z hz).1) (fun z hz => (c_X12_stood x0 1000033 z1.2 z hz).2) (fun z2 _ => ?_)
  show mk_O _ _ _ _ (.int z2.1 :: []) _ _
  refine xo_if_eq (tgt := 32) dX12_fact_11 rfl (fun _ => ?_) (fun _ => ?_)
  · refine xo_aload_n rfl rfl dX12_fact_32 ?_
    refine mk_O.callV (N := M_X12_sign) (ci := 11) (q := (RX12, TX12, 64)) (b := x0) (As1 := []) (S := []) md_X12_sign mv_X12_sign lk_RX12_195 rfl (Nat.le_of_ble_eq_true rfl) (by decide) dX12_fact_33 rfl rfl rfl (fun z hz => (c_X12_sign x0 z2.2 z hz).1) (fun z hz => (c_X12_sign x0 z2.2 z hz).2) (fun z3 _ => ?_)
    show mk_O _ _ _ _ (.int z3.1 :: []) _ _
    refine xo_bipush kb_91 dX12_fact_36 ?_
    refine xo_icmp_ne (tgt := 59) dX12_fact_38 rfl (fun _ => ?_) (fun _ => ?_)
    · refine xo_aload_n rfl rfl dX12_fact_41 ?_
      refine xo_bipush kb_12 dX12_fact_42 ?_
      refine mk_O.callV (N := M_X12_opens) (ci := 11) (q := (RX12, TX12, 64)) (b := x0) (As1 := [.int (12 : Int32)]) (S := []) md_X12_opens mv_X12_opens lk_RX12_270 rfl (Nat.le_of_ble_eq_true rfl) (by decide) dX12_fact_44 rfl rfl rfl (fun z hz => (c_X12_opens x0 (12 : Int32) z3.2 z hz).1) (fun z hz => (c_X12_opens x0 (12 : Int32) z3.2 z hz).2) (fun z4 _ => ?_)
      show mk_O _ _ _ _ [] _ _
      refine xo_aload_n rfl rfl dX12_fact_47 ?_
      refine xo_dup rfl dX12_fact_48 ?_
      refine xo_geti dX12_fact_49 cl_11 fl_RX12_192 rfl (fun v5 => ?_)
      refine xo_iconst kc_1 dX12_fact_52 ?_
      refine xo_iadd dX12_fact_53 ?_
      refine xo_puti dX12_fact_54 cl_11 fl_RX12_192 rfl ft_11_28 (fun t6 => ?_)
      refine xo_iconst kc_0 dX12_fact_57 ?_
      exact xo_zret dX12_fact_58 rfl
    · refine xo_aload_n rfl rfl dX12_fact_59 ?_
      refine mk_O.callV (N := M_X12_compared) (ci := 11) (q := (RX12, TX12, 64)) (b := x0) (As1 := []) (S := []) md_X12_compared mv_X12_compared lk_RX12_273 rfl (Nat.le_of_ble_eq_true rfl) (by decide) dX12_fact_60 rfl rfl rfl (fun z hz => (c_X12_compared x0 z3.2 z hz).1) (fun z hz => (c_X12_compared x0 z3.2 z hz).2) (fun z7 _ => ?_)
      show mk_O _ _ _ _ [] _ _
      refine xo_iconst kc_1 dX12_fact_63 ?_
      exact xo_zret dX12_fact_64 rfl
  · refine xo_aload_n rfl rfl dX12_fact_14 ?_
    refine xo_bipush kb_9 dX12_fact_15 ?_
    refine mk_O.callV (N := M_X12_opens) (ci := 11) (q := (RX12, TX12, 64)) (b := x0) (As1 := [.int (9 : Int32)]) (S := []) md_X12_opens mv_X12_opens lk_RX12_270 rfl (Nat.le_of_ble_eq_true rfl) (by decide) dX12_fact_17 rfl rfl rfl (fun z hz => (c_X12_opens x0 (9 : Int32) z2.2 z hz).1) (fun z hz => (c_X12_opens x0 (9 : Int32) z2.2 z hz).2) (fun z8 _ => ?_)
    show mk_O _ _ _ _ [] _ _
    refine xo_aload_n rfl rfl dX12_fact_20 ?_
    refine xo_dup rfl dX12_fact_21 ?_
    refine xo_geti dX12_fact_22 cl_11 fl_RX12_192 rfl (fun v9 => ?_)
    refine xo_iconst kc_3 dX12_fact_25 ?_
    refine xo_iadd dX12_fact_26 ?_
    refine xo_puti dX12_fact_27 cl_11 fl_RX12_192 rfl ft_11_28 (fun t10 => ?_)
    refine xo_iconst kc_0 dX12_fact_30 ?_
    exact xo_zret dX12_fact_31 rfl
theorem c_X12_fact (x0 : Nat) (t : mk_S) (z : Int32 × mk_S) (h : F_X12_fact x0 t = some z) : mk_is t x0 11 ∧ mk_Ct M_X12_fact [.ref x0] t (mk_wi z.1, z.2) :=
  ⟨(mk_gd_spec h).1, mk_ct (w := mk_wi) (by decide +kernel) (Nat.le_of_ble_eq_true rfl) (p_X12_fact x0 t) z (mk_gd_spec h).2⟩
def B_X12_test_36 (k9 : Nat → Int32 → Int32 → mk_S → Option (Unit × mk_S)) (x0 : Nat) (x2 : Int32) (s0 : Int32) (t : mk_S) : Option (Unit × mk_S) := k9 x0 s0 x2 t
def B_X12_test_199 (k9 : Nat → Int32 → Int32 → mk_S → Option (Unit × mk_S)) (x0 : Nat) (x1 : Int32) (x2 : Int32) (t : mk_S) : Option (Unit × mk_S) := k9 x0 x1 x2 t
def B_X12_test_122 (k9 : Nat → Int32 → Int32 → mk_S → Option (Unit × mk_S)) (x0 : Nat) (x2 : Int32) (s0 : Nat) (s1 : Int32) (s2 : Int32) (t : mk_S) : Option (Unit × mk_S) := (mk_pi t s0 11 28 (s1 + s2)).bind fun t1 => B_X12_test_199 k9 x0 (1 : Int32) x2 t1
def B_X12_test_105 (k9 : Nat → Int32 → Int32 → mk_S → Option (Unit × mk_S)) (x0 : Nat) (x2 : Int32) (x3 : Int32) (s0 : Nat) (s1 : Int32) (t : mk_S) : Option (Unit × mk_S) := (F_X12_opens s0 s1 t).bind fun z1 => (mk_gi z1.2 x0 11 28).bind fun v2 => if x3 = 0 then (B_X12_test_122 k9 x0 x2 x0 v2 (2 : Int32) z1.2) else (B_X12_test_122 k9 x0 x2 x0 v2 (3 : Int32) z1.2)
def B_X12_test_93 (k9 : Nat → Int32 → Int32 → mk_S → Option (Unit × mk_S)) (x0 : Nat) (x2 : Int32) (x3 : Int32) (t : mk_S) : Option (Unit × mk_S) := if x3 = 0 then (B_X12_test_105 k9 x0 x2 x3 x0 (11 : Int32) t) else (B_X12_test_105 k9 x0 x2 x3 x0 (10 : Int32) t)
def B_X12_test_82 (k9 : Nat → Int32 → Int32 → mk_S → Option (Unit × mk_S)) (x0 : Nat) (x2 : Int32) (x3 : Int32) (x4 : Int32) (t : mk_S) : Option (Unit × mk_S) := if x4 = 0 then (B_X12_test_93 k9 x0 x2 x3 t) else ((F_X12_answers x0 (11 : Int32) t).bind fun z1 => B_X12_test_93 k9 x0 x2 x3 z1.2)
def B_X12_test_164 (k9 : Nat → Int32 → Int32 → mk_S → Option (Unit × mk_S)) (x0 : Nat) (x1 : Int32) (x2 : Int32) (t : mk_S) : Option (Unit × mk_S) := (mk_gi t x0 11 28).bind fun v1 => (mk_pi t x0 11 28 (v1 + (1 : Int32))).bind fun t2 => (mk_gi t2 x0 11 35).bind fun v3 => (mk_pi t2 x0 11 35 (v3 - (1 : Int32))).bind fun t4 => (mk_gi t4 x0 11 33).bind fun v5 => (mk_pi t4 x0 11 33 (v5 - (1 : Int32))).bind fun t6 => B_X12_test_199 k9 x0 x1 x2 t6
def B_X12_test_9 : Nat → Nat → Int32 → Int32 → mk_S → Option (Unit × mk_S)
  | 0, _, _, _, _ => none
  | n + 1, x0, x1, x2, t => if x2 = 0 then (some ((), t)) else ((mk_gi t x0 11 29).bind fun v1 => if v1 = 0 then (if x1 = 0 then ((F_X12_answers x0 (9 : Int32) t).bind fun z2 => (F_X12_blanks x0 z2.2).bind fun z3 => (F_X12_stood x0 1000034 z3.2).bind fun z4 => (F_X12_stood x0 1000035 z4.2).bind fun z5 => (F_X12_answers x0 (10 : Int32) z5.2).bind fun z6 => if z4.1 = 0 then (if z5.1 = 0 then ((F_X12_answers x0 (11 : Int32) z6.2).bind fun z7 => (F_X12_top x0 z7.2).bind fun z8 => if z8.1 = (12 : Int32) then ((F_X12_sign x0 z8.2).bind fun z9 => if z9.1 = (93 : Int32) then (B_X12_test_164 (B_X12_test_9 n) x0 x1 x2 z9.2) else ((mk_gi z9.2 x0 11 28).bind fun v10 => (F_X12_fails x0 (0 : Int32) v10 z9.2).bind fun z11 => B_X12_test_164 (B_X12_test_9 n) x0 x1 x2 z11.2)) else (B_X12_test_199 (B_X12_test_9 n) x0 x1 (0 : Int32) z8.2)) else (B_X12_test_82 (B_X12_test_9 n) x0 x2 z4.1 z5.1 z6.2)) else (B_X12_test_82 (B_X12_test_9 n) x0 x2 z4.1 z5.1 z6.2)) else ((F_X12_fact x0 t).bind fun z12 => if z12.1 = 0 then (B_X12_test_36 (B_X12_test_9 n) x0 x2 (1 : Int32) z12.2) else (B_X12_test_36 (B_X12_test_9 n) x0 x2 (0 : Int32) z12.2))) else (some ((), t)))
def F_X12_test (x0 : Nat) (t : mk_S) : Option (Unit × mk_S) := mk_gd t x0 11 ((mk_pi t x0 11 35 (0 : Int32)).bind fun t1 => B_X12_test_9 mk_fu x0 (1 : Int32) (1 : Int32) t1)
theorem o_X12_test_36 (k9 : Nat → Int32 → Int32 → mk_S → Option (Unit × mk_S)) (h9 : ∀ (x0 : Nat) (x1 : Int32) (x2 : Int32) (t : mk_S), mk_O mk_wu M_X12_test 9 [some (.ref x0), some (.int x1), some (.int x2), none, none] [] t (k9 x0 x1 x2 t)) (x0 : Nat) (x2 : Int32) (s0 : Int32) (t : mk_S) : mk_O mk_wu M_X12_test 36 [some (.ref x0), none, some (.int x2), none, none] [.int s0] t (B_X12_test_36 k9 x0 x2 s0 t) := by
  unfold B_X12_test_36
  refine xo_istore_n rfl (by decide) (mk_p1_v rfl rfl) dX12_test_36 ?_
  refine xo_goto (tgt := 9) dX12_test_37 rfl ?_
  exact mk_O.wk (h9 x0 s0 x2 t) ⟨rfl, ⟨rfl, ⟨rfl, trivial⟩⟩⟩
theorem o_X12_test_199 (k9 : Nat → Int32 → Int32 → mk_S → Option (Unit × mk_S)) (h9 : ∀ (x0 : Nat) (x1 : Int32) (x2 : Int32) (t : mk_S), mk_O mk_wu M_X12_test 9 [some (.ref x0), some (.int x1), some (.int x2), none, none] [] t (k9 x0 x1 x2 t)) (x0 : Nat) (x1 : Int32) (x2 : Int32) (t : mk_S) : mk_O mk_wu M_X12_test 199 [some (.ref x0), some (.int x1), some (.int x2), none, none] [] t (B_X12_test_199 k9 x0 x1 x2 t) := by
  unfold B_X12_test_199
  refine xo_goto (tgt := 9) dX12_test_199 rfl ?_
  exact mk_O.wk (h9 x0 x1 x2 t) ⟨rfl, ⟨rfl, ⟨rfl, trivial⟩⟩⟩
theorem o_X12_test_122 (k9 : Nat → Int32 → Int32 → mk_S → Option (Unit × mk_S)) (h9 : ∀ (x0 : Nat) (x1 : Int32) (x2 : Int32) (t : mk_S), mk_O mk_wu M_X12_test 9 [some (.ref x0), some (.int x1), some (.int x2), none, none] [] t (k9 x0 x1 x2 t)) (x0 : Nat) (x2 : Int32) (s0 : Nat) (s1 : Int32) (s2 : Int32) (t : mk_S) : mk_O mk_wu M_X12_test 122 [some (.ref x0), none, some (.int x2), none, none] [.int s2, .int s1, .ref s0] t (B_X12_test_122 k9 x0 x2 s0 s1 s2 t) := by
  unfold B_X12_test_122
  refine xo_iadd dX12_test_122 ?_
  refine xo_puti dX12_test_123 cl_11 fl_RX12_192 rfl ft_11_28 (fun t1 => ?_)
  refine xo_iconst kc_1 dX12_test_126 ?_
  refine xo_istore_n rfl (by decide) (mk_p1_v rfl rfl) dX12_test_127 ?_
  refine xo_goto (tgt := 199) dX12_test_128 rfl ?_
  exact mk_O.wk (o_X12_test_199 _ h9 x0 (1 : Int32) x2 t1) ⟨rfl, ⟨rfl, ⟨rfl, trivial⟩⟩⟩
theorem o_X12_test_105 (k9 : Nat → Int32 → Int32 → mk_S → Option (Unit × mk_S)) (h9 : ∀ (x0 : Nat) (x1 : Int32) (x2 : Int32) (t : mk_S), mk_O mk_wu M_X12_test 9 [some (.ref x0), some (.int x1), some (.int x2), none, none] [] t (k9 x0 x1 x2 t)) (x0 : Nat) (x2 : Int32) (x3 : Int32) (s0 : Nat) (s1 : Int32) (t : mk_S) : mk_O mk_wu M_X12_test 105 [some (.ref x0), none, some (.int x2), some (.int x3), none] [.int s1, .ref s0] t (B_X12_test_105 k9 x0 x2 x3 s0 s1 t) := by
  unfold B_X12_test_105
  refine mk_O.callV (N := M_X12_opens) (ci := 11) (q := (RX12, TX12, 64)) (b := s0) (As1 := [.int s1]) (S := []) md_X12_opens mv_X12_opens lk_RX12_270 rfl (Nat.le_of_ble_eq_true rfl) (by decide) dX12_test_105 rfl rfl rfl (fun z hz => (c_X12_opens s0 s1 t z hz).1) (fun z hz => (c_X12_opens s0 s1 t z hz).2) (fun z1 _ => ?_)
  show mk_O _ _ _ _ [] _ _
  refine xo_aload_n rfl rfl dX12_test_108 ?_
  refine xo_dup rfl dX12_test_109 ?_
  refine xo_geti dX12_test_110 cl_11 fl_RX12_192 rfl (fun v2 => ?_)
  refine xo_iload_n rfl rfl dX12_test_113 ?_
  refine xo_if_eq (tgt := 121) dX12_test_114 rfl (fun _ => ?_) (fun _ => ?_)
  · refine xo_iconst kc_2 dX12_test_121 ?_
    exact mk_O.wk (o_X12_test_122 _ h9 x0 x2 x0 v2 (2 : Int32) z1.2) ⟨rfl, ⟨rfl, trivial⟩⟩
  · refine xo_iconst kc_3 dX12_test_117 ?_
    refine xo_goto (tgt := 122) dX12_test_118 rfl ?_
    exact mk_O.wk (o_X12_test_122 _ h9 x0 x2 x0 v2 (3 : Int32) z1.2) ⟨rfl, ⟨rfl, trivial⟩⟩
theorem o_X12_test_93 (k9 : Nat → Int32 → Int32 → mk_S → Option (Unit × mk_S)) (h9 : ∀ (x0 : Nat) (x1 : Int32) (x2 : Int32) (t : mk_S), mk_O mk_wu M_X12_test 9 [some (.ref x0), some (.int x1), some (.int x2), none, none] [] t (k9 x0 x1 x2 t)) (x0 : Nat) (x2 : Int32) (x3 : Int32) (t : mk_S) : mk_O mk_wu M_X12_test 93 [some (.ref x0), none, some (.int x2), some (.int x3), none] [] t (B_X12_test_93 k9 x0 x2 x3 t) := by
  unfold B_X12_test_93
  refine xo_aload_n rfl rfl dX12_test_93 ?_
  refine xo_iload_n rfl rfl dX12_test_94 ?_
  refine xo_if_eq (tgt := 103) dX12_test_95 rfl (fun _ => ?_) (fun _ => ?_)
  · refine xo_bipush kb_11 dX12_test_103 ?_
    exact mk_O.wk (o_X12_test_105 _ h9 x0 x2 x3 x0 (11 : Int32) t) ⟨rfl, ⟨rfl, ⟨rfl, trivial⟩⟩⟩
  · refine xo_bipush kb_10 dX12_test_98 ?_
    refine xo_goto (tgt := 105) dX12_test_100 rfl ?_
    exact mk_O.wk (o_X12_test_105 _ h9 x0 x2 x3 x0 (10 : Int32) t) ⟨rfl, ⟨rfl, ⟨rfl, trivial⟩⟩⟩
theorem o_X12_test_82 (k9 : Nat → Int32 → Int32 → mk_S → Option (Unit × mk_S)) (h9 : ∀ (x0 : Nat) (x1 : Int32) (x2 : Int32) (t : mk_S), mk_O mk_wu M_X12_test 9 [some (.ref x0), some (.int x1), some (.int x2), none, none] [] t (k9 x0 x1 x2 t)) (x0 : Nat) (x2 : Int32) (x3 : Int32) (x4 : Int32) (t : mk_S) : mk_O mk_wu M_X12_test 82 [some (.ref x0), none, some (.int x2), some (.int x3), some (.int x4)] [] t (B_X12_test_82 k9 x0 x2 x3 x4 t) := by
  unfold B_X12_test_82
  refine xo_iload rfl dX12_test_82 ?_
  refine xo_if_eq (tgt := 93) dX12_test_84 rfl (fun _ => ?_) (fun _ => ?_)
  · exact mk_O.wk (o_X12_test_93 _ h9 x0 x2 x3 t) ⟨rfl, ⟨rfl, ⟨rfl, trivial⟩⟩⟩
  · refine xo_aload_n rfl rfl dX12_test_87 ?_
    refine xo_bipush kb_11 dX12_test_88 ?_
    refine mk_O.callV (N := M_X12_answers) (ci := 11) (q := (RX12, TX12, 64)) (b := x0) (As1 := [.int (11 : Int32)]) (S := []) md_X12_answers mv_X12_answers lk_RX12_279 rfl (Nat.le_of_ble_eq_true rfl) (by decide) dX12_test_90 rfl rfl rfl (fun z hz => (c_X12_answers x0 (11 : Int32) t z hz).1) (fun z hz => (c_X12_answers x0 (11 : Int32) t z hz).2) (fun z1 _ => ?_)
    show mk_O _ _ _ _ [] _ _
    exact mk_O.wk (o_X12_test_93 _ h9 x0 x2 x3 z1.2) ⟨rfl, ⟨rfl, ⟨rfl, trivial⟩⟩⟩
theorem o_X12_test_164 (k9 : Nat → Int32 → Int32 → mk_S → Option (Unit × mk_S)) (h9 : ∀ (x0 : Nat) (x1 : Int32) (x2 : Int32) (t : mk_S), mk_O mk_wu M_X12_test 9 [some (.ref x0), some (.int x1), some (.int x2), none, none] [] t (k9 x0 x1 x2 t)) (x0 : Nat) (x1 : Int32) (x2 : Int32) (t : mk_S) : mk_O mk_wu M_X12_test 164 [some (.ref x0), some (.int x1), some (.int x2), none, none] [] t (B_X12_test_164 k9 x0 x1 x2 t) := by
  unfold B_X12_test_164
  refine xo_aload_n rfl rfl dX12_test_164 ?_
  refine xo_dup rfl dX12_test_165 ?_
  refine xo_geti dX12_test_166 cl_11 fl_RX12_192 rfl (fun v1 => ?_)
  refine xo_iconst kc_1 dX12_test_169 ?_
  refine xo_iadd dX12_test_170 ?_
  refine xo_puti dX12_test_171 cl_11 fl_RX12_192 rfl ft_11_28 (fun t2 => ?_)
  refine xo_aload_n rfl rfl dX12_test_174 ?_
  refine xo_dup rfl dX12_test_175 ?_
  refine xo_geti dX12_test_176 cl_11 fl_RX12_259 rfl (fun v3 => ?_)
  refine xo_iconst kc_1 dX12_test_179 ?_
  refine xo_isub dX12_test_180 ?_
  refine xo_puti dX12_test_181 cl_11 fl_RX12_259 rfl ft_11_35 (fun t4 => ?_)
  refine xo_aload_n rfl rfl dX12_test_184 ?_
  refine xo_dup rfl dX12_test_185 ?_
  refine xo_geti dX12_test_186 cl_11 fl_RX12_262 rfl (fun v5 => ?_)
  refine xo_iconst kc_1 dX12_test_189 ?_
  refine xo_isub dX12_test_190 ?_
  refine xo_puti dX12_test_191 cl_11 fl_RX12_262 rfl ft_11_33 (fun t6 => ?_)
  refine xo_goto (tgt := 199) dX12_test_194 rfl ?_
  exact mk_O.wk (o_X12_test_199 _ h9 x0 x1 x2 t6) ⟨rfl, ⟨rfl, ⟨rfl, trivial⟩⟩⟩
theorem o_X12_test_9 : ∀ (n : Nat) (x0 : Nat) (x1 : Int32) (x2 : Int32) (t : mk_S), mk_O mk_wu M_X12_test 9 [some (.ref x0), some (.int x1), some (.int x2), none, none] [] t (B_X12_test_9 n x0 x1 x2 t) := by
  intro n
  induction n with
  | zero =>
    intro x0 x1 x2 t
    exact mk_O.none
  | succ n ih =>
    intro x0 x1 x2 t
    rw [B_X12_test_9]
    refine xo_iload_n rfl rfl dX12_test_9 ?_
    refine xo_if_eq (tgt := 202) dX12_test_10 rfl (fun _ => ?_) (fun _ => ?_)
    · exact xo_vret dX12_test_202 rfl
    · refine xo_aload_n rfl rfl dX12_test_13 ?_
      refine xo_geti dX12_test_14 cl_11 fl_RX12_189 rfl (fun v1 => ?_)
      refine xo_if_ne (tgt := 202) dX12_test_17 rfl (fun _ => ?_) (fun _ => ?_)
      · refine xo_iload_n rfl rfl dX12_test_20 ?_
        refine xo_if_eq (tgt := 40) dX12_test_21 rfl (fun _ => ?_) (fun _ => ?_)
        · refine xo_aload_n rfl rfl dX12_test_40 ?_
          refine xo_bipush kb_9 dX12_test_41 ?_
          refine mk_O.callV (N := M_X12_answers) (ci := 11) (q := (RX12, TX12, 64)) (b := x0) (As1 := [.int (9 : Int32)]) (S := []) md_X12_answers mv_X12_answers lk_RX12_279 rfl (Nat.le_of_ble_eq_true rfl) (by decide) dX12_test_43 rfl rfl rfl (fun z hz => (c_X12_answers x0 (9 : Int32) t z hz).1) (fun z hz => (c_X12_answers x0 (9 : Int32) t z hz).2) (fun z2 _ => ?_)
          show mk_O _ _ _ _ [] _ _
          refine xo_aload_n rfl rfl dX12_test_46 ?_
          refine mk_O.callV (N := M_X12_blanks) (ci := 11) (q := (RX12, TX12, 64)) (b := x0) (As1 := []) (S := []) md_X12_blanks mv_X12_blanks lk_RX12_211 rfl (Nat.le_of_ble_eq_true rfl) (by decide) dX12_test_47 rfl rfl rfl (fun z hz => (c_X12_blanks x0 z2.2 z hz).1) (fun z hz => (c_X12_blanks x0 z2.2 z hz).2) (fun z3 _ => ?_)
          show mk_O _ _ _ _ [] _ _
          refine xo_aload_n rfl rfl dX12_test_50 ?_
          refine xo_strw (i := 34) (by decide) rfl rfl dX12_test_51 ?_
          refine mk_O.callV (N := M_X12_stood) (ci := 11) (q := (RX12, TX12, 64)) (b := x0) (As1 := [.ref 1000034]) (S := []) md_X12_stood mv_X12_stood lk_RX12_214 rfl (Nat.le_of_ble_eq_true rfl) (by decide) dX12_test_54 rfl rfl rfl (fun z hz => (c_X12_stood x0 1000034 z3.2 z hz).1) (fun z hz => (c_X12_stood x0 1000034 z3.2 z hz).2) (fun z4 _ => ?_)
          show mk_O _ _ _ _ (.int z4.1 :: []) _ _
          refine xo_istore_n rfl (by decide) (mk_p1_v rfl rfl) dX12_test_57 ?_
          refine xo_aload_n rfl rfl dX12_test_58 ?_
          refine xo_strw (i := 35) (by decide) rfl rfl dX12_test_59 ?_
          refine mk_O.callV (N := M_X12_stood) (ci := 11) (q := (RX12, TX12, 64)) (b := x0) (As1 := [.ref 1000035]) (S := []) md_X12_stood mv_X12_stood lk_RX12_214 rfl (Nat.le_of_ble_eq_true rfl) (by decide) dX12_test_62 rfl rfl rfl (fun z hz => (c_X12_stood x0 1000035 z4.2 z hz).1) (fun z hz => (c_X12_stood x0 1000035 z4.2 z hz).2) (fun z5 _ => ?_)
          show mk_O _ _ _ _ (.int z5.1 :: []) _ _
          refine xo_istore (by decide) (mk_p1_v rfl rfl) dX12_test_65 ?_
          refine xo_aload_n rfl rfl dX12_test_67 ?_
          refine xo_bipush kb_10 dX12_test_68 ?_
          refine mk_O.callV (N := M_X12_answers) (ci := 11) (q := (RX12, TX12, 64)) (b := x0) (As1 := [.int (10 : Int32)]) (S := []) md_X12_answers mv_X12_answers lk_RX12_279 rfl (Nat.le_of_ble_eq_true rfl) (by decide) dX12_test_70 rfl rfl rfl (fun z hz => (c_X12_answers x0 (10 : Int32) z5.2 z hz).1) (fun z hz => (c_X12_answers x0 (10 : Int32) z5.2 z hz).2) (fun z6 _ => ?_)
          show mk_O _ _ _ _ [] _ _
          refine xo_iload_n rfl rfl dX12_test_73 ?_
          refine xo_if_ne (tgt := 82) dX12_test_74 rfl (fun _ => ?_) (fun _ => ?_)
          · refine xo_iload rfl dX12_test_77 ?_
            refine xo_if_eq (tgt := 131) dX12_test_79 rfl (fun _ => ?_) (fun _ => ?_)
            · refine xo_aload_n rfl rfl dX12_test_131 ?_
              refine xo_bipush kb_11 dX12_test_132 ?_
              refine mk_O.callV (N := M_X12_answers) (ci := 11) (q := (RX12, TX12, 64)) (b := x0) (As1 := [.int (11 : Int32)]) (S := []) md_X12_answers mv_X12_answers lk_RX12_279 rfl (Nat.le_of_ble_eq_true rfl) (by decide) dX12_test_134 rfl rfl rfl (fun z hz => (c_X12_answers x0 (11 : Int32) z6.2 z hz).1) (fun z hz => (c_X12_answers x0 (11 : Int32) z6.2 z hz).2) (fun z7 _ => ?_)
              show mk_O _ _ _ _ [] _ _
              refine xo_aload_n rfl rfl dX12_test_137 ?_
              refine mk_O.callV (N := M_X12_top) (ci := 11) (q := (RX12, TX12, 64)) (b := x0) (As1 := []) (S := []) md_X12_top mv_X12_top lk_RX12_265 rfl (Nat.le_of_ble_eq_true rfl) (by decide) dX12_test_138 rfl rfl rfl (fun z hz => (c_X12_top x0 z7.2 z hz).1) (fun z hz => (c_X12_top x0 z7.2 z hz).2) (fun z8 _ => ?_)
              show mk_O _ _ _ _ (.int z8.1 :: []) _ _
              refine xo_bipush kb_12 dX12_test_141 ?_
              refine xo_icmp_ne (tgt := 197) dX12_test_143 rfl (fun _ => ?_) (fun _ => ?_)
              · refine xo_aload_n rfl rfl dX12_test_146 ?_
                refine mk_O.callV (N := M_X12_sign) (ci := 11) (q := (RX12, TX12, 64)) (b := x0) (As1 := []) (S := []) md_X12_sign mv_X12_sign lk_RX12_195 rfl (Nat.le_of_ble_eq_true rfl) (by decide) dX12_test_147 rfl rfl rfl (fun z hz => (c_X12_sign x0 z8.2 z hz).1) (fun z hz => (c_X12_sign x0 z8.2 z hz).2) (fun z9 _ => ?_)
                show mk_O _ _ _ _ (.int z9.1 :: []) _ _
                refine xo_bipush kb_93 dX12_test_150 ?_
                refine xo_icmp_eq (tgt := 164) dX12_test_152 rfl (fun _ => ?_) (fun _ => ?_)
                · exact mk_O.wk (o_X12_test_164 _ ih x0 x1 x2 z9.2) ⟨rfl, ⟨rfl, ⟨rfl, trivial⟩⟩⟩
                · refine xo_aload_n rfl rfl dX12_test_155 ?_
                  refine xo_iconst kc_0 dX12_test_156 ?_
                  refine xo_aload_n rfl rfl dX12_test_157 ?_
                  refine xo_geti dX12_test_158 cl_11 fl_RX12_192 rfl (fun v10 => ?_)
                  refine mk_O.callV (N := M_X12_fails) (ci := 11) (q := (RX12, TX12, 64)) (b := x0) (As1 := [.int (0 : Int32), .int v10]) (S := []) md_X12_fails mv_X12_fails lk_RX12_227 rfl (Nat.le_of_ble_eq_true rfl) (by decide) dX12_test_161 rfl rfl rfl (fun z hz => (c_X12_fails x0 (0 : Int32) v10 z9.2 z hz).1) (fun z hz => (c_X12_fails x0 (0 : Int32) v10 z9.2 z hz).2) (fun z11 _ => ?_)
                  show mk_O _ _ _ _ [] _ _
                  exact mk_O.wk (o_X12_test_164 _ ih x0 x1 x2 z11.2) ⟨rfl, ⟨rfl, ⟨rfl, trivial⟩⟩⟩
              · refine xo_iconst kc_0 dX12_test_197 ?_
                refine xo_istore_n rfl (by decide) (mk_p1_v rfl rfl) dX12_test_198 ?_
                exact mk_O.wk (o_X12_test_199 _ ih x0 x1 (0 : Int32) z8.2) ⟨rfl, ⟨rfl, ⟨rfl, trivial⟩⟩⟩
            · exact mk_O.wk (o_X12_test_82 _ ih x0 x2 z4.1 z5.1 z6.2) ⟨rfl, ⟨rfl, ⟨rfl, ⟨rfl, trivial⟩⟩⟩⟩
          · exact mk_O.wk (o_X12_test_82 _ ih x0 x2 z4.1 z5.1 z6.2) ⟨rfl, ⟨rfl, ⟨rfl, ⟨rfl, trivial⟩⟩⟩⟩
        · refine xo_aload_n rfl rfl dX12_test_24 ?_
          refine mk_O.callV (N := M_X12_fact) (ci := 11) (q := (RX12, TX12, 64)) (b := x0) (As1 := []) (S := []) md_X12_fact mv_X12_fact lk_RX12_276 rfl (Nat.le_of_ble_eq_true rfl) (by decide) dX12_test_25 rfl rfl rfl (fun z hz => (c_X12_fact x0 t z hz).1) (fun z hz => (c_X12_fact x0 t z hz).2) (fun z12 _ => ?_)
          show mk_O _ _ _ _ (.int z12.1 :: []) _ _
          refine xo_if_ne (tgt := 35) dX12_test_28 rfl (fun _ => ?_) (fun _ => ?_)
          · refine xo_iconst kc_1 dX12_test_31 ?_
            refine xo_goto (tgt := 36) dX12_test_32 rfl ?_
            exact mk_O.wk (o_X12_test_36 _ ih x0 x2 (1 : Int32) z12.2) ⟨rfl, ⟨rfl, trivial⟩⟩
          · refine xo_iconst kc_0 dX12_test_35 ?_
            exact mk_O.wk (o_X12_test_36 _ ih x0 x2 (0 : Int32) z12.2) ⟨rfl, ⟨rfl, trivial⟩⟩
      · exact xo_vret dX12_test_202 rfl
theorem p_X12_test (x0 : Nat) (t : mk_S) : mk_O mk_wu M_X12_test 0 [some (.ref x0), none, none, none, none] [] t ((mk_pi t x0 11 35 (0 : Int32)).bind fun t1 => B_X12_test_9 mk_fu x0 (1 : Int32) (1 : Int32) t1) := by
  refine xo_aload_n rfl rfl dX12_test_0 ?_
  refine xo_iconst kc_0 dX12_test_1 ?_
  refine xo_puti dX12_test_2 cl_11 fl_RX12_259 rfl ft_11_35 (fun t1 => ?_)
  refine xo_iconst kc_1 dX12_test_5 ?_
  refine xo_istore_n rfl (by decide) (mk_p1_v rfl rfl) dX12_test_6 ?_
  refine xo_iconst kc_1 dX12_test_7 ?_
  refine xo_istore_n rfl (by decide) (mk_p1_v rfl rfl) dX12_test_8 ?_
  exact mk_O.wk (o_X12_test_9 mk_fu x0 (1 : Int32) (1 : Int32) t1) ⟨rfl, ⟨rfl, ⟨rfl, trivial⟩⟩⟩
theorem c_X12_test (x0 : Nat) (t : mk_S) (z : Unit × mk_S) (h : F_X12_test x0 t = some z) : mk_is t x0 11 ∧ mk_Ct M_X12_test [.ref x0] t (mk_wu z.1, z.2) :=
  ⟨(mk_gd_spec h).1, mk_ct (w := mk_wu) (by decide +kernel) (Nat.le_of_ble_eq_true rfl) (p_X12_test x0 t) z (mk_gd_spec h).2⟩
def B_X12_amount_26 (x0 : Nat) (x1 : Int32) (x2 : Int32) (x3 : Int32) (s0 : Int32) (t : mk_S) : Option (Int32 × mk_S) := (mk_gi t x0 11 29).bind fun v1 => if v1 = 0 then ((F_X12_in ((s0).toInt64) ((x1).toInt64) ((x2).toInt64) t).bind fun z2 => if z2.1 = 0 then ((F_X12_fails x0 (1 : Int32) x3 z2.2).bind fun z3 => some (s0, z3.2)) else (some (s0, z2.2))) else (some (s0, t))
def F_X12_amount (x0 : Nat) (x1 : Int32) (x2 : Int32) (t : mk_S) : Option (Int32 × mk_S) := mk_gd t x0 11 ((F_X12_blanks x0 t).bind fun z1 => (mk_gi z1.2 x0 11 28).bind fun v2 => (mk_gi z1.2 x0 11 29).bind fun v3 => if v3 = 0 then ((F_X12_digits x0 (99999 : Int32) z1.2).bind fun z4 => B_X12_amount_26 x0 x1 x2 v2 z4.1 z4.2) else (B_X12_amount_26 x0 x1 x2 v2 (0 : Int32) z1.2))
theorem o_X12_amount_26 (x0 : Nat) (x1 : Int32) (x2 : Int32) (x3 : Int32) (s0 : Int32) (t : mk_S) : mk_O mk_wi M_X12_amount 26 [some (.ref x0), some (.int x1), some (.int x2), some (.int x3), none] [.int s0] t (B_X12_amount_26 x0 x1 x2 x3 s0 t) := by
  unfold B_X12_amount_26
  refine xo_istore (by decide) (mk_p1_v rfl rfl) dX12_amount_26 ?_
  refine xo_aload_n rfl rfl dX12_amount_28 ?_
  refine xo_geti dX12_amount_29 cl_11 fl_RX12_189 rfl (fun v1 => ?_)
  refine xo_if_ne (tgt := 54) dX12_amount_32 rfl (fun _ => ?_) (fun _ => ?_)
  · refine xo_iload rfl dX12_amount_35 ?_
    refine xo_i2l dX12_amount_37 ?_
    refine xo_iload_n rfl rfl dX12_amount_38 ?_
    refine xo_i2l dX12_amount_39 ?_
    refine xo_iload_n rfl rfl dX12_amount_40 ?_
    refine xo_i2l dX12_amount_41 ?_
    refine mk_O.callS (N := M_X12_in) (As := [.long ((s0).toInt64), .long ((x1).toInt64), .long ((x2).toInt64)]) (S := []) md_X12_in ms_X12_in lk_RX12_159 rfl (Nat.le_of_ble_eq_true rfl) (by decide) dX12_amount_42 rfl (fun z hz => c_X12_in ((s0).toInt64) ((x1).toInt64) ((x2).toInt64) t z hz) (fun z2 _ => ?_)
    show mk_O _ _ _ _ (.int z2.1 :: []) _ _
    refine xo_if_ne (tgt := 54) dX12_amount_45 rfl (fun _ => ?_) (fun _ => ?_)
    · refine xo_aload_n rfl rfl dX12_amount_48 ?_
      refine xo_iconst kc_1 dX12_amount_49 ?_
      refine xo_iload_n rfl rfl dX12_amount_50 ?_
      refine mk_O.callV (N := M_X12_fails) (ci := 11) (q := (RX12, TX12, 64)) (b := x0) (As1 := [.int (1 : Int32), .int x3]) (S := []) md_X12_fails mv_X12_fails lk_RX12_227 rfl (Nat.le_of_ble_eq_true rfl) (by decide) dX12_amount_51 rfl rfl rfl (fun z hz => (c_X12_fails x0 (1 : Int32) x3 z2.2 z hz).1) (fun z hz => (c_X12_fails x0 (1 : Int32) x3 z2.2 z hz).2) (fun z3 _ => ?_)
      show mk_O _ _ _ _ [] _ _
      refine xo_iload rfl dX12_amount_54 ?_
      exact xo_iret dX12_amount_56 rfl
    · refine xo_iload rfl dX12_amount_54 ?_
      exact xo_iret dX12_amount_56 rfl
  · refine xo_iload rfl dX12_amount_54 ?_
    exact xo_iret dX12_amount_56 rfl
theorem p_X12_amount (x0 : Nat) (x1 : Int32) (x2 : Int32) (t : mk_S) : mk_O mk_wi M_X12_amount 0 [some (.ref x0), some (.int x1), some (.int x2), none, none] [] t ((F_X12_blanks x0 t).bind fun z1 => (mk_gi z1.2 x0 11 28).bind fun v2 => (mk_gi z1.2 x0 11 29).bind fun v3 => if v3 = 0 then ((F_X12_digits x0 (99999 : Int32) z1.2).bind fun z4 => B_X12_amount_26 x0 x1 x2 v2 z4.1 z4.2) else (B_X12_amount_26 x0 x1 x2 v2 (0 : Int32) z1.2)) := by
  refine xo_aload_n rfl rfl dX12_amount_0 ?_
  refine mk_O.callV (N := M_X12_blanks) (ci := 11) (q := (RX12, TX12, 64)) (b := x0) (As1 := []) (S := []) md_X12_blanks mv_X12_blanks lk_RX12_211 rfl (Nat.le_of_ble_eq_true rfl) (by decide) dX12_amount_1 rfl rfl rfl (fun z hz => (c_X12_blanks x0 t z hz).1) (fun z hz => (c_X12_blanks x0 t z hz).2) (fun z1 _ => ?_)
  show mk_O _ _ _ _ [] _ _
  refine xo_aload_n rfl rfl dX12_amount_4 ?_
  refine xo_geti dX12_amount_5 cl_11 fl_RX12_192 rfl (fun v2 => ?_)
  refine xo_istore_n rfl (by decide) (mk_p1_v rfl rfl) dX12_amount_8 ?_
  refine xo_aload_n rfl rfl dX12_amount_9 ?_
  refine xo_geti dX12_amount_10 cl_11 fl_RX12_189 rfl (fun v3 => ?_)
  refine xo_if_ne (tgt := 25) dX12_amount_13 rfl (fun _ => ?_) (fun _ => ?_)
  · refine xo_aload_n rfl rfl dX12_amount_16 ?_
    refine xo_ldc (v := 99999) (mk_w6 (i := 185) rfl rfl) dX12_amount_17 ?_
    refine mk_O.callV (N := M_X12_digits) (ci := 11) (q := (RX12, TX12, 64)) (b := x0) (As1 := [.int (99999 : Int32)]) (S := []) md_X12_digits mv_X12_digits lk_RX12_236 rfl (Nat.le_of_ble_eq_true rfl) (by decide) dX12_amount_19 rfl rfl rfl (fun z hz => (c_X12_digits x0 (99999 : Int32) z1.2 z hz).1) (fun z hz => (c_X12_digits x0 (99999 : Int32) z1.2 z hz).2) (fun z4 _ => ?_)
    show mk_O _ _ _ _ (.int z4.1 :: []) _ _
    refine xo_goto (tgt := 26) dX12_amount_22 rfl ?_
    exact mk_O.wk (o_X12_amount_26 x0 x1 x2 v2 z4.1 z4.2) ⟨rfl, ⟨rfl, ⟨rfl, ⟨rfl, trivial⟩⟩⟩⟩
  · refine xo_iconst kc_0 dX12_amount_25 ?_
    exact mk_O.wk (o_X12_amount_26 x0 x1 x2 v2 (0 : Int32) z1.2) ⟨rfl, ⟨rfl, ⟨rfl, ⟨rfl, trivial⟩⟩⟩⟩
theorem c_X12_amount (x0 : Nat) (x1 : Int32) (x2 : Int32) (t : mk_S) (z : Int32 × mk_S) (h : F_X12_amount x0 x1 x2 t = some z) : mk_is t x0 11 ∧ mk_Ct M_X12_amount [.ref x0, .int x1, .int x2] t (mk_wi z.1, z.2) :=
  ⟨(mk_gd_spec h).1, mk_ct (w := mk_wi) (by decide +kernel) (Nat.le_of_ble_eq_true rfl) (p_X12_amount x0 x1 x2 t) z (mk_gd_spec h).2⟩
