def B_X12_works_104 (k59 : Nat → Int32 → mk_S → Option (Unit × mk_S)) (x0 : Nat) (x1 : Int32) (s0 : Nat) (s1 : Int32) (s2 : Int32) (s3 : Int32) (t : mk_S) : Option (Unit × mk_S) := (mk_st 100 t s0 s1 (s2 ||| s3)).bind fun t1 => k59 x0 (x1 + (1 : Int32)) t1
def B_X12_works_114 : Nat → Nat → Int32 → mk_S → Option (Unit × mk_S)
  | 0, _, _, _ => none
  | n + 1, x0, x1, t => (mk_ga t x0 11 1).bind fun v1 => (mk_ld 100 t v1 (2 : Int32)).bind fun v2 => if v2 ≤ x1 then (some ((), t)) else ((mk_ga t x0 11 4).bind fun v3 => (mk_ga t x0 11 4).bind fun v4 => (mk_ld 100 t v4 x1).bind fun v5 => (mk_ga t x0 11 8).bind fun v6 => (mk_ga t x0 11 2).bind fun v7 => (mk_ld 100 t v7 x1).bind fun v8 => (mk_ld 100 t v6 v8).bind fun v9 => (mk_ga t x0 11 1).bind fun v10 => (mk_ld 100 t v10 (1 : Int32)).bind fun v11 => if v11 = 0 then none else (F_X12_upTo (v5 + (v9 / v11)) (99 : Int32) t).bind fun z12 => (mk_st 100 z12.2 v3 x1 z12.1).bind fun t13 => B_X12_works_114 n x0 (x1 + (1 : Int32)) t13)
def B_X12_works_59 : Nat → Nat → Int32 → mk_S → Option (Unit × mk_S)
  | 0, _, _, _ => none
  | n + 1, x0, x1, t => (mk_ga t x0 11 1).bind fun v1 => (mk_ld 100 t v1 (4 : Int32)).bind fun v2 => if v2 ≤ x1 then (B_X12_works_114 mk_fu x0 (0 : Int32) t) else ((mk_ga t x0 11 1).bind fun v3 => (mk_ld 100 t v3 (6 : Int32)).bind fun v4 => (mk_ga t x0 11 8).bind fun v5 => (mk_ga t x0 11 12).bind fun v6 => (mk_ld 100 t v6 x1).bind fun v7 => (mk_ld 100 t v5 v7).bind fun v8 => (mk_ga t x0 11 13).bind fun v9 => (mk_ld 100 t v9 x1).bind fun v10 => if v8 ≤ v10 then (B_X12_works_104 (B_X12_works_59 n) x0 x1 v3 (6 : Int32) v4 (0 : Int32) t) else (B_X12_works_104 (B_X12_works_59 n) x0 x1 v3 (6 : Int32) v4 ((1 : Int32) <<< (x1 &&& 31)) t))
def B_X12_works_2 : Nat → Nat → Int32 → mk_S → Option (Unit × mk_S)
  | 0, _, _, _ => none
  | n + 1, x0, x1, t => (mk_ga t x0 11 1).bind fun v1 => (mk_ld 100 t v1 (3 : Int32)).bind fun v2 => if v2 ≤ x1 then (B_X12_works_59 mk_fu x0 (0 : Int32) t) else ((mk_ga t x0 11 7).bind fun v3 => (mk_ga t x0 11 7).bind fun v4 => (mk_ld 100 t v4 x1).bind fun v5 => (mk_ga t x0 11 8).bind fun v6 => (mk_ga t x0 11 10).bind fun v7 => (mk_ld 100 t v7 x1).bind fun v8 => (mk_ld 100 t v6 v8).bind fun v9 => (mk_ga t x0 11 11).bind fun v10 => (mk_ld 100 t v10 x1).bind fun v11 => (F_X12_upTo v9 v11 t).bind fun z12 => (F_X12_upTo (v5 + z12.1) (9999 : Int32) z12.2).bind fun z13 => (mk_st 100 z13.2 v3 x1 z13.1).bind fun t14 => B_X12_works_2 n x0 (x1 + (1 : Int32)) t14)
def F_X12_works (x0 : Nat) (t : mk_S) : Option (Unit × mk_S) := mk_gd t x0 11 (B_X12_works_2 mk_fu x0 (0 : Int32) t)
theorem o_X12_works_104 (k59 : Nat → Int32 → mk_S → Option (Unit × mk_S)) (h59 : ∀ (x0 : Nat) (x1 : Int32) (t : mk_S), mk_O mk_wu M_X12_works 59 [some (.ref x0), some (.int x1)] [] t (k59 x0 x1 t)) (x0 : Nat) (x1 : Int32) (s0 : Nat) (s1 : Int32) (s2 : Int32) (s3 : Int32) (t : mk_S) : mk_O mk_wu M_X12_works 104 [some (.ref x0), some (.int x1)] [.int s3, .int s2, .int s1, .ref s0] t (B_X12_works_104 k59 x0 x1 s0 s1 s2 s3 t) := by
  unfold B_X12_works_104
  refine xo_ior dX12_works_104 ?_
  refine xo_iast dX12_works_105 (fun t1 => ?_)
  refine xo_iinc rfl (congrArg _ kc_1) (by decide) (mk_p1_v rfl rfl) dX12_works_106 ?_
  refine xo_goto (tgt := 59) dX12_works_109 rfl ?_
  exact mk_O.wk (h59 x0 (x1 + (1 : Int32)) t1) ⟨rfl, ⟨rfl, trivial⟩⟩
theorem o_X12_works_114 : ∀ (n : Nat) (x0 : Nat) (x1 : Int32) (t : mk_S), mk_O mk_wu M_X12_works 114 [some (.ref x0), some (.int x1)] [] t (B_X12_works_114 n x0 x1 t) := by
  intro n
  induction n with
  | zero =>
    intro x0 x1 t
    exact mk_O.none
  | succ n ih =>
    intro x0 x1 t
    rw [B_X12_works_114]
    refine xo_iload_n rfl rfl dX12_works_114 ?_
    refine xo_aload_n rfl rfl dX12_works_115 ?_
    refine xo_geta dX12_works_116 cl_11 fl_RX12_9 rfl (fun v1 => ?_)
    refine xo_iconst kc_2 dX12_works_119 ?_
    refine xo_iald dX12_works_120 (fun v2 => ?_)
    refine xo_icmp_ge (tgt := 166) dX12_works_121 rfl (fun _ => ?_) (fun _ => ?_)
    · exact xo_vret dX12_works_166 rfl
    · refine xo_aload_n rfl rfl dX12_works_124 ?_
      refine xo_geta dX12_works_125 cl_11 fl_RX12_19 rfl (fun v3 => ?_)
      refine xo_iload_n rfl rfl dX12_works_128 ?_
      refine xo_aload_n rfl rfl dX12_works_129 ?_
      refine xo_geta dX12_works_130 cl_11 fl_RX12_19 rfl (fun v4 => ?_)
      refine xo_iload_n rfl rfl dX12_works_133 ?_
      refine xo_iald dX12_works_134 (fun v5 => ?_)
      refine xo_aload_n rfl rfl dX12_works_135 ?_
      refine xo_geta dX12_works_136 cl_11 fl_RX12_31 rfl (fun v6 => ?_)
      refine xo_aload_n rfl rfl dX12_works_139 ?_
      refine xo_geta dX12_works_140 cl_11 fl_RX12_13 rfl (fun v7 => ?_)
      refine xo_iload_n rfl rfl dX12_works_143 ?_
      refine xo_iald dX12_works_144 (fun v8 => ?_)
      refine xo_iald dX12_works_145 (fun v9 => ?_)
      refine xo_aload_n rfl rfl dX12_works_146 ?_
      refine xo_geta dX12_works_147 cl_11 fl_RX12_9 rfl (fun v10 => ?_)
      refine xo_iconst kc_1 dX12_works_150 ?_
      refine xo_iald dX12_works_151 (fun v11 => ?_)
      refine xo_idiv dX12_works_152 (fun _ => ?_)
      refine xo_iadd dX12_works_153 ?_
      refine xo_bipush kb_99 dX12_works_154 ?_
      refine mk_O.callS (N := M_X12_upTo) (As := [.int (v5 + (v9 / v11)), .int (99 : Int32)]) (S := [.int x1, .ref v3]) md_X12_upTo ms_X12_upTo lk_RX12_395 rfl (Nat.le_of_ble_eq_true rfl) (by decide) dX12_works_156 rfl (fun z hz => c_X12_upTo (v5 + (v9 / v11)) (99 : Int32) t z hz) (fun z12 _ => ?_)
      show mk_O _ _ _ _ (.int z12.1 :: [.int x1, .ref v3]) _ _
      refine xo_iast dX12_works_159 (fun t13 => ?_)
      refine xo_iinc rfl (congrArg _ kc_1) (by decide) (mk_p1_v rfl rfl) dX12_works_160 ?_
      refine xo_goto (tgt := 114) dX12_works_163 rfl ?_
      exact mk_O.wk (ih x0 (x1 + (1 : Int32)) t13) ⟨rfl, ⟨rfl, trivial⟩⟩
theorem o_X12_works_59 : ∀ (n : Nat) (x0 : Nat) (x1 : Int32) (t : mk_S), mk_O mk_wu M_X12_works 59 [some (.ref x0), some (.int x1)] [] t (B_X12_works_59 n x0 x1 t) := by
  intro n
  induction n with
  | zero =>
    intro x0 x1 t
    exact mk_O.none
  | succ n ih =>
    intro x0 x1 t
    rw [B_X12_works_59]
    refine xo_iload_n rfl rfl dX12_works_59 ?_
    refine xo_aload_n rfl rfl dX12_works_60 ?_
    refine xo_geta dX12_works_61 cl_11 fl_RX12_9 rfl (fun v1 => ?_)
    refine xo_iconst kc_4 dX12_works_64 ?_
    refine xo_iald dX12_works_65 (fun v2 => ?_)
    refine xo_icmp_ge (tgt := 112) dX12_works_66 rfl (fun _ => ?_) (fun _ => ?_)
    · refine xo_iconst kc_0 dX12_works_112 ?_
      refine xo_istore_n rfl (by decide) (mk_p1_v rfl rfl) dX12_works_113 ?_
      exact mk_O.wk (o_X12_works_114 mk_fu x0 (0 : Int32) t) ⟨rfl, ⟨rfl, trivial⟩⟩
    · refine xo_aload_n rfl rfl dX12_works_69 ?_
      refine xo_geta dX12_works_70 cl_11 fl_RX12_9 rfl (fun v3 => ?_)
      refine xo_bipush kb_6 dX12_works_73 ?_
      refine xo_dup2 rfl rfl dX12_works_75 ?_
      refine xo_iald dX12_works_76 (fun v4 => ?_)
      refine xo_aload_n rfl rfl dX12_works_77 ?_
      refine xo_geta dX12_works_78 cl_11 fl_RX12_31 rfl (fun v5 => ?_)
      refine xo_aload_n rfl rfl dX12_works_81 ?_
      refine xo_geta dX12_works_82 cl_11 fl_RX12_43 rfl (fun v6 => ?_)
      refine xo_iload_n rfl rfl dX12_works_85 ?_
      refine xo_iald dX12_works_86 (fun v7 => ?_)
      refine xo_iald dX12_works_87 (fun v8 => ?_)
      refine xo_aload_n rfl rfl dX12_works_88 ?_
      refine xo_geta dX12_works_89 cl_11 fl_RX12_46 rfl (fun v9 => ?_)
      refine xo_iload_n rfl rfl dX12_works_92 ?_
      refine xo_iald dX12_works_93 (fun v10 => ?_)
      refine xo_icmp_le (tgt := 103) dX12_works_94 rfl (fun _ => ?_) (fun _ => ?_)
      · refine xo_iconst kc_0 dX12_works_103 ?_
        exact mk_O.wk (o_X12_works_104 _ ih x0 x1 v3 (6 : Int32) v4 (0 : Int32) t) ⟨rfl, ⟨rfl, trivial⟩⟩
      · refine xo_iconst kc_1 dX12_works_97 ?_
        refine xo_iload_n rfl rfl dX12_works_98 ?_
        refine xo_ishl dX12_works_99 ?_
        refine xo_goto (tgt := 104) dX12_works_100 rfl ?_
        exact mk_O.wk (o_X12_works_104 _ ih x0 x1 v3 (6 : Int32) v4 ((1 : Int32) <<< (x1 &&& 31)) t) ⟨rfl, ⟨rfl, trivial⟩⟩
theorem o_X12_works_2 : ∀ (n : Nat) (x0 : Nat) (x1 : Int32) (t : mk_S), mk_O mk_wu M_X12_works 2 [some (.ref x0), some (.int x1)] [] t (B_X12_works_2 n x0 x1 t) := by
  intro n
  induction n with
  | zero =>
    intro x0 x1 t
    exact mk_O.none
  | succ n ih =>
    intro x0 x1 t
    rw [B_X12_works_2]
    refine xo_iload_n rfl rfl dX12_works_2 ?_
    refine xo_aload_n rfl rfl dX12_works_3 ?_
    refine xo_geta dX12_works_4 cl_11 fl_RX12_9 rfl (fun v1 => ?_)
    refine xo_iconst kc_3 dX12_works_7 ?_
    refine xo_iald dX12_works_8 (fun v2 => ?_)
    refine xo_icmp_ge (tgt := 57) dX12_works_9 rfl (fun _ => ?_) (fun _ => ?_)
    · refine xo_iconst kc_0 dX12_works_57 ?_
      refine xo_istore_n rfl (by decide) (mk_p1_v rfl rfl) dX12_works_58 ?_
      exact mk_O.wk (o_X12_works_59 mk_fu x0 (0 : Int32) t) ⟨rfl, ⟨rfl, trivial⟩⟩
    · refine xo_aload_n rfl rfl dX12_works_12 ?_
      refine xo_geta dX12_works_13 cl_11 fl_RX12_28 rfl (fun v3 => ?_)
      refine xo_iload_n rfl rfl dX12_works_16 ?_
      refine xo_aload_n rfl rfl dX12_works_17 ?_
      refine xo_geta dX12_works_18 cl_11 fl_RX12_28 rfl (fun v4 => ?_)
      refine xo_iload_n rfl rfl dX12_works_21 ?_
      refine xo_iald dX12_works_22 (fun v5 => ?_)
      refine xo_aload_n rfl rfl dX12_works_23 ?_
      refine xo_geta dX12_works_24 cl_11 fl_RX12_31 rfl (fun v6 => ?_)
      refine xo_aload_n rfl rfl dX12_works_27 ?_
      refine xo_geta dX12_works_28 cl_11 fl_RX12_37 rfl (fun v7 => ?_)
      refine xo_iload_n rfl rfl dX12_works_31 ?_
      refine xo_iald dX12_works_32 (fun v8 => ?_)
      refine xo_iald dX12_works_33 (fun v9 => ?_)
      refine xo_aload_n rfl rfl dX12_works_34 ?_
      refine xo_geta dX12_works_35 cl_11 fl_RX12_40 rfl (fun v10 => ?_)
      refine xo_iload_n rfl rfl dX12_works_38 ?_
      refine xo_iald dX12_works_39 (fun v11 => ?_)
      refine mk_O.callS (N := M_X12_upTo) (As := [.int v9, .int v11]) (S := [.int v5, .int x1, .ref v3]) md_X12_upTo ms_X12_upTo lk_RX12_395 rfl (Nat.le_of_ble_eq_true rfl) (by decide) dX12_works_40 rfl (fun z hz => c_X12_upTo v9 v11 t z hz) (fun z12 _ => ?_)
      show mk_O _ _ _ _ (.int z12.1 :: [.int v5, .int x1, .ref v3]) _ _
      refine xo_iadd dX12_works_43 ?_
      refine xo_sipush ks_9999 dX12_works_44 ?_
      refine mk_O.callS (N := M_X12_upTo) (As := [.int (v5 + z12.1), .int (9999 : Int32)]) (S := [.int x1, .ref v3]) md_X12_upTo ms_X12_upTo lk_RX12_395 rfl (Nat.le_of_ble_eq_true rfl) (by decide) dX12_works_47 rfl (fun z hz => c_X12_upTo (v5 + z12.1) (9999 : Int32) z12.2 z hz) (fun z13 _ => ?_)
      show mk_O _ _ _ _ (.int z13.1 :: [.int x1, .ref v3]) _ _
      refine xo_iast dX12_works_50 (fun t14 => ?_)
      refine xo_iinc rfl (congrArg _ kc_1) (by decide) (mk_p1_v rfl rfl) dX12_works_51 ?_
      refine xo_goto (tgt := 2) dX12_works_54 rfl ?_
      exact mk_O.wk (ih x0 (x1 + (1 : Int32)) t14) ⟨rfl, ⟨rfl, trivial⟩⟩
theorem p_X12_works (x0 : Nat) (t : mk_S) : mk_O mk_wu M_X12_works 0 [some (.ref x0), none] [] t (B_X12_works_2 mk_fu x0 (0 : Int32) t) := by
  refine xo_iconst kc_0 dX12_works_0 ?_
  refine xo_istore_n rfl (by decide) (mk_p1_v rfl rfl) dX12_works_1 ?_
  exact mk_O.wk (o_X12_works_2 mk_fu x0 (0 : Int32) t) ⟨rfl, ⟨rfl, trivial⟩⟩
theorem c_X12_works (x0 : Nat) (t : mk_S) (z : Unit × mk_S) (h : F_X12_works x0 t = some z) : mk_is t x0 11 ∧ mk_Ct M_X12_works [.ref x0] t (mk_wu z.1, z.2) :=
  ⟨(mk_gd_spec h).1, mk_ct (w := mk_wu) (by decide +kernel) (Nat.le_of_ble_eq_true rfl) (p_X12_works x0 t) z (mk_gd_spec h).2⟩
def B_X12_goes_67 (k41 : Nat → Int32 → Int32 → mk_S → Option (Int32 × mk_S)) (x0 : Nat) (x2 : Int32) (s0 : Int32) (s1 : Int32) (t : mk_S) : Option (Int32 × mk_S) := k41 x0 (s0 ||| s1) (x2 + (1 : Int32)) t
def B_X12_goes_41 : Nat → Nat → Int32 → Int32 → mk_S → Option (Int32 × mk_S)
  | 0, _, _, _, _ => none
  | n + 1, x0, x1, x2, t => (mk_ga t x0 11 1).bind fun v1 => (mk_ld 100 t v1 (2 : Int32)).bind fun v2 => if v2 ≤ x2 then ((F_X12_blows x0 x1 t).bind fun z3 => (F_X12_works x0 z3.2).bind fun z4 => (mk_ga z4.2 x0 11 1).bind fun v5 => (mk_ld 100 z4.2 v5 (5 : Int32)).bind fun v6 => (mk_st 100 z4.2 v5 (5 : Int32) (v6 + (1 : Int32))).bind fun t7 => some (x1, t7)) else ((F_X12_givesWay x0 x2 t).bind fun z8 => if z8.1 = 0 then (B_X12_goes_67 (B_X12_goes_41 n) x0 x2 x1 (0 : Int32) z8.2) else (B_X12_goes_67 (B_X12_goes_41 n) x0 x2 x1 ((1 : Int32) <<< (x2 &&& 31)) z8.2))
def B_X12_goes_4 : Nat → Nat → Int32 → Int32 → mk_S → Option (Int32 × mk_S)
  | 0, _, _, _, _ => none
  | n + 1, x0, x1, x2, t => (mk_ga t x0 11 1).bind fun v1 => (mk_ld 100 t v1 (2 : Int32)).bind fun v2 => if v2 ≤ x2 then (B_X12_goes_41 mk_fu x0 x1 (0 : Int32) t) else ((mk_ga t x0 11 4).bind fun v3 => (mk_ga t x0 11 4).bind fun v4 => (mk_ld 100 t v4 x2).bind fun v5 => (F_X12_upTo (v5 + (1 : Int32)) (99 : Int32) t).bind fun z6 => (mk_st 100 z6.2 v3 x2 z6.1).bind fun t7 => B_X12_goes_4 n x0 x1 (x2 + (1 : Int32)) t7)
def F_X12_goes (x0 : Nat) (t : mk_S) : Option (Int32 × mk_S) := mk_gd t x0 11 (B_X12_goes_4 mk_fu x0 (0 : Int32) (0 : Int32) t)
theorem o_X12_goes_67 (k41 : Nat → Int32 → Int32 → mk_S → Option (Int32 × mk_S)) (h41 : ∀ (x0 : Nat) (x1 : Int32) (x2 : Int32) (t : mk_S), mk_O mk_wi M_X12_goes 41 [some (.ref x0), some (.int x1), some (.int x2)] [] t (k41 x0 x1 x2 t)) (x0 : Nat) (x2 : Int32) (s0 : Int32) (s1 : Int32) (t : mk_S) : mk_O mk_wi M_X12_goes 67 [some (.ref x0), none, some (.int x2)] [.int s1, .int s0] t (B_X12_goes_67 k41 x0 x2 s0 s1 t) := by
  unfold B_X12_goes_67
  refine xo_ior dX12_goes_67 ?_
  refine xo_istore_n rfl (by decide) (mk_p1_v rfl rfl) dX12_goes_68 ?_
  refine xo_iinc rfl (congrArg _ kc_1) (by decide) (mk_p1_v rfl rfl) dX12_goes_69 ?_
  refine xo_goto (tgt := 41) dX12_goes_72 rfl ?_
  exact mk_O.wk (h41 x0 (s0 ||| s1) (x2 + (1 : Int32)) t) ⟨rfl, ⟨rfl, ⟨rfl, trivial⟩⟩⟩
theorem o_X12_goes_41 : ∀ (n : Nat) (x0 : Nat) (x1 : Int32) (x2 : Int32) (t : mk_S), mk_O mk_wi M_X12_goes 41 [some (.ref x0), some (.int x1), some (.int x2)] [] t (B_X12_goes_41 n x0 x1 x2 t) := by
  intro n
  induction n with
  | zero =>
    intro x0 x1 x2 t
    exact mk_O.none
  | succ n ih =>
    intro x0 x1 x2 t
    rw [B_X12_goes_41]
    refine xo_iload_n rfl rfl dX12_goes_41 ?_
    refine xo_aload_n rfl rfl dX12_goes_42 ?_
    refine xo_geta dX12_goes_43 cl_11 fl_RX12_9 rfl (fun v1 => ?_)
    refine xo_iconst kc_2 dX12_goes_46 ?_
    refine xo_iald dX12_goes_47 (fun v2 => ?_)
    refine xo_icmp_ge (tgt := 75) dX12_goes_48 rfl (fun _ => ?_) (fun _ => ?_)
    · refine xo_aload_n rfl rfl dX12_goes_75 ?_
      refine xo_iload_n rfl rfl dX12_goes_76 ?_
      refine mk_O.callV (N := M_X12_blows) (ci := 11) (q := (RX12, TX12, 64)) (b := x0) (As1 := [.int x1]) (S := []) md_X12_blows mv_X12_blows lk_RX12_401 rfl (Nat.le_of_ble_eq_true rfl) (by decide) dX12_goes_77 rfl rfl rfl (fun z hz => (c_X12_blows x0 x1 t z hz).1) (fun z hz => (c_X12_blows x0 x1 t z hz).2) (fun z3 _ => ?_)
      show mk_O _ _ _ _ [] _ _
      refine xo_aload_n rfl rfl dX12_goes_80 ?_
      refine mk_O.callV (N := M_X12_works) (ci := 11) (q := (RX12, TX12, 64)) (b := x0) (As1 := []) (S := []) md_X12_works mv_X12_works lk_RX12_404 rfl (Nat.le_of_ble_eq_true rfl) (by decide) dX12_goes_81 rfl rfl rfl (fun z hz => (c_X12_works x0 z3.2 z hz).1) (fun z hz => (c_X12_works x0 z3.2 z hz).2) (fun z4 _ => ?_)
      show mk_O _ _ _ _ [] _ _
      refine xo_aload_n rfl rfl dX12_goes_84 ?_
      refine xo_geta dX12_goes_85 cl_11 fl_RX12_9 rfl (fun v5 => ?_)
      refine xo_iconst kc_5 dX12_goes_88 ?_
      refine xo_dup2 rfl rfl dX12_goes_89 ?_
      refine xo_iald dX12_goes_90 (fun v6 => ?_)
      refine xo_iconst kc_1 dX12_goes_91 ?_
      refine xo_iadd dX12_goes_92 ?_
      refine xo_iast dX12_goes_93 (fun t7 => ?_)
      refine xo_iload_n rfl rfl dX12_goes_94 ?_
      exact xo_iret dX12_goes_95 rfl
    · refine xo_iload_n rfl rfl dX12_goes_51 ?_
      refine xo_aload_n rfl rfl dX12_goes_52 ?_
      refine xo_iload_n rfl rfl dX12_goes_53 ?_
      refine mk_O.callV (N := M_X12_givesWay) (ci := 11) (q := (RX12, TX12, 64)) (b := x0) (As1 := [.int x2]) (S := [.int x1]) md_X12_givesWay mv_X12_givesWay lk_RX12_398 rfl (Nat.le_of_ble_eq_true rfl) (by decide) dX12_goes_54 rfl rfl rfl (fun z hz => (c_X12_givesWay x0 x2 t z hz).1) (fun z hz => (c_X12_givesWay x0 x2 t z hz).2) (fun z8 _ => ?_)
      show mk_O _ _ _ _ (.int z8.1 :: [.int x1]) _ _
      refine xo_if_eq (tgt := 66) dX12_goes_57 rfl (fun _ => ?_) (fun _ => ?_)
      · refine xo_iconst kc_0 dX12_goes_66 ?_
        exact mk_O.wk (o_X12_goes_67 _ ih x0 x2 x1 (0 : Int32) z8.2) ⟨rfl, ⟨rfl, trivial⟩⟩
      · refine xo_iconst kc_1 dX12_goes_60 ?_
        refine xo_iload_n rfl rfl dX12_goes_61 ?_
        refine xo_ishl dX12_goes_62 ?_
        refine xo_goto (tgt := 67) dX12_goes_63 rfl ?_
        exact mk_O.wk (o_X12_goes_67 _ ih x0 x2 x1 ((1 : Int32) <<< (x2 &&& 31)) z8.2) ⟨rfl, ⟨rfl, trivial⟩⟩
theorem o_X12_goes_4 : ∀ (n : Nat) (x0 : Nat) (x1 : Int32) (x2 : Int32) (t : mk_S), mk_O mk_wi M_X12_goes 4 [some (.ref x0), some (.int x1), some (.int x2)] [] t (B_X12_goes_4 n x0 x1 x2 t) := by
  intro n
  induction n with
  | zero =>
    intro x0 x1 x2 t
    exact mk_O.none
  | succ n ih =>
    intro x0 x1 x2 t
    rw [B_X12_goes_4]
    refine xo_iload_n rfl rfl dX12_goes_4 ?_
    refine xo_aload_n rfl rfl dX12_goes_5 ?_
    refine xo_geta dX12_goes_6 cl_11 fl_RX12_9 rfl (fun v1 => ?_)
    refine xo_iconst kc_2 dX12_goes_9 ?_
    refine xo_iald dX12_goes_10 (fun v2 => ?_)
    refine xo_icmp_ge (tgt := 39) dX12_goes_11 rfl (fun _ => ?_) (fun _ => ?_)
    · refine xo_iconst kc_0 dX12_goes_39 ?_
      refine xo_istore_n rfl (by decide) (mk_p1_v rfl rfl) dX12_goes_40 ?_
      exact mk_O.wk (o_X12_goes_41 mk_fu x0 x1 (0 : Int32) t) ⟨rfl, ⟨rfl, ⟨rfl, trivial⟩⟩⟩
    · refine xo_aload_n rfl rfl dX12_goes_14 ?_
      refine xo_geta dX12_goes_15 cl_11 fl_RX12_19 rfl (fun v3 => ?_)
      refine xo_iload_n rfl rfl dX12_goes_18 ?_
      refine xo_aload_n rfl rfl dX12_goes_19 ?_
      refine xo_geta dX12_goes_20 cl_11 fl_RX12_19 rfl (fun v4 => ?_)
      refine xo_iload_n rfl rfl dX12_goes_23 ?_
      refine xo_iald dX12_goes_24 (fun v5 => ?_)
      refine xo_iconst kc_1 dX12_goes_25 ?_
      refine xo_iadd dX12_goes_26 ?_
      refine xo_bipush kb_99 dX12_goes_27 ?_
      refine mk_O.callS (N := M_X12_upTo) (As := [.int (v5 + (1 : Int32)), .int (99 : Int32)]) (S := [.int x2, .ref v3]) md_X12_upTo ms_X12_upTo lk_RX12_395 rfl (Nat.le_of_ble_eq_true rfl) (by decide) dX12_goes_29 rfl (fun z hz => c_X12_upTo (v5 + (1 : Int32)) (99 : Int32) t z hz) (fun z6 _ => ?_)
      show mk_O _ _ _ _ (.int z6.1 :: [.int x2, .ref v3]) _ _
      refine xo_iast dX12_goes_32 (fun t7 => ?_)
      refine xo_iinc rfl (congrArg _ kc_1) (by decide) (mk_p1_v rfl rfl) dX12_goes_33 ?_
      refine xo_goto (tgt := 4) dX12_goes_36 rfl ?_
      exact mk_O.wk (ih x0 x1 (x2 + (1 : Int32)) t7) ⟨rfl, ⟨rfl, ⟨rfl, trivial⟩⟩⟩
theorem p_X12_goes (x0 : Nat) (t : mk_S) : mk_O mk_wi M_X12_goes 0 [some (.ref x0), none, none] [] t (B_X12_goes_4 mk_fu x0 (0 : Int32) (0 : Int32) t) := by
  refine xo_iconst kc_0 dX12_goes_0 ?_
  refine xo_istore_n rfl (by decide) (mk_p1_v rfl rfl) dX12_goes_1 ?_
  refine xo_iconst kc_0 dX12_goes_2 ?_
  refine xo_istore_n rfl (by decide) (mk_p1_v rfl rfl) dX12_goes_3 ?_
  exact mk_O.wk (o_X12_goes_4 mk_fu x0 (0 : Int32) (0 : Int32) t) ⟨rfl, ⟨rfl, ⟨rfl, trivial⟩⟩⟩
theorem c_X12_goes (x0 : Nat) (t : mk_S) (z : Int32 × mk_S) (h : F_X12_goes x0 t = some z) : mk_is t x0 11 ∧ mk_Ct M_X12_goes [.ref x0] t (mk_wi z.1, z.2) :=
  ⟨(mk_gd_spec h).1, mk_ct (w := mk_wi) (by decide +kernel) (Nat.le_of_ble_eq_true rfl) (p_X12_goes x0 t) z (mk_gd_spec h).2⟩
def B_X12_goFor_2 : Nat → Nat → Int32 → Int32 → mk_S → Option (Unit × mk_S)
  | 0, _, _, _, _ => none
  | n + 1, x0, x1, x2, t => if x1 ≤ x2 then (some ((), t)) else ((F_X12_goes x0 t).bind fun z1 => B_X12_goFor_2 n x0 x1 (x2 + (1 : Int32)) z1.2)
def F_X12_goFor (x0 : Nat) (x1 : Int32) (t : mk_S) : Option (Unit × mk_S) := mk_gd t x0 11 (B_X12_goFor_2 mk_fu x0 x1 (0 : Int32) t)
theorem o_X12_goFor_2 : ∀ (n : Nat) (x0 : Nat) (x1 : Int32) (x2 : Int32) (t : mk_S), mk_O mk_wu M_X12_goFor 2 [some (.ref x0), some (.int x1), some (.int x2)] [] t (B_X12_goFor_2 n x0 x1 x2 t) := by
  intro n
  induction n with
  | zero =>
    intro x0 x1 x2 t
    exact mk_O.none
  | succ n ih =>
    intro x0 x1 x2 t
    rw [B_X12_goFor_2]
    refine xo_iload_n rfl rfl dX12_goFor_2 ?_
    refine xo_iload_n rfl rfl dX12_goFor_3 ?_
    refine xo_icmp_ge (tgt := 18) dX12_goFor_4 rfl (fun _ => ?_) (fun _ => ?_)
    · exact xo_vret dX12_goFor_18 rfl
    · refine xo_aload_n rfl rfl dX12_goFor_7 ?_
      refine mk_O.callV (N := M_X12_goes) (ci := 11) (q := (RX12, TX12, 64)) (b := x0) (As1 := []) (S := []) md_X12_goes mv_X12_goes lk_RX12_407 rfl (Nat.le_of_ble_eq_true rfl) (by decide) dX12_goFor_8 rfl rfl rfl (fun z hz => (c_X12_goes x0 t z hz).1) (fun z hz => (c_X12_goes x0 t z hz).2) (fun z1 _ => ?_)
      show mk_O _ _ _ _ (.int z1.1 :: []) _ _
      refine xo_pop rfl dX12_goFor_11 ?_
      refine xo_iinc rfl (congrArg _ kc_1) (by decide) (mk_p1_v rfl rfl) dX12_goFor_12 ?_
      refine xo_goto (tgt := 2) dX12_goFor_15 rfl ?_
      exact mk_O.wk (ih x0 x1 (x2 + (1 : Int32)) z1.2) ⟨rfl, ⟨rfl, ⟨rfl, trivial⟩⟩⟩
theorem p_X12_goFor (x0 : Nat) (x1 : Int32) (t : mk_S) : mk_O mk_wu M_X12_goFor 0 [some (.ref x0), some (.int x1), none] [] t (B_X12_goFor_2 mk_fu x0 x1 (0 : Int32) t) := by
  refine xo_iconst kc_0 dX12_goFor_0 ?_
  refine xo_istore_n rfl (by decide) (mk_p1_v rfl rfl) dX12_goFor_1 ?_
  exact mk_O.wk (o_X12_goFor_2 mk_fu x0 x1 (0 : Int32) t) ⟨rfl, ⟨rfl, ⟨rfl, trivial⟩⟩⟩
theorem c_X12_goFor (x0 : Nat) (x1 : Int32) (t : mk_S) (z : Unit × mk_S) (h : F_X12_goFor x0 x1 t = some z) : mk_is t x0 11 ∧ mk_Ct M_X12_goFor [.ref x0, .int x1] t (mk_wu z.1, z.2) :=
  ⟨(mk_gd_spec h).1, mk_ct (w := mk_wu) (by decide +kernel) (Nat.le_of_ble_eq_true rfl) (p_X12_goFor x0 x1 t) z (mk_gd_spec h).2⟩
def B_X12_moves_20 (x0 : Nat) (s0 : Int32) (t : mk_S) : Option (Int32 × mk_S) := (mk_ga t x0 11 48).bind fun v1 => (mk_gi t x0 11 51).bind fun v2 => (mk_st 100 t v1 v2 s0).bind fun t3 => (mk_gi t3 x0 11 51).bind fun v4 => (mk_pi t3 x0 11 51 (v4 + (1 : Int32))).bind fun t5 => some (s0, t5)
def F_X12_moves (x0 : Nat) (x1 : Int32) (t : mk_S) : Option (Int32 × mk_S) := mk_gd t x0 11 ((mk_gi t x0 11 52).bind fun v1 => if v1 = 0 then (B_X12_moves_20 x0 x1 t) else ((mk_ga t x0 11 48).bind fun v2 => (mk_gi t x0 11 51).bind fun v3 => (mk_ld 100 t v2 v3).bind fun v4 => B_X12_moves_20 x0 v4 t))
theorem o_X12_moves_20 (x0 : Nat) (s0 : Int32) (t : mk_S) : mk_O mk_wi M_X12_moves 20 [some (.ref x0), none, none] [.int s0] t (B_X12_moves_20 x0 s0 t) := by
  unfold B_X12_moves_20
  refine xo_istore_n rfl (by decide) (mk_p1_n rfl) dX12_moves_20 ?_
  refine xo_aload_n rfl rfl dX12_moves_21 ?_
  refine xo_geta dX12_moves_22 cl_11 fl_RX12_127 rfl (fun v1 => ?_)
  refine xo_aload_n rfl rfl dX12_moves_25 ?_
  refine xo_geti dX12_moves_26 cl_11 fl_RX12_414 rfl (fun v2 => ?_)
  refine xo_iload_n rfl rfl dX12_moves_29 ?_
  refine xo_iast dX12_moves_30 (fun t3 => ?_)
  refine xo_aload_n rfl rfl dX12_moves_31 ?_
  refine xo_dup rfl dX12_moves_32 ?_
  refine xo_geti dX12_moves_33 cl_11 fl_RX12_414 rfl (fun v4 => ?_)
  refine xo_iconst kc_1 dX12_moves_36 ?_
  refine xo_iadd dX12_moves_37 ?_
  refine xo_puti dX12_moves_38 cl_11 fl_RX12_414 rfl ft_11_51 (fun t5 => ?_)
  refine xo_iload_n rfl rfl dX12_moves_41 ?_
  exact xo_iret dX12_moves_42 rfl
theorem p_X12_moves (x0 : Nat) (x1 : Int32) (t : mk_S) : mk_O mk_wi M_X12_moves 0 [some (.ref x0), some (.int x1), none] [] t ((mk_gi t x0 11 52).bind fun v1 => if v1 = 0 then (B_X12_moves_20 x0 x1 t) else ((mk_ga t x0 11 48).bind fun v2 => (mk_gi t x0 11 51).bind fun v3 => (mk_ld 100 t v2 v3).bind fun v4 => B_X12_moves_20 x0 v4 t)) := by
  refine xo_aload_n rfl rfl dX12_moves_0 ?_
  refine xo_geti dX12_moves_1 cl_11 fl_RX12_410 rfl (fun v1 => ?_)
  refine xo_if_eq (tgt := 19) dX12_moves_4 rfl (fun _ => ?_) (fun _ => ?_)
  · refine xo_iload_n rfl rfl dX12_moves_19 ?_
    exact mk_O.wk (o_X12_moves_20 x0 x1 t) ⟨rfl, trivial⟩
  · refine xo_aload_n rfl rfl dX12_moves_7 ?_
    refine xo_geta dX12_moves_8 cl_11 fl_RX12_127 rfl (fun v2 => ?_)
    refine xo_aload_n rfl rfl dX12_moves_11 ?_
    refine xo_geti dX12_moves_12 cl_11 fl_RX12_414 rfl (fun v3 => ?_)
    refine xo_iald dX12_moves_15 (fun v4 => ?_)
    refine xo_goto (tgt := 20) dX12_moves_16 rfl ?_
    exact mk_O.wk (o_X12_moves_20 x0 v4 t) ⟨rfl, trivial⟩
theorem c_X12_moves (x0 : Nat) (x1 : Int32) (t : mk_S) (z : Int32 × mk_S) (h : F_X12_moves x0 x1 t = some z) : mk_is t x0 11 ∧ mk_Ct M_X12_moves [.ref x0, .int x1] t (mk_wi z.1, z.2) :=
  ⟨(mk_gd_spec h).1, mk_ct (w := mk_wi) (by decide +kernel) (Nat.le_of_ble_eq_true rfl) (p_X12_moves x0 x1 t) z (mk_gd_spec h).2⟩
def B_X12_movesRow_2 : Nat → Nat → Nat → Int32 → mk_S → Option (Unit × mk_S)
  | 0, _, _, _, _ => none
  | n + 1, x0, x1, x2, t => (mk_len t x1).bind fun v1 => if v1 ≤ x2 then (some ((), t)) else ((mk_ld 100 t x1 x2).bind fun v2 => (F_X12_moves x0 v2 t).bind fun z3 => (mk_st 100 z3.2 x1 x2 z3.1).bind fun t4 => B_X12_movesRow_2 n x0 x1 (x2 + (1 : Int32)) t4)
def F_X12_movesRow (x0 : Nat) (x1 : Nat) (t : mk_S) : Option (Unit × mk_S) := mk_gd t x0 11 (B_X12_movesRow_2 mk_fu x0 x1 (0 : Int32) t)
theorem o_X12_movesRow_2 : ∀ (n : Nat) (x0 : Nat) (x1 : Nat) (x2 : Int32) (t : mk_S), mk_O mk_wu M_X12_movesRow 2 [some (.ref x0), some (.ref x1), some (.int x2)] [] t (B_X12_movesRow_2 n x0 x1 x2 t) := by
  intro n
  induction n with
  | zero =>
    intro x0 x1 x2 t
    exact mk_O.none
  | succ n ih =>
    intro x0 x1 x2 t
    rw [B_X12_movesRow_2]
    refine xo_iload_n rfl rfl dX12_movesRow_2 ?_
    refine xo_aload_n rfl rfl dX12_movesRow_3 ?_
    refine xo_alen dX12_movesRow_4 (fun v1 => ?_)
    refine xo_icmp_ge (tgt := 24) dX12_movesRow_5 rfl (fun _ => ?_) (fun _ => ?_)
    · exact xo_vret dX12_movesRow_24 rfl
    · refine xo_aload_n rfl rfl dX12_movesRow_8 ?_
      refine xo_iload_n rfl rfl dX12_movesRow_9 ?_
      refine xo_aload_n rfl rfl dX12_movesRow_10 ?_
      refine xo_aload_n rfl rfl dX12_movesRow_11 ?_
      refine xo_iload_n rfl rfl dX12_movesRow_12 ?_
      refine xo_iald dX12_movesRow_13 (fun v2 => ?_)
      refine mk_O.callV (N := M_X12_moves) (ci := 11) (q := (RX12, TX12, 64)) (b := x0) (As1 := [.int v2]) (S := [.int x2, .ref x1]) md_X12_moves mv_X12_moves lk_RX12_417 rfl (Nat.le_of_ble_eq_true rfl) (by decide) dX12_movesRow_14 rfl rfl rfl (fun z hz => (c_X12_moves x0 v2 t z hz).1) (fun z hz => (c_X12_moves x0 v2 t z hz).2) (fun z3 _ => ?_)
      show mk_O _ _ _ _ (.int z3.1 :: [.int x2, .ref x1]) _ _
      refine xo_iast dX12_movesRow_17 (fun t4 => ?_)
      refine xo_iinc rfl (congrArg _ kc_1) (by decide) (mk_p1_v rfl rfl) dX12_movesRow_18 ?_
      refine xo_goto (tgt := 2) dX12_movesRow_21 rfl ?_
      exact mk_O.wk (ih x0 x1 (x2 + (1 : Int32)) t4) ⟨rfl, ⟨rfl, ⟨rfl, trivial⟩⟩⟩
theorem p_X12_movesRow (x0 : Nat) (x1 : Nat) (t : mk_S) : mk_O mk_wu M_X12_movesRow 0 [some (.ref x0), some (.ref x1), none] [] t (B_X12_movesRow_2 mk_fu x0 x1 (0 : Int32) t) := by
  refine xo_iconst kc_0 dX12_movesRow_0 ?_
  refine xo_istore_n rfl (by decide) (mk_p1_v rfl rfl) dX12_movesRow_1 ?_
  exact mk_O.wk (o_X12_movesRow_2 mk_fu x0 x1 (0 : Int32) t) ⟨rfl, ⟨rfl, ⟨rfl, trivial⟩⟩⟩
theorem c_X12_movesRow (x0 : Nat) (x1 : Nat) (t : mk_S) (z : Unit × mk_S) (h : F_X12_movesRow x0 x1 t = some z) : mk_is t x0 11 ∧ mk_Ct M_X12_movesRow [.ref x0, .ref x1] t (mk_wu z.1, z.2) :=
  ⟨(mk_gd_spec h).1, mk_ct (w := mk_wu) (by decide +kernel) (Nat.le_of_ble_eq_true rfl) (p_X12_movesRow x0 x1 t) z (mk_gd_spec h).2⟩
def F_X12_movesAll (x0 : Nat) (x1 : Int32) (x2 : Int32) (t : mk_S) : Option (Unit × mk_S) := mk_gd t x0 11 ((mk_pi t x0 11 51 ((72 : Int32) * x1)).bind fun t1 => (mk_pz t1 x0 11 52 x2).bind fun t2 => (mk_ga t2 x0 11 1).bind fun v3 => (mk_ga t2 x0 11 1).bind fun v4 => (mk_ld 100 t2 v4 (5 : Int32)).bind fun v5 => (F_X12_moves x0 v5 t2).bind fun z6 => (mk_st 100 z6.2 v3 (5 : Int32) z6.1).bind fun t7 => (mk_ga t7 x0 11 1).bind fun v8 => (mk_ga t7 x0 11 1).bind fun v9 => (mk_ld 100 t7 v9 (6 : Int32)).bind fun v10 => (F_X12_moves x0 v10 t7).bind fun z11 => (mk_st 100 z11.2 v8 (6 : Int32) z11.1).bind fun t12 => (mk_ga t12 x0 11 2).bind fun v13 => (F_X12_movesRow x0 v13 t12).bind fun z14 => (mk_ga z14.2 x0 11 3).bind fun v15 => (F_X12_movesRow x0 v15 z14.2).bind fun z16 => (mk_ga z16.2 x0 11 4).bind fun v17 => (F_X12_movesRow x0 v17 z16.2).bind fun z18 => (mk_ga z18.2 x0 11 5).bind fun v19 => (F_X12_movesRow x0 v19 z18.2).bind fun z20 => (mk_ga z20.2 x0 11 6).bind fun v21 => (F_X12_movesRow x0 v21 z20.2).bind fun z22 => (mk_ga z22.2 x0 11 7).bind fun v23 => (F_X12_movesRow x0 v23 z22.2).bind fun z24 => (mk_ga z24.2 x0 11 8).bind fun v25 => (F_X12_movesRow x0 v25 z24.2).bind fun z26 => some ((), z26.2))
theorem p_X12_movesAll (x0 : Nat) (x1 : Int32) (x2 : Int32) (t : mk_S) : mk_O mk_wu M_X12_movesAll 0 [some (.ref x0), some (.int x1), some (.int x2)] [] t ((mk_pi t x0 11 51 ((72 : Int32) * x1)).bind fun t1 => (mk_pz t1 x0 11 52 x2).bind fun t2 => (mk_ga t2 x0 11 1).bind fun v3 => (mk_ga t2 x0 11 1).bind fun v4 => (mk_ld 100 t2 v4 (5 : Int32)).bind fun v5 => (F_X12_moves x0 v5 t2).bind fun z6 => (mk_st 100 z6.2 v3 (5 : Int32) z6.1).bind fun t7 => (mk_ga t7 x0 11 1).bind fun v8 => (mk_ga t7 x0 11 1).bind fun v9 => (mk_ld 100 t7 v9 (6 : Int32)).bind fun v10 => (F_X12_moves x0 v10 t7).bind fun z11 => (mk_st 100 z11.2 v8 (6 : Int32) z11.1).bind fun t12 => (mk_ga t12 x0 11 2).bind fun v13 => (F_X12_movesRow x0 v13 t12).bind fun z14 => (mk_ga z14.2 x0 11 3).bind fun v15 => (F_X12_movesRow x0 v15 z14.2).bind fun z16 => (mk_ga z16.2 x0 11 4).bind fun v17 => (F_X12_movesRow x0 v17 z16.2).bind fun z18 => (mk_ga z18.2 x0 11 5).bind fun v19 => (F_X12_movesRow x0 v19 z18.2).bind fun z20 => (mk_ga z20.2 x0 11 6).bind fun v21 => (F_X12_movesRow x0 v21 z20.2).bind fun z22 => (mk_ga z22.2 x0 11 7).bind fun v23 => (F_X12_movesRow x0 v23 z22.2).bind fun z24 => (mk_ga z24.2 x0 11 8).bind fun v25 => (F_X12_movesRow x0 v25 z24.2).bind fun z26 => some ((), z26.2)) := by
  refine xo_aload_n rfl rfl dX12_movesAll_0 ?_
  refine xo_bipush kb_72 dX12_movesAll_1 ?_
  refine xo_iload_n rfl rfl dX12_movesAll_3 ?_
  refine xo_imul dX12_movesAll_4 ?_
  refine xo_puti dX12_movesAll_5 cl_11 fl_RX12_414 rfl ft_11_51 (fun t1 => ?_)
  refine xo_aload_n rfl rfl dX12_movesAll_8 ?_
  refine xo_iload_n rfl rfl dX12_movesAll_9 ?_
  refine xo_putz dX12_movesAll_10 cl_11 fl_RX12_410 rfl ft_11_52 (fun t2 => ?_)
  refine xo_aload_n rfl rfl dX12_movesAll_13 ?_
  refine xo_geta dX12_movesAll_14 cl_11 fl_RX12_9 rfl (fun v3 => ?_)
  refine xo_iconst kc_5 dX12_movesAll_17 ?_
  refine xo_aload_n rfl rfl dX12_movesAll_18 ?_
  refine xo_aload_n rfl rfl dX12_movesAll_19 ?_
  refine xo_geta dX12_movesAll_20 cl_11 fl_RX12_9 rfl (fun v4 => ?_)
  refine xo_iconst kc_5 dX12_movesAll_23 ?_
  refine xo_iald dX12_movesAll_24 (fun v5 => ?_)
  refine mk_O.callV (N := M_X12_moves) (ci := 11) (q := (RX12, TX12, 64)) (b := x0) (As1 := [.int v5]) (S := [.int (5 : Int32), .ref v3]) md_X12_moves mv_X12_moves lk_RX12_417 rfl (Nat.le_of_ble_eq_true rfl) (by decide) dX12_movesAll_25 rfl rfl rfl (fun z hz => (c_X12_moves x0 v5 t2 z hz).1) (fun z hz => (c_X12_moves x0 v5 t2 z hz).2) (fun z6 _ => ?_)
  show mk_O _ _ _ _ (.int z6.1 :: [.int (5 : Int32), .ref v3]) _ _
  refine xo_iast dX12_movesAll_28 (fun t7 => ?_)
  refine xo_aload_n rfl rfl dX12_movesAll_29 ?_
  refine xo_geta dX12_movesAll_30 cl_11 fl_RX12_9 rfl (fun v8 => ?_)
  refine xo_bipush kb_6 dX12_movesAll_33 ?_
  refine xo_aload_n rfl rfl dX12_movesAll_35 ?_
  refine xo_aload_n rfl rfl dX12_movesAll_36 ?_
  refine xo_geta dX12_movesAll_37 cl_11 fl_RX12_9 rfl (fun v9 => ?_)
  refine xo_bipush kb_6 dX12_movesAll_40 ?_
  refine xo_iald dX12_movesAll_42 (fun v10 => ?_)
  refine mk_O.callV (N := M_X12_moves) (ci := 11) (q := (RX12, TX12, 64)) (b := x0) (As1 := [.int v10]) (S := [.int (6 : Int32), .ref v8]) md_X12_moves mv_X12_moves lk_RX12_417 rfl (Nat.le_of_ble_eq_true rfl) (by decide) dX12_movesAll_43 rfl rfl rfl (fun z hz => (c_X12_moves x0 v10 t7 z hz).1) (fun z hz => (c_X12_moves x0 v10 t7 z hz).2) (fun z11 _ => ?_)
  show mk_O _ _ _ _ (.int z11.1 :: [.int (6 : Int32), .ref v8]) _ _
  refine xo_iast dX12_movesAll_46 (fun t12 => ?_)
  refine xo_aload_n rfl rfl dX12_movesAll_47 ?_
  refine xo_aload_n rfl rfl dX12_movesAll_48 ?_
  refine xo_geta dX12_movesAll_49 cl_11 fl_RX12_13 rfl (fun v13 => ?_)
  refine mk_O.callV (N := M_X12_movesRow) (ci := 11) (q := (RX12, TX12, 64)) (b := x0) (As1 := [.ref v13]) (S := []) md_X12_movesRow mv_X12_movesRow lk_RX12_420 rfl (Nat.le_of_ble_eq_true rfl) (by decide) dX12_movesAll_52 rfl rfl rfl (fun z hz => (c_X12_movesRow x0 v13 t12 z hz).1) (fun z hz => (c_X12_movesRow x0 v13 t12 z hz).2) (fun z14 _ => ?_)
  show mk_O _ _ _ _ [] _ _
  refine xo_aload_n rfl rfl dX12_movesAll_55 ?_
  refine xo_aload_n rfl rfl dX12_movesAll_56 ?_
  refine xo_geta dX12_movesAll_57 cl_11 fl_RX12_16 rfl (fun v15 => ?_)
  refine mk_O.callV (N := M_X12_movesRow) (ci := 11) (q := (RX12, TX12, 64)) (b := x0) (As1 := [.ref v15]) (S := []) md_X12_movesRow mv_X12_movesRow lk_RX12_420 rfl (Nat.le_of_ble_eq_true rfl) (by decide) dX12_movesAll_60 rfl rfl rfl (fun z hz => (c_X12_movesRow x0 v15 z14.2 z hz).1) (fun z hz => (c_X12_movesRow x0 v15 z14.2 z hz).2) (fun z16 _ => ?_)
  show mk_O _ _ _ _ [] _ _
  refine xo_aload_n rfl rfl dX12_movesAll_63 ?_
  refine xo_aload_n rfl rfl dX12_movesAll_64 ?_
  refine xo_geta dX12_movesAll_65 cl_11 fl_RX12_19 rfl (fun v17 => ?_)
  refine mk_O.callV (N := M_X12_movesRow) (ci := 11) (q := (RX12, TX12, 64)) (b := x0) (As1 := [.ref v17]) (S := []) md_X12_movesRow mv_X12_movesRow lk_RX12_420 rfl (Nat.le_of_ble_eq_true rfl) (by decide) dX12_movesAll_68 rfl rfl rfl (fun z hz => (c_X12_movesRow x0 v17 z16.2 z hz).1) (fun z hz => (c_X12_movesRow x0 v17 z16.2 z hz).2) (fun z18 _ => ?_)
  show mk_O _ _ _ _ [] _ _
  refine xo_aload_n rfl rfl dX12_movesAll_71 ?_
  refine xo_aload_n rfl rfl dX12_movesAll_72 ?_
  refine xo_geta dX12_movesAll_73 cl_11 fl_RX12_22 rfl (fun v19 => ?_)
  refine mk_O.callV (N := M_X12_movesRow) (ci := 11) (q := (RX12, TX12, 64)) (b := x0) (As1 := [.ref v19]) (S := []) md_X12_movesRow mv_X12_movesRow lk_RX12_420 rfl (Nat.le_of_ble_eq_true rfl) (by decide) dX12_movesAll_76 rfl rfl rfl (fun z hz => (c_X12_movesRow x0 v19 z18.2 z hz).1) (fun z hz => (c_X12_movesRow x0 v19 z18.2 z hz).2) (fun z20 _ => ?_)
  show mk_O _ _ _ _ [] _ _
  refine xo_aload_n rfl rfl dX12_movesAll_79 ?_
  refine xo_aload_n rfl rfl dX12_movesAll_80 ?_
  refine xo_geta dX12_movesAll_81 cl_11 fl_RX12_25 rfl (fun v21 => ?_)
  refine mk_O.callV (N := M_X12_movesRow) (ci := 11) (q := (RX12, TX12, 64)) (b := x0) (As1 := [.ref v21]) (S := []) md_X12_movesRow mv_X12_movesRow lk_RX12_420 rfl (Nat.le_of_ble_eq_true rfl) (by decide) dX12_movesAll_84 rfl rfl rfl (fun z hz => (c_X12_movesRow x0 v21 z20.2 z hz).1) (fun z hz => (c_X12_movesRow x0 v21 z20.2 z hz).2) (fun z22 _ => ?_)
  show mk_O _ _ _ _ [] _ _
  refine xo_aload_n rfl rfl dX12_movesAll_87 ?_
  refine xo_aload_n rfl rfl dX12_movesAll_88 ?_
  refine xo_geta dX12_movesAll_89 cl_11 fl_RX12_28 rfl (fun v23 => ?_)
  refine mk_O.callV (N := M_X12_movesRow) (ci := 11) (q := (RX12, TX12, 64)) (b := x0) (As1 := [.ref v23]) (S := []) md_X12_movesRow mv_X12_movesRow lk_RX12_420 rfl (Nat.le_of_ble_eq_true rfl) (by decide) dX12_movesAll_92 rfl rfl rfl (fun z hz => (c_X12_movesRow x0 v23 z22.2 z hz).1) (fun z hz => (c_X12_movesRow x0 v23 z22.2 z hz).2) (fun z24 _ => ?_)
  show mk_O _ _ _ _ [] _ _
  refine xo_aload_n rfl rfl dX12_movesAll_95 ?_
  refine xo_aload_n rfl rfl dX12_movesAll_96 ?_
  refine xo_geta dX12_movesAll_97 cl_11 fl_RX12_31 rfl (fun v25 => ?_)
  refine mk_O.callV (N := M_X12_movesRow) (ci := 11) (q := (RX12, TX12, 64)) (b := x0) (As1 := [.ref v25]) (S := []) md_X12_movesRow mv_X12_movesRow lk_RX12_420 rfl (Nat.le_of_ble_eq_true rfl) (by decide) dX12_movesAll_100 rfl rfl rfl (fun z hz => (c_X12_movesRow x0 v25 z24.2 z hz).1) (fun z hz => (c_X12_movesRow x0 v25 z24.2 z hz).2) (fun z26 _ => ?_)
  show mk_O _ _ _ _ [] _ _
  exact xo_vret dX12_movesAll_103 rfl
theorem c_X12_movesAll (x0 : Nat) (x1 : Int32) (x2 : Int32) (t : mk_S) (z : Unit × mk_S) (h : F_X12_movesAll x0 x1 x2 t = some z) : mk_is t x0 11 ∧ mk_Ct M_X12_movesAll [.ref x0, .int x1, .int x2] t (mk_wu z.1, z.2) :=
  ⟨(mk_gd_spec h).1, mk_ct (w := mk_wu) (by decide +kernel) (Nat.le_of_ble_eq_true rfl) (p_X12_movesAll x0 x1 x2 t) z (mk_gd_spec h).2⟩
def B_X12_keepsAct_50 (x0 : Nat) (t : mk_S) : Option (Unit × mk_S) := (mk_gi t x0 11 50).bind fun v1 => (F_X12_movesAll x0 v1 (0 : Int32) t).bind fun z2 => (mk_gi z2.2 x0 11 50).bind fun v3 => (mk_pi z2.2 x0 11 50 (v3 + (1 : Int32))).bind fun t4 => some ((), t4)
def B_X12_keepsAct_12 : Nat → Nat → Int32 → mk_S → Option (Unit × mk_S)
  | 0, _, _, _ => none
  | n + 1, x0, x1, t => if (1440 : Int32) ≤ x1 then ((mk_gi t x0 11 50).bind fun v1 => (mk_pi t x0 11 50 (v1 - (1 : Int32))).bind fun t2 => B_X12_keepsAct_50 x0 t2) else ((mk_ga t x0 11 48).bind fun v3 => (mk_ga t x0 11 48).bind fun v4 => (mk_ld 100 t v4 x1).bind fun v5 => (mk_st 100 t v3 (x1 - (72 : Int32)) v5).bind fun t6 => B_X12_keepsAct_12 n x0 (x1 + (1 : Int32)) t6)
def F_X12_keepsAct (x0 : Nat) (t : mk_S) : Option (Unit × mk_S) := mk_gd t x0 11 ((mk_gi t x0 11 50).bind fun v1 => if v1 = (20 : Int32) then (B_X12_keepsAct_12 mk_fu x0 (72 : Int32) t) else (B_X12_keepsAct_50 x0 t))
theorem o_X12_keepsAct_50 (x0 : Nat) (t : mk_S) : mk_O mk_wu M_X12_keepsAct 50 [some (.ref x0), none] [] t (B_X12_keepsAct_50 x0 t) := by
  unfold B_X12_keepsAct_50
  refine xo_aload_n rfl rfl dX12_keepsAct_50 ?_
  refine xo_aload_n rfl rfl dX12_keepsAct_51 ?_
  refine xo_geti dX12_keepsAct_52 cl_11 fl_RX12_325 rfl (fun v1 => ?_)
  refine xo_iconst kc_0 dX12_keepsAct_55 ?_
  refine mk_O.callV (N := M_X12_movesAll) (ci := 11) (q := (RX12, TX12, 64)) (b := x0) (As1 := [.int v1, .int (0 : Int32)]) (S := []) md_X12_movesAll mv_X12_movesAll lk_RX12_424 rfl (Nat.le_of_ble_eq_true rfl) (by decide) dX12_keepsAct_56 rfl rfl rfl (fun z hz => (c_X12_movesAll x0 v1 (0 : Int32) t z hz).1) (fun z hz => (c_X12_movesAll x0 v1 (0 : Int32) t z hz).2) (fun z2 _ => ?_)
  show mk_O _ _ _ _ [] _ _
  refine xo_aload_n rfl rfl dX12_keepsAct_59 ?_
  refine xo_dup rfl dX12_keepsAct_60 ?_
  refine xo_geti dX12_keepsAct_61 cl_11 fl_RX12_325 rfl (fun v3 => ?_)
  refine xo_iconst kc_1 dX12_keepsAct_64 ?_
  refine xo_iadd dX12_keepsAct_65 ?_
  refine xo_puti dX12_keepsAct_66 cl_11 fl_RX12_325 rfl ft_11_50 (fun t4 => ?_)
  exact xo_vret dX12_keepsAct_69 rfl
theorem o_X12_keepsAct_12 : ∀ (n : Nat) (x0 : Nat) (x1 : Int32) (t : mk_S), mk_O mk_wu M_X12_keepsAct 12 [some (.ref x0), some (.int x1)] [] t (B_X12_keepsAct_12 n x0 x1 t) := by
  intro n
  induction n with
  | zero =>
    intro x0 x1 t
    exact mk_O.none
  | succ n ih =>
    intro x0 x1 t
    rw [B_X12_keepsAct_12]
    refine xo_iload_n rfl rfl dX12_keepsAct_12 ?_
    refine xo_sipush ks_1440 dX12_keepsAct_13 ?_
    refine xo_icmp_ge (tgt := 40) dX12_keepsAct_16 rfl (fun _ => ?_) (fun _ => ?_)
    · refine xo_aload_n rfl rfl dX12_keepsAct_40 ?_
      refine xo_dup rfl dX12_keepsAct_41 ?_
      refine xo_geti dX12_keepsAct_42 cl_11 fl_RX12_325 rfl (fun v1 => ?_)
      refine xo_iconst kc_1 dX12_keepsAct_45 ?_
      refine xo_isub dX12_keepsAct_46 ?_
      refine xo_puti dX12_keepsAct_47 cl_11 fl_RX12_325 rfl ft_11_50 (fun t2 => ?_)
      exact mk_O.wk (o_X12_keepsAct_50 x0 t2) ⟨rfl, trivial⟩
    · refine xo_aload_n rfl rfl dX12_keepsAct_19 ?_
      refine xo_geta dX12_keepsAct_20 cl_11 fl_RX12_127 rfl (fun v3 => ?_)
      refine xo_iload_n rfl rfl dX12_keepsAct_23 ?_
      refine xo_bipush kb_72 dX12_keepsAct_24 ?_
      refine xo_isub dX12_keepsAct_26 ?_
      refine xo_aload_n rfl rfl dX12_keepsAct_27 ?_
      refine xo_geta dX12_keepsAct_28 cl_11 fl_RX12_127 rfl (fun v4 => ?_)
      refine xo_iload_n rfl rfl dX12_keepsAct_31 ?_
      refine xo_iald dX12_keepsAct_32 (fun v5 => ?_)
      refine xo_iast dX12_keepsAct_33 (fun t6 => ?_)
      refine xo_iinc rfl (congrArg _ kc_1) (by decide) (mk_p1_v rfl rfl) dX12_keepsAct_34 ?_
      refine xo_goto (tgt := 12) dX12_keepsAct_37 rfl ?_
      exact mk_O.wk (ih x0 (x1 + (1 : Int32)) t6) ⟨rfl, ⟨rfl, trivial⟩⟩
theorem p_X12_keepsAct (x0 : Nat) (t : mk_S) : mk_O mk_wu M_X12_keepsAct 0 [some (.ref x0), none] [] t ((mk_gi t x0 11 50).bind fun v1 => if v1 = (20 : Int32) then (B_X12_keepsAct_12 mk_fu x0 (72 : Int32) t) else (B_X12_keepsAct_50 x0 t)) := by
  refine xo_aload_n rfl rfl dX12_keepsAct_0 ?_
  refine xo_geti dX12_keepsAct_1 cl_11 fl_RX12_325 rfl (fun v1 => ?_)
  refine xo_bipush kb_20 dX12_keepsAct_4 ?_
  refine xo_icmp_ne (tgt := 50) dX12_keepsAct_6 rfl (fun _ => ?_) (fun _ => ?_)
  · refine xo_bipush kb_72 dX12_keepsAct_9 ?_
    refine xo_istore_n rfl (by decide) (mk_p1_v rfl rfl) dX12_keepsAct_11 ?_
    exact mk_O.wk (o_X12_keepsAct_12 mk_fu x0 (72 : Int32) t) ⟨rfl, ⟨rfl, trivial⟩⟩
  · exact mk_O.wk (o_X12_keepsAct_50 x0 t) ⟨rfl, trivial⟩
theorem c_X12_keepsAct (x0 : Nat) (t : mk_S) (z : Unit × mk_S) (h : F_X12_keepsAct x0 t = some z) : mk_is t x0 11 ∧ mk_Ct M_X12_keepsAct [.ref x0] t (mk_wu z.1, z.2) :=
  ⟨(mk_gd_spec h).1, mk_ct (w := mk_wu) (by decide +kernel) (Nat.le_of_ble_eq_true rfl) (p_X12_keepsAct x0 t) z (mk_gd_spec h).2⟩
def F_X12_undo (x0 : Nat) (t : mk_S) : Option (Int32 × mk_S) := mk_gd t x0 11 ((mk_gi t x0 11 50).bind fun v1 => if v1 = 0 then (some ((-2 : Int32), t)) else ((mk_gi t x0 11 50).bind fun v2 => (mk_pi t x0 11 50 (v2 - (1 : Int32))).bind fun t3 => (mk_gi t3 x0 11 50).bind fun v4 => (F_X12_movesAll x0 v4 (1 : Int32) t3).bind fun z5 => (mk_gi z5.2 x0 11 50).bind fun v6 => some (v6, z5.2)))
theorem p_X12_undo (x0 : Nat) (t : mk_S) : mk_O mk_wi M_X12_undo 0 [some (.ref x0)] [] t ((mk_gi t x0 11 50).bind fun v1 => if v1 = 0 then (some ((-2 : Int32), t)) else ((mk_gi t x0 11 50).bind fun v2 => (mk_pi t x0 11 50 (v2 - (1 : Int32))).bind fun t3 => (mk_gi t3 x0 11 50).bind fun v4 => (F_X12_movesAll x0 v4 (1 : Int32) t3).bind fun z5 => (mk_gi z5.2 x0 11 50).bind fun v6 => some (v6, z5.2))) := by
  refine xo_aload_n rfl rfl dX12_undo_0 ?_
  refine xo_geti dX12_undo_1 cl_11 fl_RX12_325 rfl (fun v1 => ?_)
  refine xo_if_ne (tgt := 10) dX12_undo_4 rfl (fun _ => ?_) (fun _ => ?_)
  · refine xo_bipush kb_m2 dX12_undo_7 ?_
    exact xo_iret dX12_undo_9 rfl
  · refine xo_aload_n rfl rfl dX12_undo_10 ?_
    refine xo_dup rfl dX12_undo_11 ?_
    refine xo_geti dX12_undo_12 cl_11 fl_RX12_325 rfl (fun v2 => ?_)
    refine xo_iconst kc_1 dX12_undo_15 ?_
    refine xo_isub dX12_undo_16 ?_
    refine xo_puti dX12_undo_17 cl_11 fl_RX12_325 rfl ft_11_50 (fun t3 => ?_)
    refine xo_aload_n rfl rfl dX12_undo_20 ?_
    refine xo_aload_n rfl rfl dX12_undo_21 ?_
    refine xo_geti dX12_undo_22 cl_11 fl_RX12_325 rfl (fun v4 => ?_)
    refine xo_iconst kc_1 dX12_undo_25 ?_
    refine mk_O.callV (N := M_X12_movesAll) (ci := 11) (q := (RX12, TX12, 64)) (b := x0) (As1 := [.int v4, .int (1 : Int32)]) (S := []) md_X12_movesAll mv_X12_movesAll lk_RX12_424 rfl (Nat.le_of_ble_eq_true rfl) (by decide) dX12_undo_26 rfl rfl rfl (fun z hz => (c_X12_movesAll x0 v4 (1 : Int32) t3 z hz).1) (fun z hz => (c_X12_movesAll x0 v4 (1 : Int32) t3 z hz).2) (fun z5 _ => ?_)
    show mk_O _ _ _ _ [] _ _
    refine xo_aload_n rfl rfl dX12_undo_29 ?_
    refine xo_geti dX12_undo_30 cl_11 fl_RX12_325 rfl (fun v6 => ?_)
    exact xo_iret dX12_undo_33 rfl
theorem c_X12_undo (x0 : Nat) (t : mk_S) (z : Int32 × mk_S) (h : F_X12_undo x0 t = some z) : mk_is t x0 11 ∧ mk_Ct M_X12_undo [.ref x0] t (mk_wi z.1, z.2) :=
  ⟨(mk_gd_spec h).1, mk_ct (w := mk_wi) (by decide +kernel) (Nat.le_of_ble_eq_true rfl) (p_X12_undo x0 t) z (mk_gd_spec h).2⟩
def F_X12_hour (x0 : Nat) (t : mk_S) : Option (Int32 × mk_S) := mk_gd t x0 11 ((F_X12_isPlateau x0 t).bind fun z1 => if z1.1 = 0 then (some ((-1 : Int32), z1.2)) else ((mk_ga z1.2 x0 11 1).bind fun v2 => (mk_ld 100 z1.2 v2 (5 : Int32)).bind fun v3 => if v3 = (999 : Int32) then (some ((-1 : Int32), z1.2)) else ((F_X12_keepsAct x0 z1.2).bind fun z4 => (F_X12_goes x0 z4.2).bind fun z5 => some (z5.1, z5.2))))
theorem p_X12_hour (x0 : Nat) (t : mk_S) : mk_O mk_wi M_X12_hour 0 [some (.ref x0)] [] t ((F_X12_isPlateau x0 t).bind fun z1 => if z1.1 = 0 then (some ((-1 : Int32), z1.2)) else ((mk_ga z1.2 x0 11 1).bind fun v2 => (mk_ld 100 z1.2 v2 (5 : Int32)).bind fun v3 => if v3 = (999 : Int32) then (some ((-1 : Int32), z1.2)) else ((F_X12_keepsAct x0 z1.2).bind fun z4 => (F_X12_goes x0 z4.2).bind fun z5 => some (z5.1, z5.2)))) := by
  refine xo_aload_n rfl rfl dX12_hour_0 ?_
  refine mk_O.callV (N := M_X12_isPlateau) (ci := 11) (q := (RX12, TX12, 64)) (b := x0) (As1 := []) (S := []) md_X12_isPlateau mv_X12_isPlateau lk_RX12_428 rfl (Nat.le_of_ble_eq_true rfl) (by decide) dX12_hour_1 rfl rfl rfl (fun z hz => (c_X12_isPlateau x0 t z hz).1) (fun z hz => (c_X12_isPlateau x0 t z hz).2) (fun z1 _ => ?_)
  show mk_O _ _ _ _ (.int z1.1 :: []) _ _
  refine xo_if_eq (tgt := 19) dX12_hour_4 rfl (fun _ => ?_) (fun _ => ?_)
  · refine xo_iconst kc_m1 dX12_hour_19 ?_
    exact xo_iret dX12_hour_20 rfl
  · refine xo_aload_n rfl rfl dX12_hour_7 ?_
    refine xo_geta dX12_hour_8 cl_11 fl_RX12_9 rfl (fun v2 => ?_)
    refine xo_iconst kc_5 dX12_hour_11 ?_
    refine xo_iald dX12_hour_12 (fun v3 => ?_)
    refine xo_sipush ks_999 dX12_hour_13 ?_
    refine xo_icmp_ne (tgt := 21) dX12_hour_16 rfl (fun _ => ?_) (fun _ => ?_)
    · refine xo_iconst kc_m1 dX12_hour_19 ?_
      exact xo_iret dX12_hour_20 rfl
    · refine xo_aload_n rfl rfl dX12_hour_21 ?_
      refine mk_O.callV (N := M_X12_keepsAct) (ci := 11) (q := (RX12, TX12, 64)) (b := x0) (As1 := []) (S := []) md_X12_keepsAct mv_X12_keepsAct lk_RX12_431 rfl (Nat.le_of_ble_eq_true rfl) (by decide) dX12_hour_22 rfl rfl rfl (fun z hz => (c_X12_keepsAct x0 z1.2 z hz).1) (fun z hz => (c_X12_keepsAct x0 z1.2 z hz).2) (fun z4 _ => ?_)
      show mk_O _ _ _ _ [] _ _
      refine xo_aload_n rfl rfl dX12_hour_25 ?_
      refine mk_O.callV (N := M_X12_goes) (ci := 11) (q := (RX12, TX12, 64)) (b := x0) (As1 := []) (S := []) md_X12_goes mv_X12_goes lk_RX12_407 rfl (Nat.le_of_ble_eq_true rfl) (by decide) dX12_hour_26 rfl rfl rfl (fun z hz => (c_X12_goes x0 z4.2 z hz).1) (fun z hz => (c_X12_goes x0 z4.2 z hz).2) (fun z5 _ => ?_)
      show mk_O _ _ _ _ (.int z5.1 :: []) _ _
      exact xo_iret dX12_hour_29 rfl
theorem c_X12_hour (x0 : Nat) (t : mk_S) (z : Int32 × mk_S) (h : F_X12_hour x0 t = some z) : mk_is t x0 11 ∧ mk_Ct M_X12_hour [.ref x0] t (mk_wi z.1, z.2) :=
  ⟨(mk_gd_spec h).1, mk_ct (w := mk_wi) (by decide +kernel) (Nat.le_of_ble_eq_true rfl) (p_X12_hour x0 t) z (mk_gd_spec h).2⟩
def F_X12_wine (x0 : Nat) (x1 : Int32) (x2 : Int32) (t : mk_S) : Option (Int32 × mk_S) := mk_gd t x0 11 ((F_X12_isPerson x0 x1 t).bind fun z1 => if z1.1 = 0 then (some ((-1 : Int32), z1.2)) else ((F_X12_in ((x2).toInt64) (1 : Int64) (9 : Int64) z1.2).bind fun z2 => if z2.1 = 0 then (some ((-1 : Int32), z2.2)) else ((F_X12_keepsAct x0 z2.2).bind fun z3 => (mk_ga z3.2 x0 11 4).bind fun v4 => (mk_ga z3.2 x0 11 4).bind fun v5 => (mk_ld 100 z3.2 v5 x1).bind fun v6 => (F_X12_upTo (v6 + x2) (99 : Int32) z3.2).bind fun z7 => (mk_st 100 z7.2 v4 x1 z7.1).bind fun t8 => (mk_ga t8 x0 11 4).bind fun v9 => (mk_ld 100 t8 v9 x1).bind fun v10 => some (v10, t8))))
theorem p_X12_wine (x0 : Nat) (x1 : Int32) (x2 : Int32) (t : mk_S) : mk_O mk_wi M_X12_wine 0 [some (.ref x0), some (.int x1), some (.int x2)] [] t ((F_X12_isPerson x0 x1 t).bind fun z1 => if z1.1 = 0 then (some ((-1 : Int32), z1.2)) else ((F_X12_in ((x2).toInt64) (1 : Int64) (9 : Int64) z1.2).bind fun z2 => if z2.1 = 0 then (some ((-1 : Int32), z2.2)) else ((F_X12_keepsAct x0 z2.2).bind fun z3 => (mk_ga z3.2 x0 11 4).bind fun v4 => (mk_ga z3.2 x0 11 4).bind fun v5 => (mk_ld 100 z3.2 v5 x1).bind fun v6 => (F_X12_upTo (v6 + x2) (99 : Int32) z3.2).bind fun z7 => (mk_st 100 z7.2 v4 x1 z7.1).bind fun t8 => (mk_ga t8 x0 11 4).bind fun v9 => (mk_ld 100 t8 v9 x1).bind fun v10 => some (v10, t8)))) := by
  refine xo_aload_n rfl rfl dX12_wine_0 ?_
  refine xo_iload_n rfl rfl dX12_wine_1 ?_
  refine mk_O.callV (N := M_X12_isPerson) (ci := 11) (q := (RX12, TX12, 64)) (b := x0) (As1 := [.int x1]) (S := []) md_X12_isPerson mv_X12_isPerson lk_RX12_358 rfl (Nat.le_of_ble_eq_true rfl) (by decide) dX12_wine_2 rfl rfl rfl (fun z hz => (c_X12_isPerson x0 x1 t z hz).1) (fun z hz => (c_X12_isPerson x0 x1 t z hz).2) (fun z1 _ => ?_)
  show mk_O _ _ _ _ (.int z1.1 :: []) _ _
  refine xo_if_eq (tgt := 20) dX12_wine_5 rfl (fun _ => ?_) (fun _ => ?_)
  · refine xo_iconst kc_m1 dX12_wine_20 ?_
    exact xo_iret dX12_wine_21 rfl
  · refine xo_iload_n rfl rfl dX12_wine_8 ?_
    refine xo_i2l dX12_wine_9 ?_
    refine xo_lconst kl_1 dX12_wine_10 ?_
    refine xo_ldc2 (v := 9) (mk_w7 (i := 174) rfl rfl) dX12_wine_11 ?_
    refine mk_O.callS (N := M_X12_in) (As := [.long ((x2).toInt64), .long (1 : Int64), .long (9 : Int64)]) (S := []) md_X12_in ms_X12_in lk_RX12_159 rfl (Nat.le_of_ble_eq_true rfl) (by decide) dX12_wine_14 rfl (fun z hz => c_X12_in ((x2).toInt64) (1 : Int64) (9 : Int64) z1.2 z hz) (fun z2 _ => ?_)
    show mk_O _ _ _ _ (.int z2.1 :: []) _ _
    refine xo_if_ne (tgt := 22) dX12_wine_17 rfl (fun _ => ?_) (fun _ => ?_)
    · refine xo_iconst kc_m1 dX12_wine_20 ?_
      exact xo_iret dX12_wine_21 rfl
    · refine xo_aload_n rfl rfl dX12_wine_22 ?_
      refine mk_O.callV (N := M_X12_keepsAct) (ci := 11) (q := (RX12, TX12, 64)) (b := x0) (As1 := []) (S := []) md_X12_keepsAct mv_X12_keepsAct lk_RX12_431 rfl (Nat.le_of_ble_eq_true rfl) (by decide) dX12_wine_23 rfl rfl rfl (fun z hz => (c_X12_keepsAct x0 z2.2 z hz).1) (fun z hz => (c_X12_keepsAct x0 z2.2 z hz).2) (fun z3 _ => ?_)
      show mk_O _ _ _ _ [] _ _
      refine xo_aload_n rfl rfl dX12_wine_26 ?_
      refine xo_geta dX12_wine_27 cl_11 fl_RX12_19 rfl (fun v4 => ?_)
      refine xo_iload_n rfl rfl dX12_wine_30 ?_
      refine xo_aload_n rfl rfl dX12_wine_31 ?_
      refine xo_geta dX12_wine_32 cl_11 fl_RX12_19 rfl (fun v5 => ?_)
      refine xo_iload_n rfl rfl dX12_wine_35 ?_
      refine xo_iald dX12_wine_36 (fun v6 => ?_)
      refine xo_iload_n rfl rfl dX12_wine_37 ?_
      refine xo_iadd dX12_wine_38 ?_
      refine xo_bipush kb_99 dX12_wine_39 ?_
      refine mk_O.callS (N := M_X12_upTo) (As := [.int (v6 + x2), .int (99 : Int32)]) (S := [.int x1, .ref v4]) md_X12_upTo ms_X12_upTo lk_RX12_395 rfl (Nat.le_of_ble_eq_true rfl) (by decide) dX12_wine_41 rfl (fun z hz => c_X12_upTo (v6 + x2) (99 : Int32) z3.2 z hz) (fun z7 _ => ?_)
      show mk_O _ _ _ _ (.int z7.1 :: [.int x1, .ref v4]) _ _
      refine xo_iast dX12_wine_44 (fun t8 => ?_)
      refine xo_aload_n rfl rfl dX12_wine_45 ?_
      refine xo_geta dX12_wine_46 cl_11 fl_RX12_19 rfl (fun v9 => ?_)
      refine xo_iload_n rfl rfl dX12_wine_49 ?_
      refine xo_iald dX12_wine_50 (fun v10 => ?_)
      exact xo_iret dX12_wine_51 rfl
theorem c_X12_wine (x0 : Nat) (x1 : Int32) (x2 : Int32) (t : mk_S) (z : Int32 × mk_S) (h : F_X12_wine x0 x1 x2 t = some z) : mk_is t x0 11 ∧ mk_Ct M_X12_wine [.ref x0, .int x1, .int x2] t (mk_wi z.1, z.2) :=
  ⟨(mk_gd_spec h).1, mk_ct (w := mk_wi) (by decide +kernel) (Nat.le_of_ble_eq_true rfl) (p_X12_wine x0 x1 x2 t) z (mk_gd_spec h).2⟩
def F_X12_place (x0 : Nat) (x1 : Int32) (x2 : Int32) (t : mk_S) : Option (Int32 × mk_S) := mk_gd t x0 11 ((F_X12_isPerson x0 x1 t).bind fun z1 => if z1.1 = 0 then (some ((-1 : Int32), z1.2)) else ((F_X12_isCell x0 x2 z1.2).bind fun z2 => if z2.1 = 0 then (some ((-1 : Int32), z2.2)) else ((mk_ga z2.2 x0 11 2).bind fun v3 => (mk_ld 100 z2.2 v3 x1).bind fun v4 => if v4 = x2 then (some ((-1 : Int32), z2.2)) else ((F_X12_keepsAct x0 z2.2).bind fun z5 => (mk_ga z5.2 x0 11 2).bind fun v6 => (mk_ld 100 z5.2 v6 x1).bind fun v7 => (mk_ga z5.2 x0 11 2).bind fun v8 => (mk_st 100 z5.2 v8 x1 x2).bind fun t9 => some (v7, t9)))))
theorem p_X12_place (x0 : Nat) (x1 : Int32) (x2 : Int32) (t : mk_S) : mk_O mk_wi M_X12_place 0 [some (.ref x0), some (.int x1), some (.int x2), none] [] t ((F_X12_isPerson x0 x1 t).bind fun z1 => if z1.1 = 0 then (some ((-1 : Int32), z1.2)) else ((F_X12_isCell x0 x2 z1.2).bind fun z2 => if z2.1 = 0 then (some ((-1 : Int32), z2.2)) else ((mk_ga z2.2 x0 11 2).bind fun v3 => (mk_ld 100 z2.2 v3 x1).bind fun v4 => if v4 = x2 then (some ((-1 : Int32), z2.2)) else ((F_X12_keepsAct x0 z2.2).bind fun z5 => (mk_ga z5.2 x0 11 2).bind fun v6 => (mk_ld 100 z5.2 v6 x1).bind fun v7 => (mk_ga z5.2 x0 11 2).bind fun v8 => (mk_st 100 z5.2 v8 x1 x2).bind fun t9 => some (v7, t9))))) := by
  refine xo_aload_n rfl rfl dX12_place_0 ?_
  refine xo_iload_n rfl rfl dX12_place_1 ?_
  refine mk_O.callV (N := M_X12_isPerson) (ci := 11) (q := (RX12, TX12, 64)) (b := x0) (As1 := [.int x1]) (S := []) md_X12_isPerson mv_X12_isPerson lk_RX12_358 rfl (Nat.le_of_ble_eq_true rfl) (by decide) dX12_place_2 rfl rfl rfl (fun z hz => (c_X12_isPerson x0 x1 t z hz).1) (fun z hz => (c_X12_isPerson x0 x1 t z hz).2) (fun z1 _ => ?_)
  show mk_O _ _ _ _ (.int z1.1 :: []) _ _
  refine xo_if_eq (tgt := 26) dX12_place_5 rfl (fun _ => ?_) (fun _ => ?_)
  · refine xo_iconst kc_m1 dX12_place_26 ?_
    exact xo_iret dX12_place_27 rfl
  · refine xo_aload_n rfl rfl dX12_place_8 ?_
    refine xo_iload_n rfl rfl dX12_place_9 ?_
    refine mk_O.callV (N := M_X12_isCell) (ci := 11) (q := (RX12, TX12, 64)) (b := x0) (As1 := [.int x2]) (S := []) md_X12_isCell mv_X12_isCell lk_RX12_373 rfl (Nat.le_of_ble_eq_true rfl) (by decide) dX12_place_10 rfl rfl rfl (fun z hz => (c_X12_isCell x0 x2 z1.2 z hz).1) (fun z hz => (c_X12_isCell x0 x2 z1.2 z hz).2) (fun z2 _ => ?_)
    show mk_O _ _ _ _ (.int z2.1 :: []) _ _
    refine xo_if_eq (tgt := 26) dX12_place_13 rfl (fun _ => ?_) (fun _ => ?_)
    · refine xo_iconst kc_m1 dX12_place_26 ?_
      exact xo_iret dX12_place_27 rfl
    · refine xo_aload_n rfl rfl dX12_place_16 ?_
      refine xo_geta dX12_place_17 cl_11 fl_RX12_13 rfl (fun v3 => ?_)
      refine xo_iload_n rfl rfl dX12_place_20 ?_
      refine xo_iald dX12_place_21 (fun v4 => ?_)
      refine xo_iload_n rfl rfl dX12_place_22 ?_
      refine xo_icmp_ne (tgt := 28) dX12_place_23 rfl (fun _ => ?_) (fun _ => ?_)
      · refine xo_iconst kc_m1 dX12_place_26 ?_
        exact xo_iret dX12_place_27 rfl
      · refine xo_aload_n rfl rfl dX12_place_28 ?_
        refine mk_O.callV (N := M_X12_keepsAct) (ci := 11) (q := (RX12, TX12, 64)) (b := x0) (As1 := []) (S := []) md_X12_keepsAct mv_X12_keepsAct lk_RX12_431 rfl (Nat.le_of_ble_eq_true rfl) (by decide) dX12_place_29 rfl rfl rfl (fun z hz => (c_X12_keepsAct x0 z2.2 z hz).1) (fun z hz => (c_X12_keepsAct x0 z2.2 z hz).2) (fun z5 _ => ?_)
        show mk_O _ _ _ _ [] _ _
        refine xo_aload_n rfl rfl dX12_place_32 ?_
        refine xo_geta dX12_place_33 cl_11 fl_RX12_13 rfl (fun v6 => ?_)
        refine xo_iload_n rfl rfl dX12_place_36 ?_
        refine xo_iald dX12_place_37 (fun v7 => ?_)
        refine xo_istore_n rfl (by decide) (mk_p1_v rfl rfl) dX12_place_38 ?_
        refine xo_aload_n rfl rfl dX12_place_39 ?_
        refine xo_geta dX12_place_40 cl_11 fl_RX12_13 rfl (fun v8 => ?_)
        refine xo_iload_n rfl rfl dX12_place_43 ?_
        refine xo_iload_n rfl rfl dX12_place_44 ?_
        refine xo_iast dX12_place_45 (fun t9 => ?_)
        refine xo_iload_n rfl rfl dX12_place_46 ?_
        exact xo_iret dX12_place_47 rfl
theorem c_X12_place (x0 : Nat) (x1 : Int32) (x2 : Int32) (t : mk_S) (z : Int32 × mk_S) (h : F_X12_place x0 x1 x2 t = some z) : mk_is t x0 11 ∧ mk_Ct M_X12_place [.ref x0, .int x1, .int x2] t (mk_wi z.1, z.2) :=
  ⟨(mk_gd_spec h).1, mk_ct (w := mk_wi) (by decide +kernel) (Nat.le_of_ble_eq_true rfl) (p_X12_place x0 x1 x2 t) z (mk_gd_spec h).2⟩
def F_X12_face (x0 : Nat) (x1 : Int32) (x2 : Int32) (t : mk_S) : Option (Int32 × mk_S) := mk_gd t x0 11 ((F_X12_isPerson x0 x1 t).bind fun z1 => if z1.1 = 0 then (some ((-1 : Int32), z1.2)) else ((F_X12_in ((x2).toInt64) (0 : Int64) (3 : Int64) z1.2).bind fun z2 => if z2.1 = 0 then (some ((-1 : Int32), z2.2)) else ((mk_ga z2.2 x0 11 3).bind fun v3 => (mk_ld 100 z2.2 v3 x1).bind fun v4 => if v4 = x2 then (some ((-1 : Int32), z2.2)) else ((F_X12_keepsAct x0 z2.2).bind fun z5 => (mk_ga z5.2 x0 11 3).bind fun v6 => (mk_ld 100 z5.2 v6 x1).bind fun v7 => (mk_ga z5.2 x0 11 3).bind fun v8 => (mk_st 100 z5.2 v8 x1 x2).bind fun t9 => some (v7, t9)))))
theorem p_X12_face (x0 : Nat) (x1 : Int32) (x2 : Int32) (t : mk_S) : mk_O mk_wi M_X12_face 0 [some (.ref x0), some (.int x1), some (.int x2), none] [] t ((F_X12_isPerson x0 x1 t).bind fun z1 => if z1.1 = 0 then (some ((-1 : Int32), z1.2)) else ((F_X12_in ((x2).toInt64) (0 : Int64) (3 : Int64) z1.2).bind fun z2 => if z2.1 = 0 then (some ((-1 : Int32), z2.2)) else ((mk_ga z2.2 x0 11 3).bind fun v3 => (mk_ld 100 z2.2 v3 x1).bind fun v4 => if v4 = x2 then (some ((-1 : Int32), z2.2)) else ((F_X12_keepsAct x0 z2.2).bind fun z5 => (mk_ga z5.2 x0 11 3).bind fun v6 => (mk_ld 100 z5.2 v6 x1).bind fun v7 => (mk_ga z5.2 x0 11 3).bind fun v8 => (mk_st 100 z5.2 v8 x1 x2).bind fun t9 => some (v7, t9))))) := by
  refine xo_aload_n rfl rfl dX12_face_0 ?_
  refine xo_iload_n rfl rfl dX12_face_1 ?_
  refine mk_O.callV (N := M_X12_isPerson) (ci := 11) (q := (RX12, TX12, 64)) (b := x0) (As1 := [.int x1]) (S := []) md_X12_isPerson mv_X12_isPerson lk_RX12_358 rfl (Nat.le_of_ble_eq_true rfl) (by decide) dX12_face_2 rfl rfl rfl (fun z hz => (c_X12_isPerson x0 x1 t z hz).1) (fun z hz => (c_X12_isPerson x0 x1 t z hz).2) (fun z1 _ => ?_)
  show mk_O _ _ _ _ (.int z1.1 :: []) _ _
  refine xo_if_eq (tgt := 30) dX12_face_5 rfl (fun _ => ?_) (fun _ => ?_)
  · refine xo_iconst kc_m1 dX12_face_30 ?_
    exact xo_iret dX12_face_31 rfl
  · refine xo_iload_n rfl rfl dX12_face_8 ?_
    refine xo_i2l dX12_face_9 ?_
    refine xo_lconst kl_0 dX12_face_10 ?_
    refine xo_ldc2 (v := 3) (mk_w7 (i := 183) rfl rfl) dX12_face_11 ?_
    refine mk_O.callS (N := M_X12_in) (As := [.long ((x2).toInt64), .long (0 : Int64), .long (3 : Int64)]) (S := []) md_X12_in ms_X12_in lk_RX12_159 rfl (Nat.le_of_ble_eq_true rfl) (by decide) dX12_face_14 rfl (fun z hz => c_X12_in ((x2).toInt64) (0 : Int64) (3 : Int64) z1.2 z hz) (fun z2 _ => ?_)
    show mk_O _ _ _ _ (.int z2.1 :: []) _ _
    refine xo_if_eq (tgt := 30) dX12_face_17 rfl (fun _ => ?_) (fun _ => ?_)
    · refine xo_iconst kc_m1 dX12_face_30 ?_
      exact xo_iret dX12_face_31 rfl
    · refine xo_aload_n rfl rfl dX12_face_20 ?_
      refine xo_geta dX12_face_21 cl_11 fl_RX12_16 rfl (fun v3 => ?_)
      refine xo_iload_n rfl rfl dX12_face_24 ?_
      refine xo_iald dX12_face_25 (fun v4 => ?_)
      refine xo_iload_n rfl rfl dX12_face_26 ?_
      refine xo_icmp_ne (tgt := 32) dX12_face_27 rfl (fun _ => ?_) (fun _ => ?_)
      · refine xo_iconst kc_m1 dX12_face_30 ?_
        exact xo_iret dX12_face_31 rfl
      · refine xo_aload_n rfl rfl dX12_face_32 ?_
        refine mk_O.callV (N := M_X12_keepsAct) (ci := 11) (q := (RX12, TX12, 64)) (b := x0) (As1 := []) (S := []) md_X12_keepsAct mv_X12_keepsAct lk_RX12_431 rfl (Nat.le_of_ble_eq_true rfl) (by decide) dX12_face_33 rfl rfl rfl (fun z hz => (c_X12_keepsAct x0 z2.2 z hz).1) (fun z hz => (c_X12_keepsAct x0 z2.2 z hz).2) (fun z5 _ => ?_)
        show mk_O _ _ _ _ [] _ _
        refine xo_aload_n rfl rfl dX12_face_36 ?_
        refine xo_geta dX12_face_37 cl_11 fl_RX12_16 rfl (fun v6 => ?_)
        refine xo_iload_n rfl rfl dX12_face_40 ?_
        refine xo_iald dX12_face_41 (fun v7 => ?_)
        refine xo_istore_n rfl (by decide) (mk_p1_v rfl rfl) dX12_face_42 ?_
        refine xo_aload_n rfl rfl dX12_face_43 ?_
        refine xo_geta dX12_face_44 cl_11 fl_RX12_16 rfl (fun v8 => ?_)
        refine xo_iload_n rfl rfl dX12_face_47 ?_
        refine xo_iload_n rfl rfl dX12_face_48 ?_
        refine xo_iast dX12_face_49 (fun t9 => ?_)
        refine xo_iload_n rfl rfl dX12_face_50 ?_
        exact xo_iret dX12_face_51 rfl
theorem c_X12_face (x0 : Nat) (x1 : Int32) (x2 : Int32) (t : mk_S) (z : Int32 × mk_S) (h : F_X12_face x0 x1 x2 t = some z) : mk_is t x0 11 ∧ mk_Ct M_X12_face [.ref x0, .int x1, .int x2] t (mk_wi z.1, z.2) :=
  ⟨(mk_gd_spec h).1, mk_ct (w := mk_wi) (by decide +kernel) (Nat.le_of_ble_eq_true rfl) (p_X12_face x0 x1 x2 t) z (mk_gd_spec h).2⟩
def F_X12_mend (x0 : Nat) (x1 : Int32) (t : mk_S) : Option (Int32 × mk_S) := mk_gd t x0 11 ((F_X12_isRoof x0 x1 t).bind fun z1 => if z1.1 = 0 then (some ((-1 : Int32), z1.2)) else ((mk_ga z1.2 x0 11 1).bind fun v2 => (mk_ld 100 z1.2 v2 (6 : Int32)).bind fun v3 => (F_X12_has v3 x1 z1.2).bind fun z4 => if z4.1 = 0 then (some ((-1 : Int32), z4.2)) else ((F_X12_keepsAct x0 z4.2).bind fun z5 => (mk_ga z5.2 x0 11 1).bind fun v6 => (mk_ld 100 z5.2 v6 (6 : Int32)).bind fun v7 => (mk_st 100 z5.2 v6 (6 : Int32) (v7 &&& (((1 : Int32) <<< (x1 &&& 31)) ^^^ (-1 : Int32)))).bind fun t8 => (mk_ga t8 x0 11 1).bind fun v9 => (mk_ld 100 t8 v9 (6 : Int32)).bind fun v10 => (F_X12_bits v10 t8).bind fun z11 => some (z11.1, z11.2))))
theorem p_X12_mend (x0 : Nat) (x1 : Int32) (t : mk_S) : mk_O mk_wi M_X12_mend 0 [some (.ref x0), some (.int x1)] [] t ((F_X12_isRoof x0 x1 t).bind fun z1 => if z1.1 = 0 then (some ((-1 : Int32), z1.2)) else ((mk_ga z1.2 x0 11 1).bind fun v2 => (mk_ld 100 z1.2 v2 (6 : Int32)).bind fun v3 => (F_X12_has v3 x1 z1.2).bind fun z4 => if z4.1 = 0 then (some ((-1 : Int32), z4.2)) else ((F_X12_keepsAct x0 z4.2).bind fun z5 => (mk_ga z5.2 x0 11 1).bind fun v6 => (mk_ld 100 z5.2 v6 (6 : Int32)).bind fun v7 => (mk_st 100 z5.2 v6 (6 : Int32) (v7 &&& (((1 : Int32) <<< (x1 &&& 31)) ^^^ (-1 : Int32)))).bind fun t8 => (mk_ga t8 x0 11 1).bind fun v9 => (mk_ld 100 t8 v9 (6 : Int32)).bind fun v10 => (F_X12_bits v10 t8).bind fun z11 => some (z11.1, z11.2)))) := by
  refine xo_aload_n rfl rfl dX12_mend_0 ?_
  refine xo_iload_n rfl rfl dX12_mend_1 ?_
  refine mk_O.callV (N := M_X12_isRoof) (ci := 11) (q := (RX12, TX12, 64)) (b := x0) (As1 := [.int x1]) (S := []) md_X12_isRoof mv_X12_isRoof lk_RX12_370 rfl (Nat.le_of_ble_eq_true rfl) (by decide) dX12_mend_2 rfl rfl rfl (fun z hz => (c_X12_isRoof x0 x1 t z hz).1) (fun z hz => (c_X12_isRoof x0 x1 t z hz).2) (fun z1 _ => ?_)
  show mk_O _ _ _ _ (.int z1.1 :: []) _ _
  refine xo_if_eq (tgt := 22) dX12_mend_5 rfl (fun _ => ?_) (fun _ => ?_)
  · refine xo_iconst kc_m1 dX12_mend_22 ?_
    exact xo_iret dX12_mend_23 rfl
  · refine xo_aload_n rfl rfl dX12_mend_8 ?_
    refine xo_geta dX12_mend_9 cl_11 fl_RX12_9 rfl (fun v2 => ?_)
    refine xo_bipush kb_6 dX12_mend_12 ?_
    refine xo_iald dX12_mend_14 (fun v3 => ?_)
    refine xo_iload_n rfl rfl dX12_mend_15 ?_
    refine mk_O.callS (N := M_X12_has) (As := [.int v3, .int x1]) (S := []) md_X12_has ms_X12_has lk_RX12_389 rfl (Nat.le_of_ble_eq_true rfl) (by decide) dX12_mend_16 rfl (fun z hz => c_X12_has v3 x1 z1.2 z hz) (fun z4 _ => ?_)
    show mk_O _ _ _ _ (.int z4.1 :: []) _ _
    refine xo_if_ne (tgt := 24) dX12_mend_19 rfl (fun _ => ?_) (fun _ => ?_)
    · refine xo_iconst kc_m1 dX12_mend_22 ?_
      exact xo_iret dX12_mend_23 rfl
    · refine xo_aload_n rfl rfl dX12_mend_24 ?_
      refine mk_O.callV (N := M_X12_keepsAct) (ci := 11) (q := (RX12, TX12, 64)) (b := x0) (As1 := []) (S := []) md_X12_keepsAct mv_X12_keepsAct lk_RX12_431 rfl (Nat.le_of_ble_eq_true rfl) (by decide) dX12_mend_25 rfl rfl rfl (fun z hz => (c_X12_keepsAct x0 z4.2 z hz).1) (fun z hz => (c_X12_keepsAct x0 z4.2 z hz).2) (fun z5 _ => ?_)
      show mk_O _ _ _ _ [] _ _
      refine xo_aload_n rfl rfl dX12_mend_28 ?_
      refine xo_geta dX12_mend_29 cl_11 fl_RX12_9 rfl (fun v6 => ?_)
      refine xo_bipush kb_6 dX12_mend_32 ?_
      refine xo_dup2 rfl rfl dX12_mend_34 ?_
      refine xo_iald dX12_mend_35 (fun v7 => ?_)
      refine xo_iconst kc_1 dX12_mend_36 ?_
      refine xo_iload_n rfl rfl dX12_mend_37 ?_
      refine xo_ishl dX12_mend_38 ?_
      refine xo_iconst kc_m1 dX12_mend_39 ?_
      refine xo_ixor dX12_mend_40 ?_
      refine xo_iand dX12_mend_41 ?_
      refine xo_iast dX12_mend_42 (fun t8 => ?_)
      refine xo_aload_n rfl rfl dX12_mend_43 ?_
      refine xo_geta dX12_mend_44 cl_11 fl_RX12_9 rfl (fun v9 => ?_)
      refine xo_bipush kb_6 dX12_mend_47 ?_
      refine xo_iald dX12_mend_49 (fun v10 => ?_)
      refine mk_O.callS (N := M_X12_bits) (As := [.int v10]) (S := []) md_X12_bits ms_X12_bits lk_RX12_382 rfl (Nat.le_of_ble_eq_true rfl) (by decide) dX12_mend_50 rfl (fun z hz => c_X12_bits v10 t8 z hz) (fun z11 _ => ?_)
      show mk_O _ _ _ _ (.int z11.1 :: []) _ _
      exact xo_iret dX12_mend_53 rfl
theorem c_X12_mend (x0 : Nat) (x1 : Int32) (t : mk_S) (z : Int32 × mk_S) (h : F_X12_mend x0 x1 t = some z) : mk_is t x0 11 ∧ mk_Ct M_X12_mend [.ref x0, .int x1] t (mk_wi z.1, z.2) :=
  ⟨(mk_gd_spec h).1, mk_ct (w := mk_wi) (by decide +kernel) (Nat.le_of_ble_eq_true rfl) (p_X12_mend x0 x1 t) z (mk_gd_spec h).2⟩
def B_X12_carryRow_42 (k2 : Nat → Nat → Int32 → mk_S → Option (Unit × mk_S)) (x0 : Nat) (x1 : Nat) (x2 : Int32) (t : mk_S) : Option (Unit × mk_S) := (mk_gi t x0 11 62).bind fun v1 => (mk_pi t x0 11 62 (v1 + (1 : Int32))).bind fun t2 => k2 x0 x1 (x2 + (1 : Int32)) t2
def B_X12_carryRow_2 : Nat → Nat → Nat → Int32 → mk_S → Option (Unit × mk_S)
  | 0, _, _, _, _ => none
  | n + 1, x0, x1, x2, t => (mk_len t x1).bind fun v1 => if v1 ≤ x2 then (some ((), t)) else ((mk_gi t x0 11 63).bind fun v2 => if v2 = 0 then ((mk_ga t x0 11 60).bind fun v3 => (mk_gi t x0 11 62).bind fun v4 => (mk_ld 100 t x1 x2).bind fun v5 => (mk_st 100 t v3 v4 v5).bind fun t6 => B_X12_carryRow_42 (B_X12_carryRow_2 n) x0 x1 x2 t6) else ((mk_ga t x0 11 60).bind fun v7 => (mk_gi t x0 11 62).bind fun v8 => (mk_ld 100 t v7 v8).bind fun v9 => (mk_st 100 t x1 x2 v9).bind fun t10 => B_X12_carryRow_42 (B_X12_carryRow_2 n) x0 x1 x2 t10))
def F_X12_carryRow (x0 : Nat) (x1 : Nat) (t : mk_S) : Option (Unit × mk_S) := mk_gd t x0 11 (B_X12_carryRow_2 mk_fu x0 x1 (0 : Int32) t)
theorem o_X12_carryRow_42 (k2 : Nat → Nat → Int32 → mk_S → Option (Unit × mk_S)) (h2 : ∀ (x0 : Nat) (x1 : Nat) (x2 : Int32) (t : mk_S), mk_O mk_wu M_X12_carryRow 2 [some (.ref x0), some (.ref x1), some (.int x2)] [] t (k2 x0 x1 x2 t)) (x0 : Nat) (x1 : Nat) (x2 : Int32) (t : mk_S) : mk_O mk_wu M_X12_carryRow 42 [some (.ref x0), some (.ref x1), some (.int x2)] [] t (B_X12_carryRow_42 k2 x0 x1 x2 t) := by
  unfold B_X12_carryRow_42
  refine xo_aload_n rfl rfl dX12_carryRow_42 ?_
  refine xo_dup rfl dX12_carryRow_43 ?_
  refine xo_geti dX12_carryRow_44 cl_11 fl_RX12_517 rfl (fun v1 => ?_)
  refine xo_iconst kc_1 dX12_carryRow_47 ?_
  refine xo_iadd dX12_carryRow_48 ?_
  refine xo_puti dX12_carryRow_49 cl_11 fl_RX12_517 rfl ft_11_62 (fun t2 => ?_)
  refine xo_iinc rfl (congrArg _ kc_1) (by decide) (mk_p1_v rfl rfl) dX12_carryRow_52 ?_
  refine xo_goto (tgt := 2) dX12_carryRow_55 rfl ?_
  exact mk_O.wk (h2 x0 x1 (x2 + (1 : Int32)) t2) ⟨rfl, ⟨rfl, ⟨rfl, trivial⟩⟩⟩
theorem o_X12_carryRow_2 : ∀ (n : Nat) (x0 : Nat) (x1 : Nat) (x2 : Int32) (t : mk_S), mk_O mk_wu M_X12_carryRow 2 [some (.ref x0), some (.ref x1), some (.int x2)] [] t (B_X12_carryRow_2 n x0 x1 x2 t) := by
  intro n
  induction n with
  | zero =>
    intro x0 x1 x2 t
    exact mk_O.none
  | succ n ih =>
    intro x0 x1 x2 t
    rw [B_X12_carryRow_2]
    refine xo_iload_n rfl rfl dX12_carryRow_2 ?_
    refine xo_aload_n rfl rfl dX12_carryRow_3 ?_
    refine xo_alen dX12_carryRow_4 (fun v1 => ?_)
    refine xo_icmp_ge (tgt := 58) dX12_carryRow_5 rfl (fun _ => ?_) (fun _ => ?_)
    · exact xo_vret dX12_carryRow_58 rfl
    · refine xo_aload_n rfl rfl dX12_carryRow_8 ?_
      refine xo_geti dX12_carryRow_9 cl_11 fl_RX12_514 rfl (fun v2 => ?_)
      refine xo_if_eq (tgt := 30) dX12_carryRow_12 rfl (fun _ => ?_) (fun _ => ?_)
      · refine xo_aload_n rfl rfl dX12_carryRow_30 ?_
        refine xo_geta dX12_carryRow_31 cl_11 fl_RX12_145 rfl (fun v3 => ?_)
        refine xo_aload_n rfl rfl dX12_carryRow_34 ?_
        refine xo_geti dX12_carryRow_35 cl_11 fl_RX12_517 rfl (fun v4 => ?_)
        refine xo_aload_n rfl rfl dX12_carryRow_38 ?_
        refine xo_iload_n rfl rfl dX12_carryRow_39 ?_
        refine xo_iald dX12_carryRow_40 (fun v5 => ?_)
        refine xo_iast dX12_carryRow_41 (fun t6 => ?_)
        exact mk_O.wk (o_X12_carryRow_42 _ ih x0 x1 x2 t6) ⟨rfl, ⟨rfl, ⟨rfl, trivial⟩⟩⟩
      · refine xo_aload_n rfl rfl dX12_carryRow_15 ?_
        refine xo_iload_n rfl rfl dX12_carryRow_16 ?_
        refine xo_aload_n rfl rfl dX12_carryRow_17 ?_
        refine xo_geta dX12_carryRow_18 cl_11 fl_RX12_145 rfl (fun v7 => ?_)
        refine xo_aload_n rfl rfl dX12_carryRow_21 ?_
        refine xo_geti dX12_carryRow_22 cl_11 fl_RX12_517 rfl (fun v8 => ?_)
        refine xo_iald dX12_carryRow_25 (fun v9 => ?_)
        refine xo_iast dX12_carryRow_26 (fun t10 => ?_)
        refine xo_goto (tgt := 42) dX12_carryRow_27 rfl ?_
        exact mk_O.wk (o_X12_carryRow_42 _ ih x0 x1 x2 t10) ⟨rfl, ⟨rfl, ⟨rfl, trivial⟩⟩⟩
theorem p_X12_carryRow (x0 : Nat) (x1 : Nat) (t : mk_S) : mk_O mk_wu M_X12_carryRow 0 [some (.ref x0), some (.ref x1), none] [] t (B_X12_carryRow_2 mk_fu x0 x1 (0 : Int32) t) := by
  refine xo_iconst kc_0 dX12_carryRow_0 ?_
  refine xo_istore_n rfl (by decide) (mk_p1_v rfl rfl) dX12_carryRow_1 ?_
  exact mk_O.wk (o_X12_carryRow_2 mk_fu x0 x1 (0 : Int32) t) ⟨rfl, ⟨rfl, ⟨rfl, trivial⟩⟩⟩
theorem c_X12_carryRow (x0 : Nat) (x1 : Nat) (t : mk_S) (z : Unit × mk_S) (h : F_X12_carryRow x0 x1 t = some z) : mk_is t x0 11 ∧ mk_Ct M_X12_carryRow [.ref x0, .ref x1] t (mk_wu z.1, z.2) :=
  ⟨(mk_gd_spec h).1, mk_ct (w := mk_wu) (by decide +kernel) (Nat.le_of_ble_eq_true rfl) (p_X12_carryRow x0 x1 t) z (mk_gd_spec h).2⟩
def F_X12_carriesAll (x0 : Nat) (x1 : Int32) (x2 : Int32) (t : mk_S) : Option (Unit × mk_S) := mk_gd t x0 11 ((mk_pi t x0 11 62 ((1700 : Int32) * x1)).bind fun t1 => (mk_pz t1 x0 11 63 x2).bind fun t2 => (mk_ga t2 x0 11 1).bind fun v3 => (F_X12_carryRow x0 v3 t2).bind fun z4 => (mk_ga z4.2 x0 11 2).bind fun v5 => (F_X12_carryRow x0 v5 z4.2).bind fun z6 => (mk_ga z6.2 x0 11 3).bind fun v7 => (F_X12_carryRow x0 v7 z6.2).bind fun z8 => (mk_ga z8.2 x0 11 4).bind fun v9 => (F_X12_carryRow x0 v9 z8.2).bind fun z10 => (mk_ga z10.2 x0 11 5).bind fun v11 => (F_X12_carryRow x0 v11 z10.2).bind fun z12 => (mk_ga z12.2 x0 11 6).bind fun v13 => (F_X12_carryRow x0 v13 z12.2).bind fun z14 => (mk_ga z14.2 x0 11 7).bind fun v15 => (F_X12_carryRow x0 v15 z14.2).bind fun z16 => (mk_ga z16.2 x0 11 8).bind fun v17 => (F_X12_carryRow x0 v17 z16.2).bind fun z18 => if x1 = (4 : Int32) then (some ((), z18.2)) else ((mk_ga z18.2 x0 11 49).bind fun v19 => (mk_gi z18.2 x0 11 50).bind fun v20 => (mk_st 100 z18.2 v19 (0 : Int32) v20).bind fun t21 => (mk_ga t21 x0 11 49).bind fun v22 => (F_X12_carryRow x0 v22 t21).bind fun z23 => (mk_ga z23.2 x0 11 49).bind fun v24 => (mk_ld 100 z23.2 v24 (0 : Int32)).bind fun v25 => (mk_pi z23.2 x0 11 50 v25).bind fun t26 => (mk_ga t26 x0 11 9).bind fun v27 => (F_X12_carryRow x0 v27 t26).bind fun z28 => (mk_ga z28.2 x0 11 10).bind fun v29 => (F_X12_carryRow x0 v29 z28.2).bind fun z30 => (mk_ga z30.2 x0 11 11).bind fun v31 => (F_X12_carryRow x0 v31 z30.2).bind fun z32 => (mk_ga z32.2 x0 11 12).bind fun v33 => (F_X12_carryRow x0 v33 z32.2).bind fun z34 => (mk_ga z34.2 x0 11 13).bind fun v35 => (F_X12_carryRow x0 v35 z34.2).bind fun z36 => (mk_ga z36.2 x0 11 14).bind fun v37 => (F_X12_carryRow x0 v37 z36.2).bind fun z38 => (mk_ga z38.2 x0 11 15).bind fun v39 => (F_X12_carryRow x0 v39 z38.2).bind fun z40 => (mk_ga z40.2 x0 11 16).bind fun v41 => (F_X12_carryRow x0 v41 z40.2).bind fun z42 => (mk_ga z42.2 x0 11 17).bind fun v43 => (F_X12_carryRow x0 v43 z42.2).bind fun z44 => (mk_ga z44.2 x0 11 18).bind fun v45 => (F_X12_carryRow x0 v45 z44.2).bind fun z46 => (mk_ga z46.2 x0 11 48).bind fun v47 => (F_X12_carryRow x0 v47 z46.2).bind fun z48 => some ((), z48.2)))
theorem p_X12_carriesAll (x0 : Nat) (x1 : Int32) (x2 : Int32) (t : mk_S) : mk_O mk_wu M_X12_carriesAll 0 [some (.ref x0), some (.int x1), some (.int x2)] [] t ((mk_pi t x0 11 62 ((1700 : Int32) * x1)).bind fun t1 => (mk_pz t1 x0 11 63 x2).bind fun t2 => (mk_ga t2 x0 11 1).bind fun v3 => (F_X12_carryRow x0 v3 t2).bind fun z4 => (mk_ga z4.2 x0 11 2).bind fun v5 => (F_X12_carryRow x0 v5 z4.2).bind fun z6 => (mk_ga z6.2 x0 11 3).bind fun v7 => (F_X12_carryRow x0 v7 z6.2).bind fun z8 => (mk_ga z8.2 x0 11 4).bind fun v9 => (F_X12_carryRow x0 v9 z8.2).bind fun z10 => (mk_ga z10.2 x0 11 5).bind fun v11 => (F_X12_carryRow x0 v11 z10.2).bind fun z12 => (mk_ga z12.2 x0 11 6).bind fun v13 => (F_X12_carryRow x0 v13 z12.2).bind fun z14 => (mk_ga z14.2 x0 11 7).bind fun v15 => (F_X12_carryRow x0 v15 z14.2).bind fun z16 => (mk_ga z16.2 x0 11 8).bind fun v17 => (F_X12_carryRow x0 v17 z16.2).bind fun z18 => if x1 = (4 : Int32) then (some ((), z18.2)) else ((mk_ga z18.2 x0 11 49).bind fun v19 => (mk_gi z18.2 x0 11 50).bind fun v20 => (mk_st 100 z18.2 v19 (0 : Int32) v20).bind fun t21 => (mk_ga t21 x0 11 49).bind fun v22 => (F_X12_carryRow x0 v22 t21).bind fun z23 => (mk_ga z23.2 x0 11 49).bind fun v24 => (mk_ld 100 z23.2 v24 (0 : Int32)).bind fun v25 => (mk_pi z23.2 x0 11 50 v25).bind fun t26 => (mk_ga t26 x0 11 9).bind fun v27 => (F_X12_carryRow x0 v27 t26).bind fun z28 => (mk_ga z28.2 x0 11 10).bind fun v29 => (F_X12_carryRow x0 v29 z28.2).bind fun z30 => (mk_ga z30.2 x0 11 11).bind fun v31 => (F_X12_carryRow x0 v31 z30.2).bind fun z32 => (mk_ga z32.2 x0 11 12).bind fun v33 => (F_X12_carryRow x0 v33 z32.2).bind fun z34 => (mk_ga z34.2 x0 11 13).bind fun v35 => (F_X12_carryRow x0 v35 z34.2).bind fun z36 => (mk_ga z36.2 x0 11 14).bind fun v37 => (F_X12_carryRow x0 v37 z36.2).bind fun z38 => (mk_ga z38.2 x0 11 15).bind fun v39 => (F_X12_carryRow x0 v39 z38.2).bind fun z40 => (mk_ga z40.2 x0 11 16).bind fun v41 => (F_X12_carryRow x0 v41 z40.2).bind fun z42 => (mk_ga z42.2 x0 11 17).bind fun v43 => (F_X12_carryRow x0 v43 z42.2).bind fun z44 => (mk_ga z44.2 x0 11 18).bind fun v45 => (F_X12_carryRow x0 v45 z44.2).bind fun z46 => (mk_ga z46.2 x0 11 48).bind fun v47 => (F_X12_carryRow x0 v47 z46.2).bind fun z48 => some ((), z48.2))) := by
  refine xo_aload_n rfl rfl dX12_carriesAll_0 ?_
  refine xo_sipush ks_1700 dX12_carriesAll_1 ?_
  refine xo_iload_n rfl rfl dX12_carriesAll_4 ?_
  refine xo_imul dX12_carriesAll_5 ?_
  refine xo_puti dX12_carriesAll_6 cl_11 fl_RX12_517 rfl ft_11_62 (fun t1 => ?_)
  refine xo_aload_n rfl rfl dX12_carriesAll_9 ?_
  refine xo_iload_n rfl rfl dX12_carriesAll_10 ?_
  refine xo_putz dX12_carriesAll_11 cl_11 fl_RX12_514 rfl ft_11_63 (fun t2 => ?_)
  refine xo_aload_n rfl rfl dX12_carriesAll_14 ?_
  refine xo_aload_n rfl rfl dX12_carriesAll_15 ?_
  refine xo_geta dX12_carriesAll_16 cl_11 fl_RX12_9 rfl (fun v3 => ?_)
  refine mk_O.callV (N := M_X12_carryRow) (ci := 11) (q := (RX12, TX12, 64)) (b := x0) (As1 := [.ref v3]) (S := []) md_X12_carryRow mv_X12_carryRow lk_RX12_520 rfl (Nat.le_of_ble_eq_true rfl) (by decide) dX12_carriesAll_19 rfl rfl rfl (fun z hz => (c_X12_carryRow x0 v3 t2 z hz).1) (fun z hz => (c_X12_carryRow x0 v3 t2 z hz).2) (fun z4 _ => ?_)
  show mk_O _ _ _ _ [] _ _
  refine xo_aload_n rfl rfl dX12_carriesAll_22 ?_
  refine xo_aload_n rfl rfl dX12_carriesAll_23 ?_
  refine xo_geta dX12_carriesAll_24 cl_11 fl_RX12_13 rfl (fun v5 => ?_)
  refine mk_O.callV (N := M_X12_carryRow) (ci := 11) (q := (RX12, TX12, 64)) (b := x0) (As1 := [.ref v5]) (S := []) md_X12_carryRow mv_X12_carryRow lk_RX12_520 rfl (Nat.le_of_ble_eq_true rfl) (by decide) dX12_carriesAll_27 rfl rfl rfl (fun z hz => (c_X12_carryRow x0 v5 z4.2 z hz).1) (fun z hz => (c_X12_carryRow x0 v5 z4.2 z hz).2) (fun z6 _ => ?_)
  show mk_O _ _ _ _ [] _ _
  refine xo_aload_n rfl rfl dX12_carriesAll_30 ?_
  refine xo_aload_n rfl rfl dX12_carriesAll_31 ?_
  refine xo_geta dX12_carriesAll_32 cl_11 fl_RX12_16 rfl (fun v7 => ?_)
  refine mk_O.callV (N := M_X12_carryRow) (ci := 11) (q := (RX12, TX12, 64)) (b := x0) (As1 := [.ref v7]) (S := []) md_X12_carryRow mv_X12_carryRow lk_RX12_520 rfl (Nat.le_of_ble_eq_true rfl) (by decide) dX12_carriesAll_35 rfl rfl rfl (fun z hz => (c_X12_carryRow x0 v7 z6.2 z hz).1) (fun z hz => (c_X12_carryRow x0 v7 z6.2 z hz).2) (fun z8 _ => ?_)
  show mk_O _ _ _ _ [] _ _
  refine xo_aload_n rfl rfl dX12_carriesAll_38 ?_
  refine xo_aload_n rfl rfl dX12_carriesAll_39 ?_
  refine xo_geta dX12_carriesAll_40 cl_11 fl_RX12_19 rfl (fun v9 => ?_)
  refine mk_O.callV (N := M_X12_carryRow) (ci := 11) (q := (RX12, TX12, 64)) (b := x0) (As1 := [.ref v9]) (S := []) md_X12_carryRow mv_X12_carryRow lk_RX12_520 rfl (Nat.le_of_ble_eq_true rfl) (by decide) dX12_carriesAll_43 rfl rfl rfl (fun z hz => (c_X12_carryRow x0 v9 z8.2 z hz).1) (fun z hz => (c_X12_carryRow x0 v9 z8.2 z hz).2) (fun z10 _ => ?_)
  show mk_O _ _ _ _ [] _ _
  refine xo_aload_n rfl rfl dX12_carriesAll_46 ?_
  refine xo_aload_n rfl rfl dX12_carriesAll_47 ?_
  refine xo_geta dX12_carriesAll_48 cl_11 fl_RX12_22 rfl (fun v11 => ?_)
  refine mk_O.callV (N := M_X12_carryRow) (ci := 11) (q := (RX12, TX12, 64)) (b := x0) (As1 := [.ref v11]) (S := []) md_X12_carryRow mv_X12_carryRow lk_RX12_520 rfl (Nat.le_of_ble_eq_true rfl) (by decide) dX12_carriesAll_51 rfl rfl rfl (fun z hz => (c_X12_carryRow x0 v11 z10.2 z hz).1) (fun z hz => (c_X12_carryRow x0 v11 z10.2 z hz).2) (fun z12 _ => ?_)
  show mk_O _ _ _ _ [] _ _
  refine xo_aload_n rfl rfl dX12_carriesAll_54 ?_
  refine xo_aload_n rfl rfl dX12_carriesAll_55 ?_
  refine xo_geta dX12_carriesAll_56 cl_11 fl_RX12_25 rfl (fun v13 => ?_)
  refine mk_O.callV (N := M_X12_carryRow) (ci := 11) (q := (RX12, TX12, 64)) (b := x0) (As1 := [.ref v13]) (S := []) md_X12_carryRow mv_X12_carryRow lk_RX12_520 rfl (Nat.le_of_ble_eq_true rfl) (by decide) dX12_carriesAll_59 rfl rfl rfl (fun z hz => (c_X12_carryRow x0 v13 z12.2 z hz).1) (fun z hz => (c_X12_carryRow x0 v13 z12.2 z hz).2) (fun z14 _ => ?_)
  show mk_O _ _ _ _ [] _ _
  refine xo_aload_n rfl rfl dX12_carriesAll_62 ?_
  refine xo_aload_n rfl rfl dX12_carriesAll_63 ?_
  refine xo_geta dX12_carriesAll_64 cl_11 fl_RX12_28 rfl (fun v15 => ?_)
  refine mk_O.callV (N := M_X12_carryRow) (ci := 11) (q := (RX12, TX12, 64)) (b := x0) (As1 := [.ref v15]) (S := []) md_X12_carryRow mv_X12_carryRow lk_RX12_520 rfl (Nat.le_of_ble_eq_true rfl) (by decide) dX12_carriesAll_67 rfl rfl rfl (fun z hz => (c_X12_carryRow x0 v15 z14.2 z hz).1) (fun z hz => (c_X12_carryRow x0 v15 z14.2 z hz).2) (fun z16 _ => ?_)
  show mk_O _ _ _ _ [] _ _
  refine xo_aload_n rfl rfl dX12_carriesAll_70 ?_
  refine xo_aload_n rfl rfl dX12_carriesAll_71 ?_
  refine xo_geta dX12_carriesAll_72 cl_11 fl_RX12_31 rfl (fun v17 => ?_)
  refine mk_O.callV (N := M_X12_carryRow) (ci := 11) (q := (RX12, TX12, 64)) (b := x0) (As1 := [.ref v17]) (S := []) md_X12_carryRow mv_X12_carryRow lk_RX12_520 rfl (Nat.le_of_ble_eq_true rfl) (by decide) dX12_carriesAll_75 rfl rfl rfl (fun z hz => (c_X12_carryRow x0 v17 z16.2 z hz).1) (fun z hz => (c_X12_carryRow x0 v17 z16.2 z hz).2) (fun z18 _ => ?_)
  show mk_O _ _ _ _ [] _ _
  refine xo_iload_n rfl rfl dX12_carriesAll_78 ?_
  refine xo_iconst kc_4 dX12_carriesAll_79 ?_
  refine xo_icmp_ne (tgt := 84) dX12_carriesAll_80 rfl (fun _ => ?_) (fun _ => ?_)
  · exact xo_vret dX12_carriesAll_83 rfl
  · refine xo_aload_n rfl rfl dX12_carriesAll_84 ?_
    refine xo_geta dX12_carriesAll_85 cl_11 fl_RX12_130 rfl (fun v19 => ?_)
    refine xo_iconst kc_0 dX12_carriesAll_88 ?_
    refine xo_aload_n rfl rfl dX12_carriesAll_89 ?_
    refine xo_geti dX12_carriesAll_90 cl_11 fl_RX12_325 rfl (fun v20 => ?_)
    refine xo_iast dX12_carriesAll_93 (fun t21 => ?_)
    refine xo_aload_n rfl rfl dX12_carriesAll_94 ?_
    refine xo_aload_n rfl rfl dX12_carriesAll_95 ?_
    refine xo_geta dX12_carriesAll_96 cl_11 fl_RX12_130 rfl (fun v22 => ?_)
    refine mk_O.callV (N := M_X12_carryRow) (ci := 11) (q := (RX12, TX12, 64)) (b := x0) (As1 := [.ref v22]) (S := []) md_X12_carryRow mv_X12_carryRow lk_RX12_520 rfl (Nat.le_of_ble_eq_true rfl) (by decide) dX12_carriesAll_99 rfl rfl rfl (fun z hz => (c_X12_carryRow x0 v22 t21 z hz).1) (fun z hz => (c_X12_carryRow x0 v22 t21 z hz).2) (fun z23 _ => ?_)
    show mk_O _ _ _ _ [] _ _
    refine xo_aload_n rfl rfl dX12_carriesAll_102 ?_
    refine xo_aload_n rfl rfl dX12_carriesAll_103 ?_
    refine xo_geta dX12_carriesAll_104 cl_11 fl_RX12_130 rfl (fun v24 => ?_)
    refine xo_iconst kc_0 dX12_carriesAll_107 ?_
    refine xo_iald dX12_carriesAll_108 (fun v25 => ?_)
    refine xo_puti dX12_carriesAll_109 cl_11 fl_RX12_325 rfl ft_11_50 (fun t26 => ?_)
    refine xo_aload_n rfl rfl dX12_carriesAll_112 ?_
    refine xo_aload_n rfl rfl dX12_carriesAll_113 ?_
    refine xo_geta dX12_carriesAll_114 cl_11 fl_RX12_34 rfl (fun v27 => ?_)
    refine mk_O.callV (N := M_X12_carryRow) (ci := 11) (q := (RX12, TX12, 64)) (b := x0) (As1 := [.ref v27]) (S := []) md_X12_carryRow mv_X12_carryRow lk_RX12_520 rfl (Nat.le_of_ble_eq_true rfl) (by decide) dX12_carriesAll_117 rfl rfl rfl (fun z hz => (c_X12_carryRow x0 v27 t26 z hz).1) (fun z hz => (c_X12_carryRow x0 v27 t26 z hz).2) (fun z28 _ => ?_)
    show mk_O _ _ _ _ [] _ _
    refine xo_aload_n rfl rfl dX12_carriesAll_120 ?_
    refine xo_aload_n rfl rfl dX12_carriesAll_121 ?_
    refine xo_geta dX12_carriesAll_122 cl_11 fl_RX12_37 rfl (fun v29 => ?_)
    refine mk_O.callV (N := M_X12_carryRow) (ci := 11) (q := (RX12, TX12, 64)) (b := x0) (As1 := [.ref v29]) (S := []) md_X12_carryRow mv_X12_carryRow lk_RX12_520 rfl (Nat.le_of_ble_eq_true rfl) (by decide) dX12_carriesAll_125 rfl rfl rfl (fun z hz => (c_X12_carryRow x0 v29 z28.2 z hz).1) (fun z hz => (c_X12_carryRow x0 v29 z28.2 z hz).2) (fun z30 _ => ?_)
    show mk_O _ _ _ _ [] _ _
    refine xo_aload_n rfl rfl dX12_carriesAll_128 ?_
    refine xo_aload_n rfl rfl dX12_carriesAll_129 ?_
    refine xo_geta dX12_carriesAll_130 cl_11 fl_RX12_40 rfl (fun v31 => ?_)
    refine mk_O.callV (N := M_X12_carryRow) (ci := 11) (q := (RX12, TX12, 64)) (b := x0) (As1 := [.ref v31]) (S := []) md_X12_carryRow mv_X12_carryRow lk_RX12_520 rfl (Nat.le_of_ble_eq_true rfl) (by decide) dX12_carriesAll_133 rfl rfl rfl (fun z hz => (c_X12_carryRow x0 v31 z30.2 z hz).1) (fun z hz => (c_X12_carryRow x0 v31 z30.2 z hz).2) (fun z32 _ => ?_)
    show mk_O _ _ _ _ [] _ _
    refine xo_aload_n rfl rfl dX12_carriesAll_136 ?_
    refine xo_aload_n rfl rfl dX12_carriesAll_137 ?_
    refine xo_geta dX12_carriesAll_138 cl_11 fl_RX12_43 rfl (fun v33 => ?_)
    refine mk_O.callV (N := M_X12_carryRow) (ci := 11) (q := (RX12, TX12, 64)) (b := x0) (As1 := [.ref v33]) (S := []) md_X12_carryRow mv_X12_carryRow lk_RX12_520 rfl (Nat.le_of_ble_eq_true rfl) (by decide) dX12_carriesAll_141 rfl rfl rfl (fun z hz => (c_X12_carryRow x0 v33 z32.2 z hz).1) (fun z hz => (c_X12_carryRow x0 v33 z32.2 z hz).2) (fun z34 _ => ?_)
    show mk_O _ _ _ _ [] _ _
    refine xo_aload_n rfl rfl dX12_carriesAll_144 ?_
    refine xo_aload_n rfl rfl dX12_carriesAll_145 ?_
    refine xo_geta dX12_carriesAll_146 cl_11 fl_RX12_46 rfl (fun v35 => ?_)
    refine mk_O.callV (N := M_X12_carryRow) (ci := 11) (q := (RX12, TX12, 64)) (b := x0) (As1 := [.ref v35]) (S := []) md_X12_carryRow mv_X12_carryRow lk_RX12_520 rfl (Nat.le_of_ble_eq_true rfl) (by decide) dX12_carriesAll_149 rfl rfl rfl (fun z hz => (c_X12_carryRow x0 v35 z34.2 z hz).1) (fun z hz => (c_X12_carryRow x0 v35 z34.2 z hz).2) (fun z36 _ => ?_)
    show mk_O _ _ _ _ [] _ _
    refine xo_aload_n rfl rfl dX12_carriesAll_152 ?_
    refine xo_aload_n rfl rfl dX12_carriesAll_153 ?_
    refine xo_geta dX12_carriesAll_154 cl_11 fl_RX12_49 rfl (fun v37 => ?_)
    refine mk_O.callV (N := M_X12_carryRow) (ci := 11) (q := (RX12, TX12, 64)) (b := x0) (As1 := [.ref v37]) (S := []) md_X12_carryRow mv_X12_carryRow lk_RX12_520 rfl (Nat.le_of_ble_eq_true rfl) (by decide) dX12_carriesAll_157 rfl rfl rfl (fun z hz => (c_X12_carryRow x0 v37 z36.2 z hz).1) (fun z hz => (c_X12_carryRow x0 v37 z36.2 z hz).2) (fun z38 _ => ?_)
    show mk_O _ _ _ _ [] _ _
    refine xo_aload_n rfl rfl dX12_carriesAll_160 ?_
    refine xo_aload_n rfl rfl dX12_carriesAll_161 ?_
    refine xo_geta dX12_carriesAll_162 cl_11 fl_RX12_52 rfl (fun v39 => ?_)
    refine mk_O.callV (N := M_X12_carryRow) (ci := 11) (q := (RX12, TX12, 64)) (b := x0) (As1 := [.ref v39]) (S := []) md_X12_carryRow mv_X12_carryRow lk_RX12_520 rfl (Nat.le_of_ble_eq_true rfl) (by decide) dX12_carriesAll_165 rfl rfl rfl (fun z hz => (c_X12_carryRow x0 v39 z38.2 z hz).1) (fun z hz => (c_X12_carryRow x0 v39 z38.2 z hz).2) (fun z40 _ => ?_)
    show mk_O _ _ _ _ [] _ _
    refine xo_aload_n rfl rfl dX12_carriesAll_168 ?_
    refine xo_aload_n rfl rfl dX12_carriesAll_169 ?_
    refine xo_geta dX12_carriesAll_170 cl_11 fl_RX12_55 rfl (fun v41 => ?_)
    refine mk_O.callV (N := M_X12_carryRow) (ci := 11) (q := (RX12, TX12, 64)) (b := x0) (As1 := [.ref v41]) (S := []) md_X12_carryRow mv_X12_carryRow lk_RX12_520 rfl (Nat.le_of_ble_eq_true rfl) (by decide) dX12_carriesAll_173 rfl rfl rfl (fun z hz => (c_X12_carryRow x0 v41 z40.2 z hz).1) (fun z hz => (c_X12_carryRow x0 v41 z40.2 z hz).2) (fun z42 _ => ?_)
    show mk_O _ _ _ _ [] _ _
    refine xo_aload_n rfl rfl dX12_carriesAll_176 ?_
    refine xo_aload_n rfl rfl dX12_carriesAll_177 ?_
    refine xo_geta dX12_carriesAll_178 cl_11 fl_RX12_58 rfl (fun v43 => ?_)
    refine mk_O.callV (N := M_X12_carryRow) (ci := 11) (q := (RX12, TX12, 64)) (b := x0) (As1 := [.ref v43]) (S := []) md_X12_carryRow mv_X12_carryRow lk_RX12_520 rfl (Nat.le_of_ble_eq_true rfl) (by decide) dX12_carriesAll_181 rfl rfl rfl (fun z hz => (c_X12_carryRow x0 v43 z42.2 z hz).1) (fun z hz => (c_X12_carryRow x0 v43 z42.2 z hz).2) (fun z44 _ => ?_)
    show mk_O _ _ _ _ [] _ _
    refine xo_aload_n rfl rfl dX12_carriesAll_184 ?_
    refine xo_aload_n rfl rfl dX12_carriesAll_185 ?_
    refine xo_geta dX12_carriesAll_186 cl_11 fl_RX12_61 rfl (fun v45 => ?_)
    refine mk_O.callV (N := M_X12_carryRow) (ci := 11) (q := (RX12, TX12, 64)) (b := x0) (As1 := [.ref v45]) (S := []) md_X12_carryRow mv_X12_carryRow lk_RX12_520 rfl (Nat.le_of_ble_eq_true rfl) (by decide) dX12_carriesAll_189 rfl rfl rfl (fun z hz => (c_X12_carryRow x0 v45 z44.2 z hz).1) (fun z hz => (c_X12_carryRow x0 v45 z44.2 z hz).2) (fun z46 _ => ?_)
    show mk_O _ _ _ _ [] _ _
    refine xo_aload_n rfl rfl dX12_carriesAll_192 ?_
    refine xo_aload_n rfl rfl dX12_carriesAll_193 ?_
    refine xo_geta dX12_carriesAll_194 cl_11 fl_RX12_127 rfl (fun v47 => ?_)
    refine mk_O.callV (N := M_X12_carryRow) (ci := 11) (q := (RX12, TX12, 64)) (b := x0) (As1 := [.ref v47]) (S := []) md_X12_carryRow mv_X12_carryRow lk_RX12_520 rfl (Nat.le_of_ble_eq_true rfl) (by decide) dX12_carriesAll_197 rfl rfl rfl (fun z hz => (c_X12_carryRow x0 v47 z46.2 z hz).1) (fun z hz => (c_X12_carryRow x0 v47 z46.2 z hz).2) (fun z48 _ => ?_)
    show mk_O _ _ _ _ [] _ _
    exact xo_vret dX12_carriesAll_200 rfl
theorem c_X12_carriesAll (x0 : Nat) (x1 : Int32) (x2 : Int32) (t : mk_S) (z : Unit × mk_S) (h : F_X12_carriesAll x0 x1 x2 t = some z) : mk_is t x0 11 ∧ mk_Ct M_X12_carriesAll [.ref x0, .int x1, .int x2] t (mk_wu z.1, z.2) :=
  ⟨(mk_gd_spec h).1, mk_ct (w := mk_wu) (by decide +kernel) (Nat.le_of_ble_eq_true rfl) (p_X12_carriesAll x0 x1 x2 t) z (mk_gd_spec h).2⟩
def F_X12_keepsAll (x0 : Nat) (t : mk_S) : Option (Unit × mk_S) := mk_gd t x0 11 ((F_X12_carriesAll x0 (4 : Int32) (0 : Int32) t).bind fun z1 => some ((), z1.2))
theorem p_X12_keepsAll (x0 : Nat) (t : mk_S) : mk_O mk_wu M_X12_keepsAll 0 [some (.ref x0)] [] t ((F_X12_carriesAll x0 (4 : Int32) (0 : Int32) t).bind fun z1 => some ((), z1.2)) := by
  refine xo_aload_n rfl rfl dX12_keepsAll_0 ?_
  refine xo_iconst kc_4 dX12_keepsAll_1 ?_
  refine xo_iconst kc_0 dX12_keepsAll_2 ?_
  refine mk_O.callV (N := M_X12_carriesAll) (ci := 11) (q := (RX12, TX12, 64)) (b := x0) (As1 := [.int (4 : Int32), .int (0 : Int32)]) (S := []) md_X12_carriesAll mv_X12_carriesAll lk_RX12_438 rfl (Nat.le_of_ble_eq_true rfl) (by decide) dX12_keepsAll_3 rfl rfl rfl (fun z hz => (c_X12_carriesAll x0 (4 : Int32) (0 : Int32) t z hz).1) (fun z hz => (c_X12_carriesAll x0 (4 : Int32) (0 : Int32) t z hz).2) (fun z1 _ => ?_)
  show mk_O _ _ _ _ [] _ _
  exact xo_vret dX12_keepsAll_6 rfl
theorem c_X12_keepsAll (x0 : Nat) (t : mk_S) (z : Unit × mk_S) (h : F_X12_keepsAll x0 t = some z) : mk_is t x0 11 ∧ mk_Ct M_X12_keepsAll [.ref x0] t (mk_wu z.1, z.2) :=
  ⟨(mk_gd_spec h).1, mk_ct (w := mk_wu) (by decide +kernel) (Nat.le_of_ble_eq_true rfl) (p_X12_keepsAll x0 t) z (mk_gd_spec h).2⟩
def F_X12_laysBack (x0 : Nat) (t : mk_S) : Option (Unit × mk_S) := mk_gd t x0 11 ((F_X12_carriesAll x0 (4 : Int32) (1 : Int32) t).bind fun z1 => some ((), z1.2))
theorem p_X12_laysBack (x0 : Nat) (t : mk_S) : mk_O mk_wu M_X12_laysBack 0 [some (.ref x0)] [] t ((F_X12_carriesAll x0 (4 : Int32) (1 : Int32) t).bind fun z1 => some ((), z1.2)) := by
  refine xo_aload_n rfl rfl dX12_laysBack_0 ?_
  refine xo_iconst kc_4 dX12_laysBack_1 ?_
  refine xo_iconst kc_1 dX12_laysBack_2 ?_
  refine mk_O.callV (N := M_X12_carriesAll) (ci := 11) (q := (RX12, TX12, 64)) (b := x0) (As1 := [.int (4 : Int32), .int (1 : Int32)]) (S := []) md_X12_carriesAll mv_X12_carriesAll lk_RX12_438 rfl (Nat.le_of_ble_eq_true rfl) (by decide) dX12_laysBack_3 rfl rfl rfl (fun z hz => (c_X12_carriesAll x0 (4 : Int32) (1 : Int32) t z hz).1) (fun z hz => (c_X12_carriesAll x0 (4 : Int32) (1 : Int32) t z hz).2) (fun z1 _ => ?_)
  show mk_O _ _ _ _ [] _ _
  exact xo_vret dX12_laysBack_6 rfl
theorem c_X12_laysBack (x0 : Nat) (t : mk_S) (z : Unit × mk_S) (h : F_X12_laysBack x0 t = some z) : mk_is t x0 11 ∧ mk_Ct M_X12_laysBack [.ref x0] t (mk_wu z.1, z.2) :=
  ⟨(mk_gd_spec h).1, mk_ct (w := mk_wu) (by decide +kernel) (Nat.le_of_ble_eq_true rfl) (p_X12_laysBack x0 t) z (mk_gd_spec h).2⟩
def B_X12_ahead_133 (x0 : Nat) (s0 : Int32) (t : mk_S) : Option (Int32 × mk_S) := (F_X12_laysBack x0 t).bind fun z1 => some (s0, z1.2)
def B_X12_ahead_48 (x0 : Nat) (x1 : Int32) (x2 : Int32) (x3 : Int32) (s0 : Int32) (t : mk_S) : Option (Int32 × mk_S) := (F_X12_isPlateau x0 t).bind fun z1 => if z1.1 = 0 then (some ((-1 : Int32), z1.2)) else (if s0 = 0 then (some ((-1 : Int32), z1.2)) else ((F_X12_in ((x2).toInt64) (0 : Int64) (100 : Int64) z1.2).bind fun z2 => if z2.1 = 0 then (some ((-1 : Int32), z2.2)) else ((F_X12_keepsAll x0 z2.2).bind fun z3 => (F_X12_goFor x0 x2 z3.2).bind fun z4 => if x3 = 0 then ((mk_ga z4.2 x0 11 4).bind fun v5 => (mk_ld 100 z4.2 v5 x1).bind fun v6 => B_X12_ahead_133 x0 v6 z4.2) else (if x3 = (1 : Int32) then ((mk_ga z4.2 x0 11 7).bind fun v7 => (mk_ld 100 z4.2 v7 x1).bind fun v8 => B_X12_ahead_133 x0 v8 z4.2) else (if x3 = (2 : Int32) then ((mk_ga z4.2 x0 11 8).bind fun v9 => (mk_ld 100 z4.2 v9 x1).bind fun v10 => B_X12_ahead_133 x0 v10 z4.2) else ((mk_ga z4.2 x0 11 1).bind fun v11 => (mk_ld 100 z4.2 v11 (6 : Int32)).bind fun v12 => B_X12_ahead_133 x0 v12 z4.2))))))
def B_X12_ahead_43 (x0 : Nat) (x1 : Int32) (x2 : Int32) (x3 : Int32) (t : mk_S) : Option (Int32 × mk_S) := B_X12_ahead_48 x0 x1 x2 x3 (1 : Int32) t
def B_X12_ahead_38 (x0 : Nat) (x1 : Int32) (x2 : Int32) (x3 : Int32) (t : mk_S) : Option (Int32 × mk_S) := if x3 = (3 : Int32) then (B_X12_ahead_43 x0 x1 x2 x3 t) else (B_X12_ahead_48 x0 x1 x2 x3 (0 : Int32) t)
def B_X12_ahead_25 (x0 : Nat) (x1 : Int32) (x2 : Int32) (x3 : Int32) (t : mk_S) : Option (Int32 × mk_S) := if x3 = (2 : Int32) then ((F_X12_isCell x0 x1 t).bind fun z1 => if z1.1 = 0 then (B_X12_ahead_38 x0 x1 x2 x3 z1.2) else (B_X12_ahead_43 x0 x1 x2 x3 z1.2)) else (B_X12_ahead_38 x0 x1 x2 x3 t)
def B_X12_ahead_12 (x0 : Nat) (x1 : Int32) (x2 : Int32) (x3 : Int32) (t : mk_S) : Option (Int32 × mk_S) := if x3 = (1 : Int32) then ((F_X12_isMill x0 x1 t).bind fun z1 => if z1.1 = 0 then (B_X12_ahead_25 x0 x1 x2 x3 z1.2) else (B_X12_ahead_43 x0 x1 x2 x3 z1.2)) else (B_X12_ahead_25 x0 x1 x2 x3 t)
def F_X12_ahead (x0 : Nat) (x1 : Int32) (x2 : Int32) (x3 : Int32) (t : mk_S) : Option (Int32 × mk_S) := mk_gd t x0 11 (if x3 = 0 then ((F_X12_isPerson x0 x1 t).bind fun z1 => if z1.1 = 0 then (B_X12_ahead_12 x0 x1 x2 x3 z1.2) else (B_X12_ahead_43 x0 x1 x2 x3 z1.2)) else (B_X12_ahead_12 x0 x1 x2 x3 t))
theorem o_X12_ahead_133 (x0 : Nat) (s0 : Int32) (t : mk_S) : mk_O mk_wi M_X12_ahead 133 [some (.ref x0), none, none, none, none, none] [.int s0] t (B_X12_ahead_133 x0 s0 t) := by
  unfold B_X12_ahead_133
  refine xo_istore (by decide) (mk_p1_n rfl) dX12_ahead_133 ?_
  refine xo_aload_n rfl rfl dX12_ahead_135 ?_
  refine mk_O.callV (N := M_X12_laysBack) (ci := 11) (q := (RX12, TX12, 64)) (b := x0) (As1 := []) (S := []) md_X12_laysBack mv_X12_laysBack lk_RX12_449 rfl (Nat.le_of_ble_eq_true rfl) (by decide) dX12_ahead_136 rfl rfl rfl (fun z hz => (c_X12_laysBack x0 t z hz).1) (fun z hz => (c_X12_laysBack x0 t z hz).2) (fun z1 _ => ?_)
  show mk_O _ _ _ _ [] _ _
  refine xo_iload rfl dX12_ahead_139 ?_
  exact xo_iret dX12_ahead_141 rfl
theorem o_X12_ahead_48 (x0 : Nat) (x1 : Int32) (x2 : Int32) (x3 : Int32) (s0 : Int32) (t : mk_S) : mk_O mk_wi M_X12_ahead 48 [some (.ref x0), some (.int x1), some (.int x2), some (.int x3), none, none] [.int s0] t (B_X12_ahead_48 x0 x1 x2 x3 s0 t) := by
  unfold B_X12_ahead_48
  refine xo_istore (by decide) (mk_p1_v rfl rfl) dX12_ahead_48 ?_
  refine xo_aload_n rfl rfl dX12_ahead_50 ?_
  refine mk_O.callV (N := M_X12_isPlateau) (ci := 11) (q := (RX12, TX12, 64)) (b := x0) (As1 := []) (S := []) md_X12_isPlateau mv_X12_isPlateau lk_RX12_428 rfl (Nat.le_of_ble_eq_true rfl) (by decide) dX12_ahead_51 rfl rfl rfl (fun z hz => (c_X12_isPlateau x0 t z hz).1) (fun z hz => (c_X12_isPlateau x0 t z hz).2) (fun z1 _ => ?_)
  show mk_O _ _ _ _ (.int z1.1 :: []) _ _
  refine xo_if_eq (tgt := 74) dX12_ahead_54 rfl (fun _ => ?_) (fun _ => ?_)
  · refine xo_iconst kc_m1 dX12_ahead_74 ?_
    exact xo_iret dX12_ahead_75 rfl
  · refine xo_iload rfl dX12_ahead_57 ?_
    refine xo_if_eq (tgt := 74) dX12_ahead_59 rfl (fun _ => ?_) (fun _ => ?_)
    · refine xo_iconst kc_m1 dX12_ahead_74 ?_
      exact xo_iret dX12_ahead_75 rfl
    · refine xo_iload_n rfl rfl dX12_ahead_62 ?_
      refine xo_i2l dX12_ahead_63 ?_
      refine xo_lconst kl_0 dX12_ahead_64 ?_
      refine xo_ldc2 (v := 100) (mk_w7 (i := 192) rfl rfl) dX12_ahead_65 ?_
      refine mk_O.callS (N := M_X12_in) (As := [.long ((x2).toInt64), .long (0 : Int64), .long (100 : Int64)]) (S := []) md_X12_in ms_X12_in lk_RX12_159 rfl (Nat.le_of_ble_eq_true rfl) (by decide) dX12_ahead_68 rfl (fun z hz => c_X12_in ((x2).toInt64) (0 : Int64) (100 : Int64) z1.2 z hz) (fun z2 _ => ?_)
      show mk_O _ _ _ _ (.int z2.1 :: []) _ _
      refine xo_if_ne (tgt := 76) dX12_ahead_71 rfl (fun _ => ?_) (fun _ => ?_)
      · refine xo_iconst kc_m1 dX12_ahead_74 ?_
        exact xo_iret dX12_ahead_75 rfl
      · refine xo_aload_n rfl rfl dX12_ahead_76 ?_
        refine mk_O.callV (N := M_X12_keepsAll) (ci := 11) (q := (RX12, TX12, 64)) (b := x0) (As1 := []) (S := []) md_X12_keepsAll mv_X12_keepsAll lk_RX12_443 rfl (Nat.le_of_ble_eq_true rfl) (by decide) dX12_ahead_77 rfl rfl rfl (fun z hz => (c_X12_keepsAll x0 z2.2 z hz).1) (fun z hz => (c_X12_keepsAll x0 z2.2 z hz).2) (fun z3 _ => ?_)
        show mk_O _ _ _ _ [] _ _
        refine xo_aload_n rfl rfl dX12_ahead_80 ?_
        refine xo_iload_n rfl rfl dX12_ahead_81 ?_
        refine mk_O.callV (N := M_X12_goFor) (ci := 11) (q := (RX12, TX12, 64)) (b := x0) (As1 := [.int x2]) (S := []) md_X12_goFor mv_X12_goFor lk_RX12_446 rfl (Nat.le_of_ble_eq_true rfl) (by decide) dX12_ahead_82 rfl rfl rfl (fun z hz => (c_X12_goFor x0 x2 z3.2 z hz).1) (fun z hz => (c_X12_goFor x0 x2 z3.2 z hz).2) (fun z4 _ => ?_)
        show mk_O _ _ _ _ [] _ _
        refine xo_iload_n rfl rfl dX12_ahead_85 ?_
        refine xo_if_ne (tgt := 98) dX12_ahead_86 rfl (fun _ => ?_) (fun _ => ?_)
        · refine xo_aload_n rfl rfl dX12_ahead_89 ?_
          refine xo_geta dX12_ahead_90 cl_11 fl_RX12_19 rfl (fun v5 => ?_)
          refine xo_iload_n rfl rfl dX12_ahead_93 ?_
          refine xo_iald dX12_ahead_94 (fun v6 => ?_)
          refine xo_goto (tgt := 133) dX12_ahead_95 rfl ?_
          exact mk_O.wk (o_X12_ahead_133 x0 v6 z4.2) ⟨rfl, trivial⟩
        · refine xo_iload_n rfl rfl dX12_ahead_98 ?_
          refine xo_iconst kc_1 dX12_ahead_99 ?_
          refine xo_icmp_ne (tgt := 112) dX12_ahead_100 rfl (fun _ => ?_) (fun _ => ?_)
          · refine xo_aload_n rfl rfl dX12_ahead_103 ?_
            refine xo_geta dX12_ahead_104 cl_11 fl_RX12_28 rfl (fun v7 => ?_)
            refine xo_iload_n rfl rfl dX12_ahead_107 ?_
            refine xo_iald dX12_ahead_108 (fun v8 => ?_)
            refine xo_goto (tgt := 133) dX12_ahead_109 rfl ?_
            exact mk_O.wk (o_X12_ahead_133 x0 v8 z4.2) ⟨rfl, trivial⟩
          · refine xo_iload_n rfl rfl dX12_ahead_112 ?_
            refine xo_iconst kc_2 dX12_ahead_113 ?_
            refine xo_icmp_ne (tgt := 126) dX12_ahead_114 rfl (fun _ => ?_) (fun _ => ?_)
            · refine xo_aload_n rfl rfl dX12_ahead_117 ?_
              refine xo_geta dX12_ahead_118 cl_11 fl_RX12_31 rfl (fun v9 => ?_)
              refine xo_iload_n rfl rfl dX12_ahead_121 ?_
              refine xo_iald dX12_ahead_122 (fun v10 => ?_)
              refine xo_goto (tgt := 133) dX12_ahead_123 rfl ?_
              exact mk_O.wk (o_X12_ahead_133 x0 v10 z4.2) ⟨rfl, trivial⟩
            · refine xo_aload_n rfl rfl dX12_ahead_126 ?_
              refine xo_geta dX12_ahead_127 cl_11 fl_RX12_9 rfl (fun v11 => ?_)
              refine xo_bipush kb_6 dX12_ahead_130 ?_
              refine xo_iald dX12_ahead_132 (fun v12 => ?_)
              exact mk_O.wk (o_X12_ahead_133 x0 v12 z4.2) ⟨rfl, trivial⟩
theorem o_X12_ahead_43 (x0 : Nat) (x1 : Int32) (x2 : Int32) (x3 : Int32) (t : mk_S) : mk_O mk_wi M_X12_ahead 43 [some (.ref x0), some (.int x1), some (.int x2), some (.int x3), none, none] [] t (B_X12_ahead_43 x0 x1 x2 x3 t) := by
  unfold B_X12_ahead_43
  refine xo_iconst kc_1 dX12_ahead_43 ?_
  refine xo_goto (tgt := 48) dX12_ahead_44 rfl ?_
  exact mk_O.wk (o_X12_ahead_48 x0 x1 x2 x3 (1 : Int32) t) ⟨rfl, ⟨rfl, ⟨rfl, ⟨rfl, trivial⟩⟩⟩⟩
theorem o_X12_ahead_38 (x0 : Nat) (x1 : Int32) (x2 : Int32) (x3 : Int32) (t : mk_S) : mk_O mk_wi M_X12_ahead 38 [some (.ref x0), some (.int x1), some (.int x2), some (.int x3), none, none] [] t (B_X12_ahead_38 x0 x1 x2 x3 t) := by
  unfold B_X12_ahead_38
  refine xo_iload_n rfl rfl dX12_ahead_38 ?_
  refine xo_iconst kc_3 dX12_ahead_39 ?_
  refine xo_icmp_ne (tgt := 47) dX12_ahead_40 rfl (fun _ => ?_) (fun _ => ?_)
  · exact mk_O.wk (o_X12_ahead_43 x0 x1 x2 x3 t) ⟨rfl, ⟨rfl, ⟨rfl, ⟨rfl, trivial⟩⟩⟩⟩
  · refine xo_iconst kc_0 dX12_ahead_47 ?_
    exact mk_O.wk (o_X12_ahead_48 x0 x1 x2 x3 (0 : Int32) t) ⟨rfl, ⟨rfl, ⟨rfl, ⟨rfl, trivial⟩⟩⟩⟩
theorem o_X12_ahead_25 (x0 : Nat) (x1 : Int32) (x2 : Int32) (x3 : Int32) (t : mk_S) : mk_O mk_wi M_X12_ahead 25 [some (.ref x0), some (.int x1), some (.int x2), some (.int x3), none, none] [] t (B_X12_ahead_25 x0 x1 x2 x3 t) := by
  unfold B_X12_ahead_25
  refine xo_iload_n rfl rfl dX12_ahead_25 ?_
  refine xo_iconst kc_2 dX12_ahead_26 ?_
  refine xo_icmp_ne (tgt := 38) dX12_ahead_27 rfl (fun _ => ?_) (fun _ => ?_)
  · refine xo_aload_n rfl rfl dX12_ahead_30 ?_
    refine xo_iload_n rfl rfl dX12_ahead_31 ?_
    refine mk_O.callV (N := M_X12_isCell) (ci := 11) (q := (RX12, TX12, 64)) (b := x0) (As1 := [.int x1]) (S := []) md_X12_isCell mv_X12_isCell lk_RX12_373 rfl (Nat.le_of_ble_eq_true rfl) (by decide) dX12_ahead_32 rfl rfl rfl (fun z hz => (c_X12_isCell x0 x1 t z hz).1) (fun z hz => (c_X12_isCell x0 x1 t z hz).2) (fun z1 _ => ?_)
    show mk_O _ _ _ _ (.int z1.1 :: []) _ _
    refine xo_if_ne (tgt := 43) dX12_ahead_35 rfl (fun _ => ?_) (fun _ => ?_)
    · exact mk_O.wk (o_X12_ahead_38 x0 x1 x2 x3 z1.2) ⟨rfl, ⟨rfl, ⟨rfl, ⟨rfl, trivial⟩⟩⟩⟩
    · exact mk_O.wk (o_X12_ahead_43 x0 x1 x2 x3 z1.2) ⟨rfl, ⟨rfl, ⟨rfl, ⟨rfl, trivial⟩⟩⟩⟩
  · exact mk_O.wk (o_X12_ahead_38 x0 x1 x2 x3 t) ⟨rfl, ⟨rfl, ⟨rfl, ⟨rfl, trivial⟩⟩⟩⟩
theorem o_X12_ahead_12 (x0 : Nat) (x1 : Int32) (x2 : Int32) (x3 : Int32) (t : mk_S) : mk_O mk_wi M_X12_ahead 12 [some (.ref x0), some (.int x1), some (.int x2), some (.int x3), none, none] [] t (B_X12_ahead_12 x0 x1 x2 x3 t) := by
  unfold B_X12_ahead_12
  refine xo_iload_n rfl rfl dX12_ahead_12 ?_
  refine xo_iconst kc_1 dX12_ahead_13 ?_
  refine xo_icmp_ne (tgt := 25) dX12_ahead_14 rfl (fun _ => ?_) (fun _ => ?_)
  · refine xo_aload_n rfl rfl dX12_ahead_17 ?_
    refine xo_iload_n rfl rfl dX12_ahead_18 ?_
    refine mk_O.callV (N := M_X12_isMill) (ci := 11) (q := (RX12, TX12, 64)) (b := x0) (As1 := [.int x1]) (S := []) md_X12_isMill mv_X12_isMill lk_RX12_365 rfl (Nat.le_of_ble_eq_true rfl) (by decide) dX12_ahead_19 rfl rfl rfl (fun z hz => (c_X12_isMill x0 x1 t z hz).1) (fun z hz => (c_X12_isMill x0 x1 t z hz).2) (fun z1 _ => ?_)
    show mk_O _ _ _ _ (.int z1.1 :: []) _ _
    refine xo_if_ne (tgt := 43) dX12_ahead_22 rfl (fun _ => ?_) (fun _ => ?_)
    · exact mk_O.wk (o_X12_ahead_25 x0 x1 x2 x3 z1.2) ⟨rfl, ⟨rfl, ⟨rfl, ⟨rfl, trivial⟩⟩⟩⟩
    · exact mk_O.wk (o_X12_ahead_43 x0 x1 x2 x3 z1.2) ⟨rfl, ⟨rfl, ⟨rfl, ⟨rfl, trivial⟩⟩⟩⟩
  · exact mk_O.wk (o_X12_ahead_25 x0 x1 x2 x3 t) ⟨rfl, ⟨rfl, ⟨rfl, ⟨rfl, trivial⟩⟩⟩⟩
theorem p_X12_ahead (x0 : Nat) (x1 : Int32) (x2 : Int32) (x3 : Int32) (t : mk_S) : mk_O mk_wi M_X12_ahead 0 [some (.ref x0), some (.int x1), some (.int x2), some (.int x3), none, none] [] t (if x3 = 0 then ((F_X12_isPerson x0 x1 t).bind fun z1 => if z1.1 = 0 then (B_X12_ahead_12 x0 x1 x2 x3 z1.2) else (B_X12_ahead_43 x0 x1 x2 x3 z1.2)) else (B_X12_ahead_12 x0 x1 x2 x3 t)) := by
  refine xo_iload_n rfl rfl dX12_ahead_0 ?_
  refine xo_if_ne (tgt := 12) dX12_ahead_1 rfl (fun _ => ?_) (fun _ => ?_)
  · refine xo_aload_n rfl rfl dX12_ahead_4 ?_
    refine xo_iload_n rfl rfl dX12_ahead_5 ?_
    refine mk_O.callV (N := M_X12_isPerson) (ci := 11) (q := (RX12, TX12, 64)) (b := x0) (As1 := [.int x1]) (S := []) md_X12_isPerson mv_X12_isPerson lk_RX12_358 rfl (Nat.le_of_ble_eq_true rfl) (by decide) dX12_ahead_6 rfl rfl rfl (fun z hz => (c_X12_isPerson x0 x1 t z hz).1) (fun z hz => (c_X12_isPerson x0 x1 t z hz).2) (fun z1 _ => ?_)
    show mk_O _ _ _ _ (.int z1.1 :: []) _ _
    refine xo_if_ne (tgt := 43) dX12_ahead_9 rfl (fun _ => ?_) (fun _ => ?_)
    · exact mk_O.wk (o_X12_ahead_12 x0 x1 x2 x3 z1.2) ⟨rfl, ⟨rfl, ⟨rfl, ⟨rfl, trivial⟩⟩⟩⟩
    · exact mk_O.wk (o_X12_ahead_43 x0 x1 x2 x3 z1.2) ⟨rfl, ⟨rfl, ⟨rfl, ⟨rfl, trivial⟩⟩⟩⟩
  · exact mk_O.wk (o_X12_ahead_12 x0 x1 x2 x3 t) ⟨rfl, ⟨rfl, ⟨rfl, ⟨rfl, trivial⟩⟩⟩⟩
theorem c_X12_ahead (x0 : Nat) (x1 : Int32) (x2 : Int32) (x3 : Int32) (t : mk_S) (z : Int32 × mk_S) (h : F_X12_ahead x0 x1 x2 x3 t = some z) : mk_is t x0 11 ∧ mk_Ct M_X12_ahead [.ref x0, .int x1, .int x2, .int x3] t (mk_wi z.1, z.2) :=
  ⟨(mk_gd_spec h).1, mk_ct (w := mk_wi) (by decide +kernel) (Nat.le_of_ble_eq_true rfl) (p_X12_ahead x0 x1 x2 x3 t) z (mk_gd_spec h).2⟩
def B_X12_whim_55 (k19 : Nat → Int32 → Int32 → Int32 → mk_S → Option (Int32 × mk_S)) (x0 : Nat) (x1 : Int32) (x3 : Int32) (s0 : Int32) (t : mk_S) : Option (Int32 × mk_S) := k19 x0 x1 s0 (x3 + (1 : Int32)) t
def B_X12_whim_62 (x0 : Nat) (x2 : Int32) (t : mk_S) : Option (Int32 × mk_S) := (F_X12_laysBack x0 t).bind fun z1 => some (x2, z1.2)
def B_X12_whim_19 : Nat → Nat → Int32 → Int32 → Int32 → mk_S → Option (Int32 × mk_S)
  | 0, _, _, _, _, _ => none
  | n + 1, x0, x1, x2, x3, t => if (100 : Int32) ≤ x3 then (B_X12_whim_62 x0 x2 t) else (if x2 = (-2 : Int32) then ((F_X12_goes x0 t).bind fun z1 => (F_X12_has z1.1 x1 z1.2).bind fun z2 => if z2.1 = 0 then (B_X12_whim_55 (B_X12_whim_19 n) x0 x1 x3 (-2 : Int32) z2.2) else ((mk_ga z2.2 x0 11 1).bind fun v3 => (mk_ld 100 z2.2 v3 (5 : Int32)).bind fun v4 => B_X12_whim_55 (B_X12_whim_19 n) x0 x1 x3 (v4 - (1 : Int32)) z2.2)) else (B_X12_whim_62 x0 x2 t))
def F_X12_whim (x0 : Nat) (x1 : Int32) (t : mk_S) : Option (Int32 × mk_S) := mk_gd t x0 11 ((F_X12_isPerson x0 x1 t).bind fun z1 => if z1.1 = 0 then (some ((-1 : Int32), z1.2)) else ((F_X12_keepsAll x0 z1.2).bind fun z2 => B_X12_whim_19 mk_fu x0 x1 (-2 : Int32) (0 : Int32) z2.2))
theorem o_X12_whim_55 (k19 : Nat → Int32 → Int32 → Int32 → mk_S → Option (Int32 × mk_S)) (h19 : ∀ (x0 : Nat) (x1 : Int32) (x2 : Int32) (x3 : Int32) (t : mk_S), mk_O mk_wi M_X12_whim 19 [some (.ref x0), some (.int x1), some (.int x2), some (.int x3)] [] t (k19 x0 x1 x2 x3 t)) (x0 : Nat) (x1 : Int32) (x3 : Int32) (s0 : Int32) (t : mk_S) : mk_O mk_wi M_X12_whim 55 [some (.ref x0), some (.int x1), none, some (.int x3)] [.int s0] t (B_X12_whim_55 k19 x0 x1 x3 s0 t) := by
  unfold B_X12_whim_55
  refine xo_istore_n rfl (by decide) (mk_p1_v rfl rfl) dX12_whim_55 ?_
  refine xo_iinc rfl (congrArg _ kc_1) (by decide) (mk_p1_v rfl rfl) dX12_whim_56 ?_
  refine xo_goto (tgt := 19) dX12_whim_59 rfl ?_
  exact mk_O.wk (h19 x0 x1 s0 (x3 + (1 : Int32)) t) ⟨rfl, ⟨rfl, ⟨rfl, ⟨rfl, trivial⟩⟩⟩⟩
theorem o_X12_whim_62 (x0 : Nat) (x2 : Int32) (t : mk_S) : mk_O mk_wi M_X12_whim 62 [some (.ref x0), none, some (.int x2), none] [] t (B_X12_whim_62 x0 x2 t) := by
  unfold B_X12_whim_62
  refine xo_aload_n rfl rfl dX12_whim_62 ?_
  refine mk_O.callV (N := M_X12_laysBack) (ci := 11) (q := (RX12, TX12, 64)) (b := x0) (As1 := []) (S := []) md_X12_laysBack mv_X12_laysBack lk_RX12_449 rfl (Nat.le_of_ble_eq_true rfl) (by decide) dX12_whim_63 rfl rfl rfl (fun z hz => (c_X12_laysBack x0 t z hz).1) (fun z hz => (c_X12_laysBack x0 t z hz).2) (fun z1 _ => ?_)
  show mk_O _ _ _ _ [] _ _
  refine xo_iload_n rfl rfl dX12_whim_66 ?_
  exact xo_iret dX12_whim_67 rfl
theorem o_X12_whim_19 : ∀ (n : Nat) (x0 : Nat) (x1 : Int32) (x2 : Int32) (x3 : Int32) (t : mk_S), mk_O mk_wi M_X12_whim 19 [some (.ref x0), some (.int x1), some (.int x2), some (.int x3)] [] t (B_X12_whim_19 n x0 x1 x2 x3 t) := by
  intro n
  induction n with
  | zero =>
    intro x0 x1 x2 x3 t
    exact mk_O.none
  | succ n ih =>
    intro x0 x1 x2 x3 t
    rw [B_X12_whim_19]
    refine xo_iload_n rfl rfl dX12_whim_19 ?_
    refine xo_bipush kb_100 dX12_whim_20 ?_
    refine xo_icmp_ge (tgt := 62) dX12_whim_22 rfl (fun _ => ?_) (fun _ => ?_)
    · exact mk_O.wk (o_X12_whim_62 x0 x2 t) ⟨rfl, ⟨rfl, trivial⟩⟩
    · refine xo_iload_n rfl rfl dX12_whim_25 ?_
      refine xo_bipush kb_m2 dX12_whim_26 ?_
      refine xo_icmp_ne (tgt := 62) dX12_whim_28 rfl (fun _ => ?_) (fun _ => ?_)
      · refine xo_aload_n rfl rfl dX12_whim_31 ?_
        refine mk_O.callV (N := M_X12_goes) (ci := 11) (q := (RX12, TX12, 64)) (b := x0) (As1 := []) (S := []) md_X12_goes mv_X12_goes lk_RX12_407 rfl (Nat.le_of_ble_eq_true rfl) (by decide) dX12_whim_32 rfl rfl rfl (fun z hz => (c_X12_goes x0 t z hz).1) (fun z hz => (c_X12_goes x0 t z hz).2) (fun z1 _ => ?_)
        show mk_O _ _ _ _ (.int z1.1 :: []) _ _
        refine xo_iload_n rfl rfl dX12_whim_35 ?_
        refine mk_O.callS (N := M_X12_has) (As := [.int z1.1, .int x1]) (S := []) md_X12_has ms_X12_has lk_RX12_389 rfl (Nat.le_of_ble_eq_true rfl) (by decide) dX12_whim_36 rfl (fun z hz => c_X12_has z1.1 x1 z1.2 z hz) (fun z2 _ => ?_)
        show mk_O _ _ _ _ (.int z2.1 :: []) _ _
        refine xo_if_eq (tgt := 53) dX12_whim_39 rfl (fun _ => ?_) (fun _ => ?_)
        · refine xo_bipush kb_m2 dX12_whim_53 ?_
          exact mk_O.wk (o_X12_whim_55 _ ih x0 x1 x3 (-2 : Int32) z2.2) ⟨rfl, ⟨rfl, ⟨rfl, trivial⟩⟩⟩
        · refine xo_aload_n rfl rfl dX12_whim_42 ?_
          refine xo_geta dX12_whim_43 cl_11 fl_RX12_9 rfl (fun v3 => ?_)
          refine xo_iconst kc_5 dX12_whim_46 ?_
          refine xo_iald dX12_whim_47 (fun v4 => ?_)
          refine xo_iconst kc_1 dX12_whim_48 ?_
          refine xo_isub dX12_whim_49 ?_
          refine xo_goto (tgt := 55) dX12_whim_50 rfl ?_
          exact mk_O.wk (o_X12_whim_55 _ ih x0 x1 x3 (v4 - (1 : Int32)) z2.2) ⟨rfl, ⟨rfl, ⟨rfl, trivial⟩⟩⟩
      · exact mk_O.wk (o_X12_whim_62 x0 x2 t) ⟨rfl, ⟨rfl, trivial⟩⟩
theorem p_X12_whim (x0 : Nat) (x1 : Int32) (t : mk_S) : mk_O mk_wi M_X12_whim 0 [some (.ref x0), some (.int x1), none, none] [] t ((F_X12_isPerson x0 x1 t).bind fun z1 => if z1.1 = 0 then (some ((-1 : Int32), z1.2)) else ((F_X12_keepsAll x0 z1.2).bind fun z2 => B_X12_whim_19 mk_fu x0 x1 (-2 : Int32) (0 : Int32) z2.2)) := by
  refine xo_aload_n rfl rfl dX12_whim_0 ?_
  refine xo_iload_n rfl rfl dX12_whim_1 ?_
  refine mk_O.callV (N := M_X12_isPerson) (ci := 11) (q := (RX12, TX12, 64)) (b := x0) (As1 := [.int x1]) (S := []) md_X12_isPerson mv_X12_isPerson lk_RX12_358 rfl (Nat.le_of_ble_eq_true rfl) (by decide) dX12_whim_2 rfl rfl rfl (fun z hz => (c_X12_isPerson x0 x1 t z hz).1) (fun z hz => (c_X12_isPerson x0 x1 t z hz).2) (fun z1 _ => ?_)
  show mk_O _ _ _ _ (.int z1.1 :: []) _ _
  refine xo_if_ne (tgt := 10) dX12_whim_5 rfl (fun _ => ?_) (fun _ => ?_)
  · refine xo_iconst kc_m1 dX12_whim_8 ?_
    exact xo_iret dX12_whim_9 rfl
  · refine xo_aload_n rfl rfl dX12_whim_10 ?_
    refine mk_O.callV (N := M_X12_keepsAll) (ci := 11) (q := (RX12, TX12, 64)) (b := x0) (As1 := []) (S := []) md_X12_keepsAll mv_X12_keepsAll lk_RX12_443 rfl (Nat.le_of_ble_eq_true rfl) (by decide) dX12_whim_11 rfl rfl rfl (fun z hz => (c_X12_keepsAll x0 z1.2 z hz).1) (fun z hz => (c_X12_keepsAll x0 z1.2 z hz).2) (fun z2 _ => ?_)
    show mk_O _ _ _ _ [] _ _
    refine xo_bipush kb_m2 dX12_whim_14 ?_
    refine xo_istore_n rfl (by decide) (mk_p1_v rfl rfl) dX12_whim_16 ?_
    refine xo_iconst kc_0 dX12_whim_17 ?_
    refine xo_istore_n rfl (by decide) (mk_p1_v rfl rfl) dX12_whim_18 ?_
    exact mk_O.wk (o_X12_whim_19 mk_fu x0 x1 (-2 : Int32) (0 : Int32) z2.2) ⟨rfl, ⟨rfl, ⟨rfl, ⟨rfl, trivial⟩⟩⟩⟩
theorem c_X12_whim (x0 : Nat) (x1 : Int32) (t : mk_S) (z : Int32 × mk_S) (h : F_X12_whim x0 x1 t = some z) : mk_is t x0 11 ∧ mk_Ct M_X12_whim [.ref x0, .int x1] t (mk_wi z.1, z.2) :=
  ⟨(mk_gd_spec h).1, mk_ct (w := mk_wi) (by decide +kernel) (Nat.le_of_ble_eq_true rfl) (p_X12_whim x0 x1 t) z (mk_gd_spec h).2⟩
def B_X12_storm_66 (k30 : Nat → Int32 → Int32 → Int32 → mk_S → Option (Int32 × mk_S)) (x0 : Nat) (x1 : Int32) (x3 : Int32) (s0 : Int32) (t : mk_S) : Option (Int32 × mk_S) := k30 x0 x1 s0 (x3 + (1 : Int32)) t
def B_X12_storm_73 (x0 : Nat) (x2 : Int32) (t : mk_S) : Option (Int32 × mk_S) := (F_X12_laysBack x0 t).bind fun z1 => some (x2, z1.2)
def B_X12_storm_30 : Nat → Nat → Int32 → Int32 → Int32 → mk_S → Option (Int32 × mk_S)
  | 0, _, _, _, _, _ => none
  | n + 1, x0, x1, x2, x3, t => if (100 : Int32) ≤ x3 then (B_X12_storm_73 x0 x2 t) else (if x2 = (-2 : Int32) then ((F_X12_goes x0 t).bind fun z1 => (F_X12_bits z1.1 z1.2).bind fun z2 => if z2.1 < x1 then (B_X12_storm_66 (B_X12_storm_30 n) x0 x1 x3 (-2 : Int32) z2.2) else ((mk_ga z2.2 x0 11 1).bind fun v3 => (mk_ld 100 z2.2 v3 (5 : Int32)).bind fun v4 => B_X12_storm_66 (B_X12_storm_30 n) x0 x1 x3 (v4 - (1 : Int32)) z2.2)) else (B_X12_storm_73 x0 x2 t))
def F_X12_storm (x0 : Nat) (x1 : Int32) (t : mk_S) : Option (Int32 × mk_S) := mk_gd t x0 11 ((F_X12_isPlateau x0 t).bind fun z1 => if z1.1 = 0 then (some ((-1 : Int32), z1.2)) else ((F_X12_in ((x1).toInt64) (1 : Int64) (6 : Int64) z1.2).bind fun z2 => if z2.1 = 0 then (some ((-1 : Int32), z2.2)) else ((F_X12_keepsAll x0 z2.2).bind fun z3 => B_X12_storm_30 mk_fu x0 x1 (-2 : Int32) (0 : Int32) z3.2)))
theorem o_X12_storm_66 (k30 : Nat → Int32 → Int32 → Int32 → mk_S → Option (Int32 × mk_S)) (h30 : ∀ (x0 : Nat) (x1 : Int32) (x2 : Int32) (x3 : Int32) (t : mk_S), mk_O mk_wi M_X12_storm 30 [some (.ref x0), some (.int x1), some (.int x2), some (.int x3)] [] t (k30 x0 x1 x2 x3 t)) (x0 : Nat) (x1 : Int32) (x3 : Int32) (s0 : Int32) (t : mk_S) : mk_O mk_wi M_X12_storm 66 [some (.ref x0), some (.int x1), none, some (.int x3)] [.int s0] t (B_X12_storm_66 k30 x0 x1 x3 s0 t) := by
  unfold B_X12_storm_66
  refine xo_istore_n rfl (by decide) (mk_p1_v rfl rfl) dX12_storm_66 ?_
  refine xo_iinc rfl (congrArg _ kc_1) (by decide) (mk_p1_v rfl rfl) dX12_storm_67 ?_
  refine xo_goto (tgt := 30) dX12_storm_70 rfl ?_
  exact mk_O.wk (h30 x0 x1 s0 (x3 + (1 : Int32)) t) ⟨rfl, ⟨rfl, ⟨rfl, ⟨rfl, trivial⟩⟩⟩⟩
theorem o_X12_storm_73 (x0 : Nat) (x2 : Int32) (t : mk_S) : mk_O mk_wi M_X12_storm 73 [some (.ref x0), none, some (.int x2), none] [] t (B_X12_storm_73 x0 x2 t) := by
  unfold B_X12_storm_73
  refine xo_aload_n rfl rfl dX12_storm_73 ?_
  refine mk_O.callV (N := M_X12_laysBack) (ci := 11) (q := (RX12, TX12, 64)) (b := x0) (As1 := []) (S := []) md_X12_laysBack mv_X12_laysBack lk_RX12_449 rfl (Nat.le_of_ble_eq_true rfl) (by decide) dX12_storm_74 rfl rfl rfl (fun z hz => (c_X12_laysBack x0 t z hz).1) (fun z hz => (c_X12_laysBack x0 t z hz).2) (fun z1 _ => ?_)
  show mk_O _ _ _ _ [] _ _
  refine xo_iload_n rfl rfl dX12_storm_77 ?_
  exact xo_iret dX12_storm_78 rfl
theorem o_X12_storm_30 : ∀ (n : Nat) (x0 : Nat) (x1 : Int32) (x2 : Int32) (x3 : Int32) (t : mk_S), mk_O mk_wi M_X12_storm 30 [some (.ref x0), some (.int x1), some (.int x2), some (.int x3)] [] t (B_X12_storm_30 n x0 x1 x2 x3 t) := by
  intro n
  induction n with
  | zero =>
    intro x0 x1 x2 x3 t
    exact mk_O.none
  | succ n ih =>
    intro x0 x1 x2 x3 t
    rw [B_X12_storm_30]
    refine xo_iload_n rfl rfl dX12_storm_30 ?_
    refine xo_bipush kb_100 dX12_storm_31 ?_
    refine xo_icmp_ge (tgt := 73) dX12_storm_33 rfl (fun _ => ?_) (fun _ => ?_)
    · exact mk_O.wk (o_X12_storm_73 x0 x2 t) ⟨rfl, ⟨rfl, trivial⟩⟩
    · refine xo_iload_n rfl rfl dX12_storm_36 ?_
      refine xo_bipush kb_m2 dX12_storm_37 ?_
      refine xo_icmp_ne (tgt := 73) dX12_storm_39 rfl (fun _ => ?_) (fun _ => ?_)
      · refine xo_aload_n rfl rfl dX12_storm_42 ?_
        refine mk_O.callV (N := M_X12_goes) (ci := 11) (q := (RX12, TX12, 64)) (b := x0) (As1 := []) (S := []) md_X12_goes mv_X12_goes lk_RX12_407 rfl (Nat.le_of_ble_eq_true rfl) (by decide) dX12_storm_43 rfl rfl rfl (fun z hz => (c_X12_goes x0 t z hz).1) (fun z hz => (c_X12_goes x0 t z hz).2) (fun z1 _ => ?_)
        show mk_O _ _ _ _ (.int z1.1 :: []) _ _
        refine mk_O.callS (N := M_X12_bits) (As := [.int z1.1]) (S := []) md_X12_bits ms_X12_bits lk_RX12_382 rfl (Nat.le_of_ble_eq_true rfl) (by decide) dX12_storm_46 rfl (fun z hz => c_X12_bits z1.1 z1.2 z hz) (fun z2 _ => ?_)
        show mk_O _ _ _ _ (.int z2.1 :: []) _ _
        refine xo_iload_n rfl rfl dX12_storm_49 ?_
        refine xo_icmp_lt (tgt := 64) dX12_storm_50 rfl (fun _ => ?_) (fun _ => ?_)
        · refine xo_bipush kb_m2 dX12_storm_64 ?_
          exact mk_O.wk (o_X12_storm_66 _ ih x0 x1 x3 (-2 : Int32) z2.2) ⟨rfl, ⟨rfl, ⟨rfl, trivial⟩⟩⟩
        · refine xo_aload_n rfl rfl dX12_storm_53 ?_
          refine xo_geta dX12_storm_54 cl_11 fl_RX12_9 rfl (fun v3 => ?_)
          refine xo_iconst kc_5 dX12_storm_57 ?_
          refine xo_iald dX12_storm_58 (fun v4 => ?_)
          refine xo_iconst kc_1 dX12_storm_59 ?_
          refine xo_isub dX12_storm_60 ?_
          refine xo_goto (tgt := 66) dX12_storm_61 rfl ?_
          exact mk_O.wk (o_X12_storm_66 _ ih x0 x1 x3 (v4 - (1 : Int32)) z2.2) ⟨rfl, ⟨rfl, ⟨rfl, trivial⟩⟩⟩
      · exact mk_O.wk (o_X12_storm_73 x0 x2 t) ⟨rfl, ⟨rfl, trivial⟩⟩
theorem p_X12_storm (x0 : Nat) (x1 : Int32) (t : mk_S) : mk_O mk_wi M_X12_storm 0 [some (.ref x0), some (.int x1), none, none] [] t ((F_X12_isPlateau x0 t).bind fun z1 => if z1.1 = 0 then (some ((-1 : Int32), z1.2)) else ((F_X12_in ((x1).toInt64) (1 : Int64) (6 : Int64) z1.2).bind fun z2 => if z2.1 = 0 then (some ((-1 : Int32), z2.2)) else ((F_X12_keepsAll x0 z2.2).bind fun z3 => B_X12_storm_30 mk_fu x0 x1 (-2 : Int32) (0 : Int32) z3.2))) := by
  refine xo_aload_n rfl rfl dX12_storm_0 ?_
  refine mk_O.callV (N := M_X12_isPlateau) (ci := 11) (q := (RX12, TX12, 64)) (b := x0) (As1 := []) (S := []) md_X12_isPlateau mv_X12_isPlateau lk_RX12_428 rfl (Nat.le_of_ble_eq_true rfl) (by decide) dX12_storm_1 rfl rfl rfl (fun z hz => (c_X12_isPlateau x0 t z hz).1) (fun z hz => (c_X12_isPlateau x0 t z hz).2) (fun z1 _ => ?_)
  show mk_O _ _ _ _ (.int z1.1 :: []) _ _
  refine xo_if_eq (tgt := 19) dX12_storm_4 rfl (fun _ => ?_) (fun _ => ?_)
  · refine xo_iconst kc_m1 dX12_storm_19 ?_
    exact xo_iret dX12_storm_20 rfl
  · refine xo_iload_n rfl rfl dX12_storm_7 ?_
    refine xo_i2l dX12_storm_8 ?_
    refine xo_lconst kl_1 dX12_storm_9 ?_
    refine xo_ldc2 (v := 6) (mk_w7 (i := 221) rfl rfl) dX12_storm_10 ?_
    refine mk_O.callS (N := M_X12_in) (As := [.long ((x1).toInt64), .long (1 : Int64), .long (6 : Int64)]) (S := []) md_X12_in ms_X12_in lk_RX12_159 rfl (Nat.le_of_ble_eq_true rfl) (by decide) dX12_storm_13 rfl (fun z hz => c_X12_in ((x1).toInt64) (1 : Int64) (6 : Int64) z1.2 z hz) (fun z2 _ => ?_)
    show mk_O _ _ _ _ (.int z2.1 :: []) _ _
    refine xo_if_ne (tgt := 21) dX12_storm_16 rfl (fun _ => ?_) (fun _ => ?_)
    · refine xo_iconst kc_m1 dX12_storm_19 ?_
      exact xo_iret dX12_storm_20 rfl
    · refine xo_aload_n rfl rfl dX12_storm_21 ?_
      refine mk_O.callV (N := M_X12_keepsAll) (ci := 11) (q := (RX12, TX12, 64)) (b := x0) (As1 := []) (S := []) md_X12_keepsAll mv_X12_keepsAll lk_RX12_443 rfl (Nat.le_of_ble_eq_true rfl) (by decide) dX12_storm_22 rfl rfl rfl (fun z hz => (c_X12_keepsAll x0 z2.2 z hz).1) (fun z hz => (c_X12_keepsAll x0 z2.2 z hz).2) (fun z3 _ => ?_)
      show mk_O _ _ _ _ [] _ _
      refine xo_bipush kb_m2 dX12_storm_25 ?_
      refine xo_istore_n rfl (by decide) (mk_p1_v rfl rfl) dX12_storm_27 ?_
      refine xo_iconst kc_0 dX12_storm_28 ?_
      refine xo_istore_n rfl (by decide) (mk_p1_v rfl rfl) dX12_storm_29 ?_
      exact mk_O.wk (o_X12_storm_30 mk_fu x0 x1 (-2 : Int32) (0 : Int32) z3.2) ⟨rfl, ⟨rfl, ⟨rfl, ⟨rfl, trivial⟩⟩⟩⟩
theorem c_X12_storm (x0 : Nat) (x1 : Int32) (t : mk_S) (z : Int32 × mk_S) (h : F_X12_storm x0 x1 t = some z) : mk_is t x0 11 ∧ mk_Ct M_X12_storm [.ref x0, .int x1] t (mk_wi z.1, z.2) :=
  ⟨(mk_gd_spec h).1, mk_ct (w := mk_wi) (by decide +kernel) (Nat.le_of_ble_eq_true rfl) (p_X12_storm x0 x1 t) z (mk_gd_spec h).2⟩
def F_X12_startsWays (x0 : Nat) (t : mk_S) : Option (Unit × mk_S) := mk_gd t x0 11 ((mk_pi t x0 11 53 (-2 : Int32)).bind fun t1 => (mk_pi t1 x0 11 54 (5 : Int32)).bind fun t2 => (mk_pi t2 x0 11 55 (-1 : Int32)).bind fun t3 => some ((), t3))
theorem p_X12_startsWays (x0 : Nat) (t : mk_S) : mk_O mk_wu M_X12_startsWays 0 [some (.ref x0)] [] t ((mk_pi t x0 11 53 (-2 : Int32)).bind fun t1 => (mk_pi t1 x0 11 54 (5 : Int32)).bind fun t2 => (mk_pi t2 x0 11 55 (-1 : Int32)).bind fun t3 => some ((), t3)) := by
  refine xo_aload_n rfl rfl dX12_startsWays_0 ?_
  refine xo_bipush kb_m2 dX12_startsWays_1 ?_
  refine xo_puti dX12_startsWays_3 cl_11 fl_RX12_454 rfl ft_11_53 (fun t1 => ?_)
  refine xo_aload_n rfl rfl dX12_startsWays_6 ?_
  refine xo_iconst kc_5 dX12_startsWays_7 ?_
  refine xo_puti dX12_startsWays_8 cl_11 fl_RX12_457 rfl ft_11_54 (fun t2 => ?_)
  refine xo_aload_n rfl rfl dX12_startsWays_11 ?_
  refine xo_iconst kc_m1 dX12_startsWays_12 ?_
  refine xo_puti dX12_startsWays_13 cl_11 fl_RX12_460 rfl ft_11_55 (fun t3 => ?_)
  exact xo_vret dX12_startsWays_16 rfl
theorem c_X12_startsWays (x0 : Nat) (t : mk_S) (z : Unit × mk_S) (h : F_X12_startsWays x0 t = some z) : mk_is t x0 11 ∧ mk_Ct M_X12_startsWays [.ref x0] t (mk_wu z.1, z.2) :=
  ⟨(mk_gd_spec h).1, mk_ct (w := mk_wu) (by decide +kernel) (Nat.le_of_ble_eq_true rfl) (p_X12_startsWays x0 t) z (mk_gd_spec h).2⟩
def B_X12_tries_51 (x0 : Nat) (x1 : Int32) (x3 : Int32) (x4 : Int32) (t : mk_S) : Option (Unit × mk_S) := (mk_pi t x0 11 53 x1).bind fun t1 => (mk_pi t1 x0 11 54 x3).bind fun t2 => (mk_pi t2 x0 11 55 x4).bind fun t3 => some ((), t3)
def F_X12_tries (x0 : Nat) (x1 : Int32) (x2 : Int32) (t : mk_S) : Option (Unit × mk_S) := mk_gd t x0 11 ((F_X12_goFor x0 x2 t).bind fun z1 => (mk_ga z1.2 x0 11 1).bind fun v2 => (mk_ld 100 z1.2 v2 (6 : Int32)).bind fun v3 => (F_X12_bits v3 z1.2).bind fun z4 => (F_X12_allGround x0 z4.2).bind fun z5 => (F_X12_laysBack x0 z5.2).bind fun z6 => (mk_gi z6.2 x0 11 54).bind fun v7 => if z4.1 < v7 then (B_X12_tries_51 x0 x1 z4.1 z5.1 z6.2) else ((mk_gi z6.2 x0 11 54).bind fun v8 => if z4.1 = v8 then ((mk_gi z6.2 x0 11 55).bind fun v9 => if z5.1 ≤ v9 then (some ((), z6.2)) else (B_X12_tries_51 x0 x1 z4.1 z5.1 z6.2)) else (some ((), z6.2))))
theorem o_X12_tries_51 (x0 : Nat) (x1 : Int32) (x3 : Int32) (x4 : Int32) (t : mk_S) : mk_O mk_wu M_X12_tries 51 [some (.ref x0), some (.int x1), none, some (.int x3), some (.int x4)] [] t (B_X12_tries_51 x0 x1 x3 x4 t) := by
  unfold B_X12_tries_51
  refine xo_aload_n rfl rfl dX12_tries_51 ?_
  refine xo_iload_n rfl rfl dX12_tries_52 ?_
  refine xo_puti dX12_tries_53 cl_11 fl_RX12_454 rfl ft_11_53 (fun t1 => ?_)
  refine xo_aload_n rfl rfl dX12_tries_56 ?_
  refine xo_iload_n rfl rfl dX12_tries_57 ?_
  refine xo_puti dX12_tries_58 cl_11 fl_RX12_457 rfl ft_11_54 (fun t2 => ?_)
  refine xo_aload_n rfl rfl dX12_tries_61 ?_
  refine xo_iload rfl dX12_tries_62 ?_
  refine xo_puti dX12_tries_64 cl_11 fl_RX12_460 rfl ft_11_55 (fun t3 => ?_)
  exact xo_vret dX12_tries_67 rfl
theorem p_X12_tries (x0 : Nat) (x1 : Int32) (x2 : Int32) (t : mk_S) : mk_O mk_wu M_X12_tries 0 [some (.ref x0), some (.int x1), some (.int x2), none, none] [] t ((F_X12_goFor x0 x2 t).bind fun z1 => (mk_ga z1.2 x0 11 1).bind fun v2 => (mk_ld 100 z1.2 v2 (6 : Int32)).bind fun v3 => (F_X12_bits v3 z1.2).bind fun z4 => (F_X12_allGround x0 z4.2).bind fun z5 => (F_X12_laysBack x0 z5.2).bind fun z6 => (mk_gi z6.2 x0 11 54).bind fun v7 => if z4.1 < v7 then (B_X12_tries_51 x0 x1 z4.1 z5.1 z6.2) else ((mk_gi z6.2 x0 11 54).bind fun v8 => if z4.1 = v8 then ((mk_gi z6.2 x0 11 55).bind fun v9 => if z5.1 ≤ v9 then (some ((), z6.2)) else (B_X12_tries_51 x0 x1 z4.1 z5.1 z6.2)) else (some ((), z6.2)))) := by
  refine xo_aload_n rfl rfl dX12_tries_0 ?_
  refine xo_iload_n rfl rfl dX12_tries_1 ?_
  refine mk_O.callV (N := M_X12_goFor) (ci := 11) (q := (RX12, TX12, 64)) (b := x0) (As1 := [.int x2]) (S := []) md_X12_goFor mv_X12_goFor lk_RX12_446 rfl (Nat.le_of_ble_eq_true rfl) (by decide) dX12_tries_2 rfl rfl rfl (fun z hz => (c_X12_goFor x0 x2 t z hz).1) (fun z hz => (c_X12_goFor x0 x2 t z hz).2) (fun z1 _ => ?_)
  show mk_O _ _ _ _ [] _ _
  refine xo_aload_n rfl rfl dX12_tries_5 ?_
  refine xo_geta dX12_tries_6 cl_11 fl_RX12_9 rfl (fun v2 => ?_)
  refine xo_bipush kb_6 dX12_tries_9 ?_
  refine xo_iald dX12_tries_11 (fun v3 => ?_)
  refine mk_O.callS (N := M_X12_bits) (As := [.int v3]) (S := []) md_X12_bits ms_X12_bits lk_RX12_382 rfl (Nat.le_of_ble_eq_true rfl) (by decide) dX12_tries_12 rfl (fun z hz => c_X12_bits v3 z1.2 z hz) (fun z4 _ => ?_)
  show mk_O _ _ _ _ (.int z4.1 :: []) _ _
  refine xo_istore_n rfl (by decide) (mk_p1_v rfl rfl) dX12_tries_15 ?_
  refine xo_aload_n rfl rfl dX12_tries_16 ?_
  refine mk_O.callV (N := M_X12_allGround) (ci := 11) (q := (RX12, TX12, 64)) (b := x0) (As1 := []) (S := []) md_X12_allGround mv_X12_allGround lk_RX12_379 rfl (Nat.le_of_ble_eq_true rfl) (by decide) dX12_tries_17 rfl rfl rfl (fun z hz => (c_X12_allGround x0 z4.2 z hz).1) (fun z hz => (c_X12_allGround x0 z4.2 z hz).2) (fun z5 _ => ?_)
  show mk_O _ _ _ _ (.int z5.1 :: []) _ _
  refine xo_istore (by decide) (mk_p1_v rfl rfl) dX12_tries_20 ?_
  refine xo_aload_n rfl rfl dX12_tries_22 ?_
  refine mk_O.callV (N := M_X12_laysBack) (ci := 11) (q := (RX12, TX12, 64)) (b := x0) (As1 := []) (S := []) md_X12_laysBack mv_X12_laysBack lk_RX12_449 rfl (Nat.le_of_ble_eq_true rfl) (by decide) dX12_tries_23 rfl rfl rfl (fun z hz => (c_X12_laysBack x0 z5.2 z hz).1) (fun z hz => (c_X12_laysBack x0 z5.2 z hz).2) (fun z6 _ => ?_)
  show mk_O _ _ _ _ [] _ _
  refine xo_iload_n rfl rfl dX12_tries_26 ?_
  refine xo_aload_n rfl rfl dX12_tries_27 ?_
  refine xo_geti dX12_tries_28 cl_11 fl_RX12_457 rfl (fun v7 => ?_)
  refine xo_icmp_lt (tgt := 51) dX12_tries_31 rfl (fun _ => ?_) (fun _ => ?_)
  · exact mk_O.wk (o_X12_tries_51 x0 x1 z4.1 z5.1 z6.2) ⟨rfl, ⟨rfl, ⟨rfl, ⟨rfl, trivial⟩⟩⟩⟩
  · refine xo_iload_n rfl rfl dX12_tries_34 ?_
    refine xo_aload_n rfl rfl dX12_tries_35 ?_
    refine xo_geti dX12_tries_36 cl_11 fl_RX12_457 rfl (fun v8 => ?_)
    refine xo_icmp_ne (tgt := 67) dX12_tries_39 rfl (fun _ => ?_) (fun _ => ?_)
    · refine xo_iload rfl dX12_tries_42 ?_
      refine xo_aload_n rfl rfl dX12_tries_44 ?_
      refine xo_geti dX12_tries_45 cl_11 fl_RX12_460 rfl (fun v9 => ?_)
      refine xo_icmp_le (tgt := 67) dX12_tries_48 rfl (fun _ => ?_) (fun _ => ?_)
      · exact xo_vret dX12_tries_67 rfl
      · exact mk_O.wk (o_X12_tries_51 x0 x1 z4.1 z5.1 z6.2) ⟨rfl, ⟨rfl, ⟨rfl, ⟨rfl, trivial⟩⟩⟩⟩
    · exact xo_vret dX12_tries_67 rfl
theorem c_X12_tries (x0 : Nat) (x1 : Int32) (x2 : Int32) (t : mk_S) (z : Unit × mk_S) (h : F_X12_tries x0 x1 x2 t = some z) : mk_is t x0 11 ∧ mk_Ct M_X12_tries [.ref x0, .int x1, .int x2] t (mk_wu z.1, z.2) :=
  ⟨(mk_gd_spec h).1, mk_ct (w := mk_wu) (by decide +kernel) (Nat.le_of_ble_eq_true rfl) (p_X12_tries x0 x1 x2 t) z (mk_gd_spec h).2⟩
def F_X12_ofWays (x0 : Nat) (x1 : Int32) (t : mk_S) : Option (Int32 × mk_S) := mk_gd t x0 11 (if x1 = 0 then ((mk_gi t x0 11 53).bind fun v1 => some (v1, t)) else (if x1 = (1 : Int32) then ((mk_gi t x0 11 54).bind fun v2 => some (v2, t)) else ((mk_gi t x0 11 55).bind fun v3 => some (v3, t))))
theorem p_X12_ofWays (x0 : Nat) (x1 : Int32) (t : mk_S) : mk_O mk_wi M_X12_ofWays 0 [some (.ref x0), some (.int x1)] [] t (if x1 = 0 then ((mk_gi t x0 11 53).bind fun v1 => some (v1, t)) else (if x1 = (1 : Int32) then ((mk_gi t x0 11 54).bind fun v2 => some (v2, t)) else ((mk_gi t x0 11 55).bind fun v3 => some (v3, t)))) := by
  refine xo_iload_n rfl rfl dX12_ofWays_0 ?_
  refine xo_if_ne (tgt := 11) dX12_ofWays_1 rfl (fun _ => ?_) (fun _ => ?_)
  · refine xo_aload_n rfl rfl dX12_ofWays_4 ?_
    refine xo_geti dX12_ofWays_5 cl_11 fl_RX12_454 rfl (fun v1 => ?_)
    refine xo_goto (tgt := 27) dX12_ofWays_8 rfl ?_
    exact xo_iret dX12_ofWays_27 rfl
  · refine xo_iload_n rfl rfl dX12_ofWays_11 ?_
    refine xo_iconst kc_1 dX12_ofWays_12 ?_
    refine xo_icmp_ne (tgt := 23) dX12_ofWays_13 rfl (fun _ => ?_) (fun _ => ?_)
    · refine xo_aload_n rfl rfl dX12_ofWays_16 ?_
      refine xo_geti dX12_ofWays_17 cl_11 fl_RX12_457 rfl (fun v2 => ?_)
      refine xo_goto (tgt := 27) dX12_ofWays_20 rfl ?_
      exact xo_iret dX12_ofWays_27 rfl
    · refine xo_aload_n rfl rfl dX12_ofWays_23 ?_
      refine xo_geti dX12_ofWays_24 cl_11 fl_RX12_460 rfl (fun v3 => ?_)
      exact xo_iret dX12_ofWays_27 rfl
theorem c_X12_ofWays (x0 : Nat) (x1 : Int32) (t : mk_S) (z : Int32 × mk_S) (h : F_X12_ofWays x0 x1 t = some z) : mk_is t x0 11 ∧ mk_Ct M_X12_ofWays [.ref x0, .int x1] t (mk_wi z.1, z.2) :=
  ⟨(mk_gd_spec h).1, mk_ct (w := mk_wi) (by decide +kernel) (Nat.le_of_ble_eq_true rfl) (p_X12_ofWays x0 x1 t) z (mk_gd_spec h).2⟩
def B_X12_stand_45 : Nat → Nat → Int32 → Int32 → Int32 → Int32 → mk_S → Option (Int32 × mk_S)
  | 0, _, _, _, _, _, _ => none
  | n + 1, x0, x1, x2, x3, x4, t => (F_X12_cells x0 t).bind fun z1 => if z1.1 ≤ x4 then ((F_X12_ofWays x0 x3 z1.2).bind fun z2 => some (z2.1, z2.2)) else ((mk_ga z1.2 x0 11 2).bind fun v3 => (mk_st 100 z1.2 v3 x1 x4).bind fun t4 => (F_X12_tries x0 x4 x2 t4).bind fun z5 => B_X12_stand_45 n x0 x1 x2 x3 (x4 + (1 : Int32)) z5.2)
def F_X12_stand (x0 : Nat) (x1 : Int32) (x2 : Int32) (x3 : Int32) (t : mk_S) : Option (Int32 × mk_S) := mk_gd t x0 11 ((F_X12_isPerson x0 x1 t).bind fun z1 => if z1.1 = 0 then (some ((-1 : Int32), z1.2)) else ((F_X12_in ((x2).toInt64) (1 : Int64) (60 : Int64) z1.2).bind fun z2 => if z2.1 = 0 then (some ((-1 : Int32), z2.2)) else ((F_X12_in ((x3).toInt64) (0 : Int64) (2 : Int64) z2.2).bind fun z3 => if z3.1 = 0 then (some ((-1 : Int32), z3.2)) else ((F_X12_keepsAll x0 z3.2).bind fun z4 => (F_X12_startsWays x0 z4.2).bind fun z5 => B_X12_stand_45 mk_fu x0 x1 x2 x3 (0 : Int32) z5.2))))
theorem o_X12_stand_45 : ∀ (n : Nat) (x0 : Nat) (x1 : Int32) (x2 : Int32) (x3 : Int32) (x4 : Int32) (t : mk_S), mk_O mk_wi M_X12_stand 45 [some (.ref x0), some (.int x1), some (.int x2), some (.int x3), some (.int x4)] [] t (B_X12_stand_45 n x0 x1 x2 x3 x4 t) := by
  intro n
  induction n with
  | zero =>
    intro x0 x1 x2 x3 x4 t
    exact mk_O.none
  | succ n ih =>
    intro x0 x1 x2 x3 x4 t
    rw [B_X12_stand_45]
    refine xo_iload rfl dX12_stand_45 ?_
    refine xo_aload_n rfl rfl dX12_stand_47 ?_
    refine mk_O.callV (N := M_X12_cells) (ci := 11) (q := (RX12, TX12, 64)) (b := x0) (As1 := []) (S := [.int x4]) md_X12_cells mv_X12_cells lk_RX12_155 rfl (Nat.le_of_ble_eq_true rfl) (by decide) dX12_stand_48 rfl rfl rfl (fun z hz => (c_X12_cells x0 t z hz).1) (fun z hz => (c_X12_cells x0 t z hz).2) (fun z1 _ => ?_)
    show mk_O _ _ _ _ (.int z1.1 :: [.int x4]) _ _
    refine xo_icmp_ge (tgt := 75) dX12_stand_51 rfl (fun _ => ?_) (fun _ => ?_)
    · refine xo_aload_n rfl rfl dX12_stand_75 ?_
      refine xo_iload_n rfl rfl dX12_stand_76 ?_
      refine mk_O.callV (N := M_X12_ofWays) (ci := 11) (q := (RX12, TX12, 64)) (b := x0) (As1 := [.int x3]) (S := []) md_X12_ofWays mv_X12_ofWays lk_RX12_471 rfl (Nat.le_of_ble_eq_true rfl) (by decide) dX12_stand_77 rfl rfl rfl (fun z hz => (c_X12_ofWays x0 x3 z1.2 z hz).1) (fun z hz => (c_X12_ofWays x0 x3 z1.2 z hz).2) (fun z2 _ => ?_)
      show mk_O _ _ _ _ (.int z2.1 :: []) _ _
      exact xo_iret dX12_stand_80 rfl
    · refine xo_aload_n rfl rfl dX12_stand_54 ?_
      refine xo_geta dX12_stand_55 cl_11 fl_RX12_13 rfl (fun v3 => ?_)
      refine xo_iload_n rfl rfl dX12_stand_58 ?_
      refine xo_iload rfl dX12_stand_59 ?_
      refine xo_iast dX12_stand_61 (fun t4 => ?_)
      refine xo_aload_n rfl rfl dX12_stand_62 ?_
      refine xo_iload rfl dX12_stand_63 ?_
      refine xo_iload_n rfl rfl dX12_stand_65 ?_
      refine mk_O.callV (N := M_X12_tries) (ci := 11) (q := (RX12, TX12, 64)) (b := x0) (As1 := [.int x4, .int x2]) (S := []) md_X12_tries mv_X12_tries lk_RX12_468 rfl (Nat.le_of_ble_eq_true rfl) (by decide) dX12_stand_66 rfl rfl rfl (fun z hz => (c_X12_tries x0 x4 x2 t4 z hz).1) (fun z hz => (c_X12_tries x0 x4 x2 t4 z hz).2) (fun z5 _ => ?_)
      show mk_O _ _ _ _ [] _ _
      refine xo_iinc rfl (congrArg _ kc_1) (by decide) (mk_p1_v rfl rfl) dX12_stand_69 ?_
      refine xo_goto (tgt := 45) dX12_stand_72 rfl ?_
      exact mk_O.wk (ih x0 x1 x2 x3 (x4 + (1 : Int32)) z5.2) ⟨rfl, ⟨rfl, ⟨rfl, ⟨rfl, ⟨rfl, trivial⟩⟩⟩⟩⟩
theorem p_X12_stand (x0 : Nat) (x1 : Int32) (x2 : Int32) (x3 : Int32) (t : mk_S) : mk_O mk_wi M_X12_stand 0 [some (.ref x0), some (.int x1), some (.int x2), some (.int x3), none] [] t ((F_X12_isPerson x0 x1 t).bind fun z1 => if z1.1 = 0 then (some ((-1 : Int32), z1.2)) else ((F_X12_in ((x2).toInt64) (1 : Int64) (60 : Int64) z1.2).bind fun z2 => if z2.1 = 0 then (some ((-1 : Int32), z2.2)) else ((F_X12_in ((x3).toInt64) (0 : Int64) (2 : Int64) z2.2).bind fun z3 => if z3.1 = 0 then (some ((-1 : Int32), z3.2)) else ((F_X12_keepsAll x0 z3.2).bind fun z4 => (F_X12_startsWays x0 z4.2).bind fun z5 => B_X12_stand_45 mk_fu x0 x1 x2 x3 (0 : Int32) z5.2)))) := by
  refine xo_aload_n rfl rfl dX12_stand_0 ?_
  refine xo_iload_n rfl rfl dX12_stand_1 ?_
  refine mk_O.callV (N := M_X12_isPerson) (ci := 11) (q := (RX12, TX12, 64)) (b := x0) (As1 := [.int x1]) (S := []) md_X12_isPerson mv_X12_isPerson lk_RX12_358 rfl (Nat.le_of_ble_eq_true rfl) (by decide) dX12_stand_2 rfl rfl rfl (fun z hz => (c_X12_isPerson x0 x1 t z hz).1) (fun z hz => (c_X12_isPerson x0 x1 t z hz).2) (fun z1 _ => ?_)
  show mk_O _ _ _ _ (.int z1.1 :: []) _ _
  refine xo_if_eq (tgt := 32) dX12_stand_5 rfl (fun _ => ?_) (fun _ => ?_)
  · refine xo_iconst kc_m1 dX12_stand_32 ?_
    exact xo_iret dX12_stand_33 rfl
  · refine xo_iload_n rfl rfl dX12_stand_8 ?_
    refine xo_i2l dX12_stand_9 ?_
    refine xo_lconst kl_1 dX12_stand_10 ?_
    refine xo_ldc2 (v := 60) (mk_w7 (i := 226) rfl rfl) dX12_stand_11 ?_
    refine mk_O.callS (N := M_X12_in) (As := [.long ((x2).toInt64), .long (1 : Int64), .long (60 : Int64)]) (S := []) md_X12_in ms_X12_in lk_RX12_159 rfl (Nat.le_of_ble_eq_true rfl) (by decide) dX12_stand_14 rfl (fun z hz => c_X12_in ((x2).toInt64) (1 : Int64) (60 : Int64) z1.2 z hz) (fun z2 _ => ?_)
    show mk_O _ _ _ _ (.int z2.1 :: []) _ _
    refine xo_if_eq (tgt := 32) dX12_stand_17 rfl (fun _ => ?_) (fun _ => ?_)
    · refine xo_iconst kc_m1 dX12_stand_32 ?_
      exact xo_iret dX12_stand_33 rfl
    · refine xo_iload_n rfl rfl dX12_stand_20 ?_
      refine xo_i2l dX12_stand_21 ?_
      refine xo_lconst kl_0 dX12_stand_22 ?_
      refine xo_ldc2 (v := 2) (mk_w7 (i := 70) rfl rfl) dX12_stand_23 ?_
      refine mk_O.callS (N := M_X12_in) (As := [.long ((x3).toInt64), .long (0 : Int64), .long (2 : Int64)]) (S := []) md_X12_in ms_X12_in lk_RX12_159 rfl (Nat.le_of_ble_eq_true rfl) (by decide) dX12_stand_26 rfl (fun z hz => c_X12_in ((x3).toInt64) (0 : Int64) (2 : Int64) z2.2 z hz) (fun z3 _ => ?_)
      show mk_O _ _ _ _ (.int z3.1 :: []) _ _
      refine xo_if_ne (tgt := 34) dX12_stand_29 rfl (fun _ => ?_) (fun _ => ?_)
      · refine xo_iconst kc_m1 dX12_stand_32 ?_
        exact xo_iret dX12_stand_33 rfl
      · refine xo_aload_n rfl rfl dX12_stand_34 ?_
        refine mk_O.callV (N := M_X12_keepsAll) (ci := 11) (q := (RX12, TX12, 64)) (b := x0) (As1 := []) (S := []) md_X12_keepsAll mv_X12_keepsAll lk_RX12_443 rfl (Nat.le_of_ble_eq_true rfl) (by decide) dX12_stand_35 rfl rfl rfl (fun z hz => (c_X12_keepsAll x0 z3.2 z hz).1) (fun z hz => (c_X12_keepsAll x0 z3.2 z hz).2) (fun z4 _ => ?_)
        show mk_O _ _ _ _ [] _ _
        refine xo_aload_n rfl rfl dX12_stand_38 ?_
        refine mk_O.callV (N := M_X12_startsWays) (ci := 11) (q := (RX12, TX12, 64)) (b := x0) (As1 := []) (S := []) md_X12_startsWays mv_X12_startsWays lk_RX12_465 rfl (Nat.le_of_ble_eq_true rfl) (by decide) dX12_stand_39 rfl rfl rfl (fun z hz => (c_X12_startsWays x0 z4.2 z hz).1) (fun z hz => (c_X12_startsWays x0 z4.2 z hz).2) (fun z5 _ => ?_)
        show mk_O _ _ _ _ [] _ _
        refine xo_iconst kc_0 dX12_stand_42 ?_
        refine xo_istore (by decide) (mk_p1_v rfl rfl) dX12_stand_43 ?_
        exact mk_O.wk (o_X12_stand_45 mk_fu x0 x1 x2 x3 (0 : Int32) z5.2) ⟨rfl, ⟨rfl, ⟨rfl, ⟨rfl, ⟨rfl, trivial⟩⟩⟩⟩⟩
theorem c_X12_stand (x0 : Nat) (x1 : Int32) (x2 : Int32) (x3 : Int32) (t : mk_S) (z : Int32 × mk_S) (h : F_X12_stand x0 x1 x2 x3 t = some z) : mk_is t x0 11 ∧ mk_Ct M_X12_stand [.ref x0, .int x1, .int x2, .int x3] t (mk_wi z.1, z.2) :=
  ⟨(mk_gd_spec h).1, mk_ct (w := mk_wi) (by decide +kernel) (Nat.le_of_ble_eq_true rfl) (p_X12_stand x0 x1 x2 x3 t) z (mk_gd_spec h).2⟩
def B_X12_turn_45 : Nat → Nat → Int32 → Int32 → Int32 → Int32 → mk_S → Option (Int32 × mk_S)
  | 0, _, _, _, _, _, _ => none
  | n + 1, x0, x1, x2, x3, x4, t => if (4 : Int32) ≤ x4 then ((F_X12_ofWays x0 x3 t).bind fun z1 => some (z1.1, z1.2)) else ((mk_ga t x0 11 3).bind fun v2 => (mk_st 100 t v2 x1 x4).bind fun t3 => (F_X12_tries x0 x4 x2 t3).bind fun z4 => B_X12_turn_45 n x0 x1 x2 x3 (x4 + (1 : Int32)) z4.2)
def F_X12_turn (x0 : Nat) (x1 : Int32) (x2 : Int32) (x3 : Int32) (t : mk_S) : Option (Int32 × mk_S) := mk_gd t x0 11 ((F_X12_isPerson x0 x1 t).bind fun z1 => if z1.1 = 0 then (some ((-1 : Int32), z1.2)) else ((F_X12_in ((x2).toInt64) (1 : Int64) (60 : Int64) z1.2).bind fun z2 => if z2.1 = 0 then (some ((-1 : Int32), z2.2)) else ((F_X12_in ((x3).toInt64) (0 : Int64) (2 : Int64) z2.2).bind fun z3 => if z3.1 = 0 then (some ((-1 : Int32), z3.2)) else ((F_X12_keepsAll x0 z3.2).bind fun z4 => (F_X12_startsWays x0 z4.2).bind fun z5 => B_X12_turn_45 mk_fu x0 x1 x2 x3 (0 : Int32) z5.2))))
theorem o_X12_turn_45 : ∀ (n : Nat) (x0 : Nat) (x1 : Int32) (x2 : Int32) (x3 : Int32) (x4 : Int32) (t : mk_S), mk_O mk_wi M_X12_turn 45 [some (.ref x0), some (.int x1), some (.int x2), some (.int x3), some (.int x4)] [] t (B_X12_turn_45 n x0 x1 x2 x3 x4 t) := by
  intro n
  induction n with
  | zero =>
    intro x0 x1 x2 x3 x4 t
    exact mk_O.none
  | succ n ih =>
    intro x0 x1 x2 x3 x4 t
    rw [B_X12_turn_45]
    refine xo_iload rfl dX12_turn_45 ?_
    refine xo_iconst kc_4 dX12_turn_47 ?_
    refine xo_icmp_ge (tgt := 72) dX12_turn_48 rfl (fun _ => ?_) (fun _ => ?_)
    · refine xo_aload_n rfl rfl dX12_turn_72 ?_
      refine xo_iload_n rfl rfl dX12_turn_73 ?_
      refine mk_O.callV (N := M_X12_ofWays) (ci := 11) (q := (RX12, TX12, 64)) (b := x0) (As1 := [.int x3]) (S := []) md_X12_ofWays mv_X12_ofWays lk_RX12_471 rfl (Nat.le_of_ble_eq_true rfl) (by decide) dX12_turn_74 rfl rfl rfl (fun z hz => (c_X12_ofWays x0 x3 t z hz).1) (fun z hz => (c_X12_ofWays x0 x3 t z hz).2) (fun z1 _ => ?_)
      show mk_O _ _ _ _ (.int z1.1 :: []) _ _
      exact xo_iret dX12_turn_77 rfl
    · refine xo_aload_n rfl rfl dX12_turn_51 ?_
      refine xo_geta dX12_turn_52 cl_11 fl_RX12_16 rfl (fun v2 => ?_)
      refine xo_iload_n rfl rfl dX12_turn_55 ?_
      refine xo_iload rfl dX12_turn_56 ?_
      refine xo_iast dX12_turn_58 (fun t3 => ?_)
      refine xo_aload_n rfl rfl dX12_turn_59 ?_
      refine xo_iload rfl dX12_turn_60 ?_
      refine xo_iload_n rfl rfl dX12_turn_62 ?_
      refine mk_O.callV (N := M_X12_tries) (ci := 11) (q := (RX12, TX12, 64)) (b := x0) (As1 := [.int x4, .int x2]) (S := []) md_X12_tries mv_X12_tries lk_RX12_468 rfl (Nat.le_of_ble_eq_true rfl) (by decide) dX12_turn_63 rfl rfl rfl (fun z hz => (c_X12_tries x0 x4 x2 t3 z hz).1) (fun z hz => (c_X12_tries x0 x4 x2 t3 z hz).2) (fun z4 _ => ?_)
      show mk_O _ _ _ _ [] _ _
      refine xo_iinc rfl (congrArg _ kc_1) (by decide) (mk_p1_v rfl rfl) dX12_turn_66 ?_
      refine xo_goto (tgt := 45) dX12_turn_69 rfl ?_
      exact mk_O.wk (ih x0 x1 x2 x3 (x4 + (1 : Int32)) z4.2) ⟨rfl, ⟨rfl, ⟨rfl, ⟨rfl, ⟨rfl, trivial⟩⟩⟩⟩⟩
theorem p_X12_turn (x0 : Nat) (x1 : Int32) (x2 : Int32) (x3 : Int32) (t : mk_S) : mk_O mk_wi M_X12_turn 0 [some (.ref x0), some (.int x1), some (.int x2), some (.int x3), none] [] t ((F_X12_isPerson x0 x1 t).bind fun z1 => if z1.1 = 0 then (some ((-1 : Int32), z1.2)) else ((F_X12_in ((x2).toInt64) (1 : Int64) (60 : Int64) z1.2).bind fun z2 => if z2.1 = 0 then (some ((-1 : Int32), z2.2)) else ((F_X12_in ((x3).toInt64) (0 : Int64) (2 : Int64) z2.2).bind fun z3 => if z3.1 = 0 then (some ((-1 : Int32), z3.2)) else ((F_X12_keepsAll x0 z3.2).bind fun z4 => (F_X12_startsWays x0 z4.2).bind fun z5 => B_X12_turn_45 mk_fu x0 x1 x2 x3 (0 : Int32) z5.2)))) := by
  refine xo_aload_n rfl rfl dX12_turn_0 ?_
  refine xo_iload_n rfl rfl dX12_turn_1 ?_
  refine mk_O.callV (N := M_X12_isPerson) (ci := 11) (q := (RX12, TX12, 64)) (b := x0) (As1 := [.int x1]) (S := []) md_X12_isPerson mv_X12_isPerson lk_RX12_358 rfl (Nat.le_of_ble_eq_true rfl) (by decide) dX12_turn_2 rfl rfl rfl (fun z hz => (c_X12_isPerson x0 x1 t z hz).1) (fun z hz => (c_X12_isPerson x0 x1 t z hz).2) (fun z1 _ => ?_)
  show mk_O _ _ _ _ (.int z1.1 :: []) _ _
  refine xo_if_eq (tgt := 32) dX12_turn_5 rfl (fun _ => ?_) (fun _ => ?_)
  · refine xo_iconst kc_m1 dX12_turn_32 ?_
    exact xo_iret dX12_turn_33 rfl
  · refine xo_iload_n rfl rfl dX12_turn_8 ?_
    refine xo_i2l dX12_turn_9 ?_
    refine xo_lconst kl_1 dX12_turn_10 ?_
    refine xo_ldc2 (v := 60) (mk_w7 (i := 226) rfl rfl) dX12_turn_11 ?_
    refine mk_O.callS (N := M_X12_in) (As := [.long ((x2).toInt64), .long (1 : Int64), .long (60 : Int64)]) (S := []) md_X12_in ms_X12_in lk_RX12_159 rfl (Nat.le_of_ble_eq_true rfl) (by decide) dX12_turn_14 rfl (fun z hz => c_X12_in ((x2).toInt64) (1 : Int64) (60 : Int64) z1.2 z hz) (fun z2 _ => ?_)
    show mk_O _ _ _ _ (.int z2.1 :: []) _ _
    refine xo_if_eq (tgt := 32) dX12_turn_17 rfl (fun _ => ?_) (fun _ => ?_)
    · refine xo_iconst kc_m1 dX12_turn_32 ?_
      exact xo_iret dX12_turn_33 rfl
    · refine xo_iload_n rfl rfl dX12_turn_20 ?_
      refine xo_i2l dX12_turn_21 ?_
      refine xo_lconst kl_0 dX12_turn_22 ?_
      refine xo_ldc2 (v := 2) (mk_w7 (i := 70) rfl rfl) dX12_turn_23 ?_
      refine mk_O.callS (N := M_X12_in) (As := [.long ((x3).toInt64), .long (0 : Int64), .long (2 : Int64)]) (S := []) md_X12_in ms_X12_in lk_RX12_159 rfl (Nat.le_of_ble_eq_true rfl) (by decide) dX12_turn_26 rfl (fun z hz => c_X12_in ((x3).toInt64) (0 : Int64) (2 : Int64) z2.2 z hz) (fun z3 _ => ?_)
      show mk_O _ _ _ _ (.int z3.1 :: []) _ _
      refine xo_if_ne (tgt := 34) dX12_turn_29 rfl (fun _ => ?_) (fun _ => ?_)
      · refine xo_iconst kc_m1 dX12_turn_32 ?_
        exact xo_iret dX12_turn_33 rfl
      · refine xo_aload_n rfl rfl dX12_turn_34 ?_
        refine mk_O.callV (N := M_X12_keepsAll) (ci := 11) (q := (RX12, TX12, 64)) (b := x0) (As1 := []) (S := []) md_X12_keepsAll mv_X12_keepsAll lk_RX12_443 rfl (Nat.le_of_ble_eq_true rfl) (by decide) dX12_turn_35 rfl rfl rfl (fun z hz => (c_X12_keepsAll x0 z3.2 z hz).1) (fun z hz => (c_X12_keepsAll x0 z3.2 z hz).2) (fun z4 _ => ?_)
        show mk_O _ _ _ _ [] _ _
        refine xo_aload_n rfl rfl dX12_turn_38 ?_
        refine mk_O.callV (N := M_X12_startsWays) (ci := 11) (q := (RX12, TX12, 64)) (b := x0) (As1 := []) (S := []) md_X12_startsWays mv_X12_startsWays lk_RX12_465 rfl (Nat.le_of_ble_eq_true rfl) (by decide) dX12_turn_39 rfl rfl rfl (fun z hz => (c_X12_startsWays x0 z4.2 z hz).1) (fun z hz => (c_X12_startsWays x0 z4.2 z hz).2) (fun z5 _ => ?_)
        show mk_O _ _ _ _ [] _ _
        refine xo_iconst kc_0 dX12_turn_42 ?_
        refine xo_istore (by decide) (mk_p1_v rfl rfl) dX12_turn_43 ?_
        exact mk_O.wk (o_X12_turn_45 mk_fu x0 x1 x2 x3 (0 : Int32) z5.2) ⟨rfl, ⟨rfl, ⟨rfl, ⟨rfl, ⟨rfl, trivial⟩⟩⟩⟩⟩
theorem c_X12_turn (x0 : Nat) (x1 : Int32) (x2 : Int32) (x3 : Int32) (t : mk_S) (z : Int32 × mk_S) (h : F_X12_turn x0 x1 x2 x3 t = some z) : mk_is t x0 11 ∧ mk_Ct M_X12_turn [.ref x0, .int x1, .int x2, .int x3] t (mk_wi z.1, z.2) :=
  ⟨(mk_gd_spec h).1, mk_ct (w := mk_wi) (by decide +kernel) (Nat.le_of_ble_eq_true rfl) (p_X12_turn x0 x1 x2 x3 t) z (mk_gd_spec h).2⟩
def B_X12_takes_111 (k54 : Nat → Int32 → Int32 → Int32 → Int32 → Int32 → Int32 → mk_S → Option (Int32 × mk_S)) (x0 : Nat) (x1 : Int32) (x2 : Int32) (x3 : Int32) (x4 : Int32) (x6 : Int32) (s0 : Int32) (t : mk_S) : Option (Int32 × mk_S) := (F_X12_laysBack x0 t).bind fun z1 => k54 x0 x1 x2 x3 x4 s0 (x6 + (1 : Int32)) z1.2
def B_X12_takes_54 : Nat → Nat → Int32 → Int32 → Int32 → Int32 → Int32 → Int32 → mk_S → Option (Int32 × mk_S)
  | 0, _, _, _, _, _, _, _, _ => none
  | n + 1, x0, x1, x2, x3, x4, x5, x6, t => if (40 : Int32) < x6 then (some (x5, t)) else (if x5 = (-2 : Int32) then ((mk_ga t x0 11 4).bind fun v1 => (mk_ga t x0 11 4).bind fun v2 => (mk_ld 100 t v2 x1).bind fun v3 => (F_X12_upTo (v3 + x6) (99 : Int32) t).bind fun z4 => (mk_st 100 z4.2 v1 x1 z4.1).bind fun t5 => (F_X12_goFor x0 x4 t5).bind fun z6 => (mk_ga z6.2 x0 11 7).bind fun v7 => (mk_ld 100 z6.2 v7 x2).bind fun v8 => if v8 < x3 then (B_X12_takes_111 (B_X12_takes_54 n) x0 x1 x2 x3 x4 x6 (-2 : Int32) z6.2) else (B_X12_takes_111 (B_X12_takes_54 n) x0 x1 x2 x3 x4 x6 x6 z6.2)) else (some (x5, t)))
def F_X12_takes (x0 : Nat) (x1 : Int32) (x2 : Int32) (x3 : Int32) (x4 : Int32) (t : mk_S) : Option (Int32 × mk_S) := mk_gd t x0 11 ((F_X12_isPerson x0 x1 t).bind fun z1 => if z1.1 = 0 then (some ((-1 : Int32), z1.2)) else ((F_X12_isMill x0 x2 z1.2).bind fun z2 => if z2.1 = 0 then (some ((-1 : Int32), z2.2)) else ((F_X12_in ((x3).toInt64) (1 : Int64) (9999 : Int64) z2.2).bind fun z3 => if z3.1 = 0 then (some ((-1 : Int32), z3.2)) else ((F_X12_in ((x4).toInt64) (1 : Int64) (60 : Int64) z3.2).bind fun z4 => if z4.1 = 0 then (some ((-1 : Int32), z4.2)) else ((F_X12_keepsAll x0 z4.2).bind fun z5 => B_X12_takes_54 mk_fu x0 x1 x2 x3 x4 (-2 : Int32) (0 : Int32) z5.2)))))
theorem o_X12_takes_111 (k54 : Nat → Int32 → Int32 → Int32 → Int32 → Int32 → Int32 → mk_S → Option (Int32 × mk_S)) (h54 : ∀ (x0 : Nat) (x1 : Int32) (x2 : Int32) (x3 : Int32) (x4 : Int32) (x5 : Int32) (x6 : Int32) (t : mk_S), mk_O mk_wi M_X12_takes 54 [some (.ref x0), some (.int x1), some (.int x2), some (.int x3), some (.int x4), some (.int x5), some (.int x6)] [] t (k54 x0 x1 x2 x3 x4 x5 x6 t)) (x0 : Nat) (x1 : Int32) (x2 : Int32) (x3 : Int32) (x4 : Int32) (x6 : Int32) (s0 : Int32) (t : mk_S) : mk_O mk_wi M_X12_takes 111 [some (.ref x0), some (.int x1), some (.int x2), some (.int x3), some (.int x4), none, some (.int x6)] [.int s0] t (B_X12_takes_111 k54 x0 x1 x2 x3 x4 x6 s0 t) := by
  unfold B_X12_takes_111
  refine xo_istore (by decide) (mk_p1_v rfl rfl) dX12_takes_111 ?_
  refine xo_aload_n rfl rfl dX12_takes_113 ?_
  refine mk_O.callV (N := M_X12_laysBack) (ci := 11) (q := (RX12, TX12, 64)) (b := x0) (As1 := []) (S := []) md_X12_laysBack mv_X12_laysBack lk_RX12_449 rfl (Nat.le_of_ble_eq_true rfl) (by decide) dX12_takes_114 rfl rfl rfl (fun z hz => (c_X12_laysBack x0 t z hz).1) (fun z hz => (c_X12_laysBack x0 t z hz).2) (fun z1 _ => ?_)
  show mk_O _ _ _ _ [] _ _
  refine xo_iinc rfl (congrArg _ kc_1) (by decide) (mk_p1_v rfl rfl) dX12_takes_117 ?_
  refine xo_goto (tgt := 54) dX12_takes_120 rfl ?_
  exact mk_O.wk (h54 x0 x1 x2 x3 x4 s0 (x6 + (1 : Int32)) z1.2) ⟨rfl, ⟨rfl, ⟨rfl, ⟨rfl, ⟨rfl, ⟨rfl, ⟨rfl, trivial⟩⟩⟩⟩⟩⟩⟩
theorem o_X12_takes_54 : ∀ (n : Nat) (x0 : Nat) (x1 : Int32) (x2 : Int32) (x3 : Int32) (x4 : Int32) (x5 : Int32) (x6 : Int32) (t : mk_S), mk_O mk_wi M_X12_takes 54 [some (.ref x0), some (.int x1), some (.int x2), some (.int x3), some (.int x4), some (.int x5), some (.int x6)] [] t (B_X12_takes_54 n x0 x1 x2 x3 x4 x5 x6 t) := by
  intro n
  induction n with
  | zero =>
    intro x0 x1 x2 x3 x4 x5 x6 t
    exact mk_O.none
  | succ n ih =>
    intro x0 x1 x2 x3 x4 x5 x6 t
    rw [B_X12_takes_54]
    refine xo_iload rfl dX12_takes_54 ?_
    refine xo_bipush kb_40 dX12_takes_56 ?_
    refine xo_icmp_gt (tgt := 123) dX12_takes_58 rfl (fun _ => ?_) (fun _ => ?_)
    · refine xo_iload rfl dX12_takes_123 ?_
      exact xo_iret dX12_takes_125 rfl
    · refine xo_iload rfl dX12_takes_61 ?_
      refine xo_bipush kb_m2 dX12_takes_63 ?_
      refine xo_icmp_ne (tgt := 123) dX12_takes_65 rfl (fun _ => ?_) (fun _ => ?_)
      · refine xo_aload_n rfl rfl dX12_takes_68 ?_
        refine xo_geta dX12_takes_69 cl_11 fl_RX12_19 rfl (fun v1 => ?_)
        refine xo_iload_n rfl rfl dX12_takes_72 ?_
        refine xo_aload_n rfl rfl dX12_takes_73 ?_
        refine xo_geta dX12_takes_74 cl_11 fl_RX12_19 rfl (fun v2 => ?_)
        refine xo_iload_n rfl rfl dX12_takes_77 ?_
        refine xo_iald dX12_takes_78 (fun v3 => ?_)
        refine xo_iload rfl dX12_takes_79 ?_
        refine xo_iadd dX12_takes_81 ?_
        refine xo_bipush kb_99 dX12_takes_82 ?_
        refine mk_O.callS (N := M_X12_upTo) (As := [.int (v3 + x6), .int (99 : Int32)]) (S := [.int x1, .ref v1]) md_X12_upTo ms_X12_upTo lk_RX12_395 rfl (Nat.le_of_ble_eq_true rfl) (by decide) dX12_takes_84 rfl (fun z hz => c_X12_upTo (v3 + x6) (99 : Int32) t z hz) (fun z4 _ => ?_)
        show mk_O _ _ _ _ (.int z4.1 :: [.int x1, .ref v1]) _ _
        refine xo_iast dX12_takes_87 (fun t5 => ?_)
        refine xo_aload_n rfl rfl dX12_takes_88 ?_
        refine xo_iload rfl dX12_takes_89 ?_
        refine mk_O.callV (N := M_X12_goFor) (ci := 11) (q := (RX12, TX12, 64)) (b := x0) (As1 := [.int x4]) (S := []) md_X12_goFor mv_X12_goFor lk_RX12_446 rfl (Nat.le_of_ble_eq_true rfl) (by decide) dX12_takes_91 rfl rfl rfl (fun z hz => (c_X12_goFor x0 x4 t5 z hz).1) (fun z hz => (c_X12_goFor x0 x4 t5 z hz).2) (fun z6 _ => ?_)
        show mk_O _ _ _ _ [] _ _
        refine xo_aload_n rfl rfl dX12_takes_94 ?_
        refine xo_geta dX12_takes_95 cl_11 fl_RX12_28 rfl (fun v7 => ?_)
        refine xo_iload_n rfl rfl dX12_takes_98 ?_
        refine xo_iald dX12_takes_99 (fun v8 => ?_)
        refine xo_iload_n rfl rfl dX12_takes_100 ?_
        refine xo_icmp_lt (tgt := 109) dX12_takes_101 rfl (fun _ => ?_) (fun _ => ?_)
        · refine xo_bipush kb_m2 dX12_takes_109 ?_
          exact mk_O.wk (o_X12_takes_111 _ ih x0 x1 x2 x3 x4 x6 (-2 : Int32) z6.2) ⟨rfl, ⟨rfl, ⟨rfl, ⟨rfl, ⟨rfl, ⟨rfl, trivial⟩⟩⟩⟩⟩⟩
        · refine xo_iload rfl dX12_takes_104 ?_
          refine xo_goto (tgt := 111) dX12_takes_106 rfl ?_
          exact mk_O.wk (o_X12_takes_111 _ ih x0 x1 x2 x3 x4 x6 x6 z6.2) ⟨rfl, ⟨rfl, ⟨rfl, ⟨rfl, ⟨rfl, ⟨rfl, trivial⟩⟩⟩⟩⟩⟩
      · refine xo_iload rfl dX12_takes_123 ?_
        exact xo_iret dX12_takes_125 rfl
theorem p_X12_takes (x0 : Nat) (x1 : Int32) (x2 : Int32) (x3 : Int32) (x4 : Int32) (t : mk_S) : mk_O mk_wi M_X12_takes 0 [some (.ref x0), some (.int x1), some (.int x2), some (.int x3), some (.int x4), none, none] [] t ((F_X12_isPerson x0 x1 t).bind fun z1 => if z1.1 = 0 then (some ((-1 : Int32), z1.2)) else ((F_X12_isMill x0 x2 z1.2).bind fun z2 => if z2.1 = 0 then (some ((-1 : Int32), z2.2)) else ((F_X12_in ((x3).toInt64) (1 : Int64) (9999 : Int64) z2.2).bind fun z3 => if z3.1 = 0 then (some ((-1 : Int32), z3.2)) else ((F_X12_in ((x4).toInt64) (1 : Int64) (60 : Int64) z3.2).bind fun z4 => if z4.1 = 0 then (some ((-1 : Int32), z4.2)) else ((F_X12_keepsAll x0 z4.2).bind fun z5 => B_X12_takes_54 mk_fu x0 x1 x2 x3 x4 (-2 : Int32) (0 : Int32) z5.2))))) := by
  refine xo_aload_n rfl rfl dX12_takes_0 ?_
  refine xo_iload_n rfl rfl dX12_takes_1 ?_
  refine mk_O.callV (N := M_X12_isPerson) (ci := 11) (q := (RX12, TX12, 64)) (b := x0) (As1 := [.int x1]) (S := []) md_X12_isPerson mv_X12_isPerson lk_RX12_358 rfl (Nat.le_of_ble_eq_true rfl) (by decide) dX12_takes_2 rfl rfl rfl (fun z hz => (c_X12_isPerson x0 x1 t z hz).1) (fun z hz => (c_X12_isPerson x0 x1 t z hz).2) (fun z1 _ => ?_)
  show mk_O _ _ _ _ (.int z1.1 :: []) _ _
  refine xo_if_eq (tgt := 41) dX12_takes_5 rfl (fun _ => ?_) (fun _ => ?_)
  · refine xo_iconst kc_m1 dX12_takes_41 ?_
    exact xo_iret dX12_takes_42 rfl
  · refine xo_aload_n rfl rfl dX12_takes_8 ?_
    refine xo_iload_n rfl rfl dX12_takes_9 ?_
    refine mk_O.callV (N := M_X12_isMill) (ci := 11) (q := (RX12, TX12, 64)) (b := x0) (As1 := [.int x2]) (S := []) md_X12_isMill mv_X12_isMill lk_RX12_365 rfl (Nat.le_of_ble_eq_true rfl) (by decide) dX12_takes_10 rfl rfl rfl (fun z hz => (c_X12_isMill x0 x2 z1.2 z hz).1) (fun z hz => (c_X12_isMill x0 x2 z1.2 z hz).2) (fun z2 _ => ?_)
    show mk_O _ _ _ _ (.int z2.1 :: []) _ _
    refine xo_if_eq (tgt := 41) dX12_takes_13 rfl (fun _ => ?_) (fun _ => ?_)
    · refine xo_iconst kc_m1 dX12_takes_41 ?_
      exact xo_iret dX12_takes_42 rfl
    · refine xo_iload_n rfl rfl dX12_takes_16 ?_
      refine xo_i2l dX12_takes_17 ?_
      refine xo_lconst kl_1 dX12_takes_18 ?_
      refine xo_ldc2 (v := 9999) (mk_w8 (i := 7) rfl rfl) dX12_takes_19 ?_
      refine mk_O.callS (N := M_X12_in) (As := [.long ((x3).toInt64), .long (1 : Int64), .long (9999 : Int64)]) (S := []) md_X12_in ms_X12_in lk_RX12_159 rfl (Nat.le_of_ble_eq_true rfl) (by decide) dX12_takes_22 rfl (fun z hz => c_X12_in ((x3).toInt64) (1 : Int64) (9999 : Int64) z2.2 z hz) (fun z3 _ => ?_)
      show mk_O _ _ _ _ (.int z3.1 :: []) _ _
      refine xo_if_eq (tgt := 41) dX12_takes_25 rfl (fun _ => ?_) (fun _ => ?_)
      · refine xo_iconst kc_m1 dX12_takes_41 ?_
        exact xo_iret dX12_takes_42 rfl
      · refine xo_iload rfl dX12_takes_28 ?_
        refine xo_i2l dX12_takes_30 ?_
        refine xo_lconst kl_1 dX12_takes_31 ?_
        refine xo_ldc2 (v := 60) (mk_w7 (i := 226) rfl rfl) dX12_takes_32 ?_
        refine mk_O.callS (N := M_X12_in) (As := [.long ((x4).toInt64), .long (1 : Int64), .long (60 : Int64)]) (S := []) md_X12_in ms_X12_in lk_RX12_159 rfl (Nat.le_of_ble_eq_true rfl) (by decide) dX12_takes_35 rfl (fun z hz => c_X12_in ((x4).toInt64) (1 : Int64) (60 : Int64) z3.2 z hz) (fun z4 _ => ?_)
        show mk_O _ _ _ _ (.int z4.1 :: []) _ _
        refine xo_if_ne (tgt := 43) dX12_takes_38 rfl (fun _ => ?_) (fun _ => ?_)
        · refine xo_iconst kc_m1 dX12_takes_41 ?_
          exact xo_iret dX12_takes_42 rfl
        · refine xo_aload_n rfl rfl dX12_takes_43 ?_
          refine mk_O.callV (N := M_X12_keepsAll) (ci := 11) (q := (RX12, TX12, 64)) (b := x0) (As1 := []) (S := []) md_X12_keepsAll mv_X12_keepsAll lk_RX12_443 rfl (Nat.le_of_ble_eq_true rfl) (by decide) dX12_takes_44 rfl rfl rfl (fun z hz => (c_X12_keepsAll x0 z4.2 z hz).1) (fun z hz => (c_X12_keepsAll x0 z4.2 z hz).2) (fun z5 _ => ?_)
          show mk_O _ _ _ _ [] _ _
          refine xo_bipush kb_m2 dX12_takes_47 ?_
          refine xo_istore (by decide) (mk_p1_v rfl rfl) dX12_takes_49 ?_
          refine xo_iconst kc_0 dX12_takes_51 ?_
          refine xo_istore (by decide) (mk_p1_v rfl rfl) dX12_takes_52 ?_
          exact mk_O.wk (o_X12_takes_54 mk_fu x0 x1 x2 x3 x4 (-2 : Int32) (0 : Int32) z5.2) ⟨rfl, ⟨rfl, ⟨rfl, ⟨rfl, ⟨rfl, ⟨rfl, ⟨rfl, trivial⟩⟩⟩⟩⟩⟩⟩
theorem c_X12_takes (x0 : Nat) (x1 : Int32) (x2 : Int32) (x3 : Int32) (x4 : Int32) (t : mk_S) (z : Int32 × mk_S) (h : F_X12_takes x0 x1 x2 x3 x4 t = some z) : mk_is t x0 11 ∧ mk_Ct M_X12_takes [.ref x0, .int x1, .int x2, .int x3, .int x4] t (mk_wi z.1, z.2) :=
  ⟨(mk_gd_spec h).1, mk_ct (w := mk_wi) (by decide +kernel) (Nat.le_of_ble_eq_true rfl) (p_X12_takes x0 x1 x2 x3 x4 t) z (mk_gd_spec h).2⟩
def B_X12_blown_101 (k48 : Nat → Int32 → Int32 → Int32 → Int32 → Int32 → Int32 → Int32 → mk_S → Option (Int32 × mk_S)) (k67 : Nat → Int32 → Int32 → Int32 → Int32 → Int32 → Int32 → Int32 → Int32 → Int32 → mk_S → Option (Int32 × mk_S)) (x0 : Nat) (x1 : Int32) (x2 : Int32) (x3 : Int32) (x4 : Int32) (x5 : Int32) (x6 : Int32) (x7 : Int32) (x9 : Int32) (s0 : Int32) (s1 : Int32) (t : mk_S) : Option (Int32 × mk_S) := k67 x0 x1 x2 x3 x4 x5 x6 x7 (s0 + s1) (x9 + (1 : Int32)) t
def B_X12_blown_150 (k48 : Nat → Int32 → Int32 → Int32 → Int32 → Int32 → Int32 → Int32 → mk_S → Option (Int32 × mk_S)) (x0 : Nat) (x1 : Int32) (x2 : Int32) (x3 : Int32) (x4 : Int32) (x5 : Int32) (x6 : Int32) (x7 : Int32) (t : mk_S) : Option (Int32 × mk_S) := k48 x0 x1 x2 x3 x4 x5 x6 (x7 + (1 : Int32)) t
def B_X12_blown_145 (k48 : Nat → Int32 → Int32 → Int32 → Int32 → Int32 → Int32 → Int32 → mk_S → Option (Int32 × mk_S)) (x0 : Nat) (x1 : Int32) (x2 : Int32) (x3 : Int32) (x4 : Int32) (x5 : Int32) (x7 : Int32) (s0 : Int32) (t : mk_S) : Option (Int32 × mk_S) := B_X12_blown_150 k48 x0 x1 x2 x3 (x4 + (1 : Int32)) x5 s0 x7 t
def B_X12_blown_128 (k48 : Nat → Int32 → Int32 → Int32 → Int32 → Int32 → Int32 → Int32 → mk_S → Option (Int32 × mk_S)) (x0 : Nat) (x1 : Int32) (x2 : Int32) (x3 : Int32) (x4 : Int32) (x6 : Int32) (x7 : Int32) (s0 : Int32) (t : mk_S) : Option (Int32 × mk_S) := if x4 = 0 then (B_X12_blown_145 k48 x0 x1 x2 x3 x4 s0 x7 x7 t) else (B_X12_blown_145 k48 x0 x1 x2 x3 x4 s0 x7 (x6 &&& x7) t)
def B_X12_blown_67 (k48 : Nat → Int32 → Int32 → Int32 → Int32 → Int32 → Int32 → Int32 → mk_S → Option (Int32 × mk_S)) : Nat → Nat → Int32 → Int32 → Int32 → Int32 → Int32 → Int32 → Int32 → Int32 → Int32 → mk_S → Option (Int32 × mk_S)
  | 0, _, _, _, _, _, _, _, _, _, _, _ => none
  | n + 1, x0, x1, x2, x3, x4, x5, x6, x7, x8, x9, t => (mk_ga t x0 11 1).bind fun v1 => (mk_ld 100 t v1 (2 : Int32)).bind fun v2 => if v2 ≤ x9 then (if x8 = x2 then (if x4 = 0 then (B_X12_blown_128 k48 x0 x1 x2 x3 x4 x6 x7 x7 t) else (B_X12_blown_128 k48 x0 x1 x2 x3 x4 x6 x7 x5 t)) else (B_X12_blown_150 k48 x0 x1 x2 x3 x4 x5 x6 x7 t)) else ((F_X12_has x7 x9 t).bind fun z3 => if z3.1 = 0 then (B_X12_blown_101 k48 (B_X12_blown_67 k48 n) x0 x1 x2 x3 x4 x5 x6 x7 x9 x8 (0 : Int32) z3.2) else ((F_X12_puffIn x0 x9 x1 z3.2).bind fun z4 => B_X12_blown_101 k48 (B_X12_blown_67 k48 n) x0 x1 x2 x3 x4 x5 x6 x7 x9 x8 z4.1 z4.2))
def B_X12_blown_48 : Nat → Nat → Int32 → Int32 → Int32 → Int32 → Int32 → Int32 → Int32 → mk_S → Option (Int32 × mk_S)
  | 0, _, _, _, _, _, _, _, _, _ => none
  | n + 1, x0, x1, x2, x3, x4, x5, x6, x7, t => (mk_ga t x0 11 1).bind fun v1 => (mk_ld 100 t v1 (2 : Int32)).bind fun v2 => if ((1 : Int32) <<< (v2 &&& 31)) ≤ x7 then (if x3 = 0 then (some (x4, t)) else (if x3 = (1 : Int32) then (some (x5, t)) else (some (x6, t)))) else (B_X12_blown_67 (B_X12_blown_48 n) mk_fu x0 x1 x2 x3 x4 x5 x6 x7 (0 : Int32) (0 : Int32) t)
def F_X12_blown (x0 : Nat) (x1 : Int32) (x2 : Int32) (x3 : Int32) (t : mk_S) : Option (Int32 × mk_S) := mk_gd t x0 11 ((F_X12_isCell x0 x1 t).bind fun z1 => if z1.1 = 0 then (some ((-3 : Int32), z1.2)) else ((F_X12_in ((x2).toInt64) (0 : Int64) (999 : Int64) z1.2).bind fun z2 => if z2.1 = 0 then (some ((-3 : Int32), z2.2)) else ((F_X12_in ((x3).toInt64) (0 : Int64) (2 : Int64) z2.2).bind fun z3 => if z3.1 = 0 then (some ((-3 : Int32), z3.2)) else (B_X12_blown_48 mk_fu x0 x1 x2 x3 (0 : Int32) (-2 : Int32) (0 : Int32) (0 : Int32) z3.2))))
theorem o_X12_blown_101 (k48 : Nat → Int32 → Int32 → Int32 → Int32 → Int32 → Int32 → Int32 → mk_S → Option (Int32 × mk_S)) (k67 : Nat → Int32 → Int32 → Int32 → Int32 → Int32 → Int32 → Int32 → Int32 → Int32 → mk_S → Option (Int32 × mk_S)) (h48 : ∀ (x0 : Nat) (x1 : Int32) (x2 : Int32) (x3 : Int32) (x4 : Int32) (x5 : Int32) (x6 : Int32) (x7 : Int32) (t : mk_S), mk_O mk_wi M_X12_blown 48 [some (.ref x0), some (.int x1), some (.int x2), some (.int x3), some (.int x4), some (.int x5), some (.int x6), some (.int x7), none, none] [] t (k48 x0 x1 x2 x3 x4 x5 x6 x7 t)) (h67 : ∀ (x0 : Nat) (x1 : Int32) (x2 : Int32) (x3 : Int32) (x4 : Int32) (x5 : Int32) (x6 : Int32) (x7 : Int32) (x8 : Int32) (x9 : Int32) (t : mk_S), mk_O mk_wi M_X12_blown 67 [some (.ref x0), some (.int x1), some (.int x2), some (.int x3), some (.int x4), some (.int x5), some (.int x6), some (.int x7), some (.int x8), some (.int x9)] [] t (k67 x0 x1 x2 x3 x4 x5 x6 x7 x8 x9 t)) (x0 : Nat) (x1 : Int32) (x2 : Int32) (x3 : Int32) (x4 : Int32) (x5 : Int32) (x6 : Int32) (x7 : Int32) (x9 : Int32) (s0 : Int32) (s1 : Int32) (t : mk_S) : mk_O mk_wi M_X12_blown 101 [some (.ref x0), some (.int x1), some (.int x2), some (.int x3), some (.int x4), some (.int x5), some (.int x6), some (.int x7), none, some (.int x9)] [.int s1, .int s0] t (B_X12_blown_101 k48 k67 x0 x1 x2 x3 x4 x5 x6 x7 x9 s0 s1 t) := by
  unfold B_X12_blown_101
  refine xo_iadd dX12_blown_101 ?_
  refine xo_istore (by decide) (mk_p1_v rfl rfl) dX12_blown_102 ?_
  refine xo_iinc rfl (congrArg _ kc_1) (by decide) (mk_p1_v rfl rfl) dX12_blown_104 ?_
  refine xo_goto (tgt := 67) dX12_blown_107 rfl ?_
  exact mk_O.wk (h67 x0 x1 x2 x3 x4 x5 x6 x7 (s0 + s1) (x9 + (1 : Int32)) t) ⟨rfl, ⟨rfl, ⟨rfl, ⟨rfl, ⟨rfl, ⟨rfl, ⟨rfl, ⟨rfl, ⟨rfl, ⟨rfl, trivial⟩⟩⟩⟩⟩⟩⟩⟩⟩⟩
theorem o_X12_blown_150 (k48 : Nat → Int32 → Int32 → Int32 → Int32 → Int32 → Int32 → Int32 → mk_S → Option (Int32 × mk_S)) (h48 : ∀ (x0 : Nat) (x1 : Int32) (x2 : Int32) (x3 : Int32) (x4 : Int32) (x5 : Int32) (x6 : Int32) (x7 : Int32) (t : mk_S), mk_O mk_wi M_X12_blown 48 [some (.ref x0), some (.int x1), some (.int x2), some (.int x3), some (.int x4), some (.int x5), some (.int x6), some (.int x7), none, none] [] t (k48 x0 x1 x2 x3 x4 x5 x6 x7 t)) (x0 : Nat) (x1 : Int32) (x2 : Int32) (x3 : Int32) (x4 : Int32) (x5 : Int32) (x6 : Int32) (x7 : Int32) (t : mk_S) : mk_O mk_wi M_X12_blown 150 [some (.ref x0), some (.int x1), some (.int x2), some (.int x3), some (.int x4), some (.int x5), some (.int x6), some (.int x7), none, none] [] t (B_X12_blown_150 k48 x0 x1 x2 x3 x4 x5 x6 x7 t) := by
  unfold B_X12_blown_150
  refine xo_iinc rfl (congrArg _ kc_1) (by decide) (mk_p1_v rfl rfl) dX12_blown_150 ?_
  refine xo_goto (tgt := 48) dX12_blown_153 rfl ?_
  exact mk_O.wk (h48 x0 x1 x2 x3 x4 x5 x6 (x7 + (1 : Int32)) t) ⟨rfl, ⟨rfl, ⟨rfl, ⟨rfl, ⟨rfl, ⟨rfl, ⟨rfl, ⟨rfl, trivial⟩⟩⟩⟩⟩⟩⟩⟩
theorem o_X12_blown_145 (k48 : Nat → Int32 → Int32 → Int32 → Int32 → Int32 → Int32 → Int32 → mk_S → Option (Int32 × mk_S)) (h48 : ∀ (x0 : Nat) (x1 : Int32) (x2 : Int32) (x3 : Int32) (x4 : Int32) (x5 : Int32) (x6 : Int32) (x7 : Int32) (t : mk_S), mk_O mk_wi M_X12_blown 48 [some (.ref x0), some (.int x1), some (.int x2), some (.int x3), some (.int x4), some (.int x5), some (.int x6), some (.int x7), none, none] [] t (k48 x0 x1 x2 x3 x4 x5 x6 x7 t)) (x0 : Nat) (x1 : Int32) (x2 : Int32) (x3 : Int32) (x4 : Int32) (x5 : Int32) (x7 : Int32) (s0 : Int32) (t : mk_S) : mk_O mk_wi M_X12_blown 145 [some (.ref x0), some (.int x1), some (.int x2), some (.int x3), some (.int x4), some (.int x5), none, some (.int x7), none, none] [.int s0] t (B_X12_blown_145 k48 x0 x1 x2 x3 x4 x5 x7 s0 t) := by
  unfold B_X12_blown_145
  refine xo_istore (by decide) (mk_p1_v rfl rfl) dX12_blown_145 ?_
  refine xo_iinc rfl (congrArg _ kc_1) (by decide) (mk_p1_v rfl rfl) dX12_blown_147 ?_
  exact mk_O.wk (o_X12_blown_150 _ h48 x0 x1 x2 x3 (x4 + (1 : Int32)) x5 s0 x7 t) ⟨rfl, ⟨rfl, ⟨rfl, ⟨rfl, ⟨rfl, ⟨rfl, ⟨rfl, ⟨rfl, trivial⟩⟩⟩⟩⟩⟩⟩⟩
theorem o_X12_blown_128 (k48 : Nat → Int32 → Int32 → Int32 → Int32 → Int32 → Int32 → Int32 → mk_S → Option (Int32 × mk_S)) (h48 : ∀ (x0 : Nat) (x1 : Int32) (x2 : Int32) (x3 : Int32) (x4 : Int32) (x5 : Int32) (x6 : Int32) (x7 : Int32) (t : mk_S), mk_O mk_wi M_X12_blown 48 [some (.ref x0), some (.int x1), some (.int x2), some (.int x3), some (.int x4), some (.int x5), some (.int x6), some (.int x7), none, none] [] t (k48 x0 x1 x2 x3 x4 x5 x6 x7 t)) (x0 : Nat) (x1 : Int32) (x2 : Int32) (x3 : Int32) (x4 : Int32) (x6 : Int32) (x7 : Int32) (s0 : Int32) (t : mk_S) : mk_O mk_wi M_X12_blown 128 [some (.ref x0), some (.int x1), some (.int x2), some (.int x3), some (.int x4), none, some (.int x6), some (.int x7), none, none] [.int s0] t (B_X12_blown_128 k48 x0 x1 x2 x3 x4 x6 x7 s0 t) := by
  unfold B_X12_blown_128
  refine xo_istore (by decide) (mk_p1_v rfl rfl) dX12_blown_128 ?_
  refine xo_iload rfl dX12_blown_130 ?_
  refine xo_if_ne (tgt := 140) dX12_blown_132 rfl (fun _ => ?_) (fun _ => ?_)
  · refine xo_iload rfl dX12_blown_135 ?_
    refine xo_goto (tgt := 145) dX12_blown_137 rfl ?_
    exact mk_O.wk (o_X12_blown_145 _ h48 x0 x1 x2 x3 x4 s0 x7 x7 t) ⟨rfl, ⟨rfl, ⟨rfl, ⟨rfl, ⟨rfl, ⟨rfl, ⟨rfl, trivial⟩⟩⟩⟩⟩⟩⟩
  · refine xo_iload rfl dX12_blown_140 ?_
    refine xo_iload rfl dX12_blown_142 ?_
    refine xo_iand dX12_blown_144 ?_
    exact mk_O.wk (o_X12_blown_145 _ h48 x0 x1 x2 x3 x4 s0 x7 (x6 &&& x7) t) ⟨rfl, ⟨rfl, ⟨rfl, ⟨rfl, ⟨rfl, ⟨rfl, ⟨rfl, trivial⟩⟩⟩⟩⟩⟩⟩
theorem o_X12_blown_67 (k48 : Nat → Int32 → Int32 → Int32 → Int32 → Int32 → Int32 → Int32 → mk_S → Option (Int32 × mk_S)) (h48 : ∀ (x0 : Nat) (x1 : Int32) (x2 : Int32) (x3 : Int32) (x4 : Int32) (x5 : Int32) (x6 : Int32) (x7 : Int32) (t : mk_S), mk_O mk_wi M_X12_blown 48 [some (.ref x0), some (.int x1), some (.int x2), some (.int x3), some (.int x4), some (.int x5), some (.int x6), some (.int x7), none, none] [] t (k48 x0 x1 x2 x3 x4 x5 x6 x7 t)) : ∀ (n : Nat) (x0 : Nat) (x1 : Int32) (x2 : Int32) (x3 : Int32) (x4 : Int32) (x5 : Int32) (x6 : Int32) (x7 : Int32) (x8 : Int32) (x9 : Int32) (t : mk_S), mk_O mk_wi M_X12_blown 67 [some (.ref x0), some (.int x1), some (.int x2), some (.int x3), some (.int x4), some (.int x5), some (.int x6), some (.int x7), some (.int x8), some (.int x9)] [] t (B_X12_blown_67 k48 n x0 x1 x2 x3 x4 x5 x6 x7 x8 x9 t) := by
  intro n
  induction n with
  | zero =>
    intro x0 x1 x2 x3 x4 x5 x6 x7 x8 x9 t
    exact mk_O.none
  | succ n ih =>
    intro x0 x1 x2 x3 x4 x5 x6 x7 x8 x9 t
    rw [B_X12_blown_67]
    refine xo_iload rfl dX12_blown_67 ?_
    refine xo_aload_n rfl rfl dX12_blown_69 ?_
    refine xo_geta dX12_blown_70 cl_11 fl_RX12_9 rfl (fun v1 => ?_)
    refine xo_iconst kc_2 dX12_blown_73 ?_
    refine xo_iald dX12_blown_74 (fun v2 => ?_)
    refine xo_icmp_ge (tgt := 110) dX12_blown_75 rfl (fun _ => ?_) (fun _ => ?_)
    · refine xo_iload rfl dX12_blown_110 ?_
      refine xo_iload_n rfl rfl dX12_blown_112 ?_
      refine xo_icmp_ne (tgt := 150) dX12_blown_113 rfl (fun _ => ?_) (fun _ => ?_)
      · refine xo_iload rfl dX12_blown_116 ?_
        refine xo_if_ne (tgt := 126) dX12_blown_118 rfl (fun _ => ?_) (fun _ => ?_)
        · refine xo_iload rfl dX12_blown_121 ?_
          refine xo_goto (tgt := 128) dX12_blown_123 rfl ?_
          exact mk_O.wk (o_X12_blown_128 _ h48 x0 x1 x2 x3 x4 x6 x7 x7 t) ⟨rfl, ⟨rfl, ⟨rfl, ⟨rfl, ⟨rfl, ⟨rfl, ⟨rfl, trivial⟩⟩⟩⟩⟩⟩⟩
        · refine xo_iload rfl dX12_blown_126 ?_
          exact mk_O.wk (o_X12_blown_128 _ h48 x0 x1 x2 x3 x4 x6 x7 x5 t) ⟨rfl, ⟨rfl, ⟨rfl, ⟨rfl, ⟨rfl, ⟨rfl, ⟨rfl, trivial⟩⟩⟩⟩⟩⟩⟩
      · exact mk_O.wk (o_X12_blown_150 _ h48 x0 x1 x2 x3 x4 x5 x6 x7 t) ⟨rfl, ⟨rfl, ⟨rfl, ⟨rfl, ⟨rfl, ⟨rfl, ⟨rfl, ⟨rfl, trivial⟩⟩⟩⟩⟩⟩⟩⟩
    · refine xo_iload rfl dX12_blown_78 ?_
      refine xo_iload rfl dX12_blown_80 ?_
      refine xo_iload rfl dX12_blown_82 ?_
      refine mk_O.callS (N := M_X12_has) (As := [.int x7, .int x9]) (S := [.int x8]) md_X12_has ms_X12_has lk_RX12_389 rfl (Nat.le_of_ble_eq_true rfl) (by decide) dX12_blown_84 rfl (fun z hz => c_X12_has x7 x9 t z hz) (fun z3 _ => ?_)
      show mk_O _ _ _ _ (.int z3.1 :: [.int x8]) _ _
      refine xo_if_eq (tgt := 100) dX12_blown_87 rfl (fun _ => ?_) (fun _ => ?_)
      · refine xo_iconst kc_0 dX12_blown_100 ?_
        exact mk_O.wk (o_X12_blown_101 _ _ h48 ih x0 x1 x2 x3 x4 x5 x6 x7 x9 x8 (0 : Int32) z3.2) ⟨rfl, ⟨rfl, ⟨rfl, ⟨rfl, ⟨rfl, ⟨rfl, ⟨rfl, ⟨rfl, ⟨rfl, trivial⟩⟩⟩⟩⟩⟩⟩⟩⟩
      · refine xo_aload_n rfl rfl dX12_blown_90 ?_
        refine xo_iload rfl dX12_blown_91 ?_
        refine xo_iload_n rfl rfl dX12_blown_93 ?_
        refine mk_O.callV (N := M_X12_puffIn) (ci := 11) (q := (RX12, TX12, 64)) (b := x0) (As1 := [.int x9, .int x1]) (S := [.int x8]) md_X12_puffIn mv_X12_puffIn lk_RX12_392 rfl (Nat.le_of_ble_eq_true rfl) (by decide) dX12_blown_94 rfl rfl rfl (fun z hz => (c_X12_puffIn x0 x9 x1 z3.2 z hz).1) (fun z hz => (c_X12_puffIn x0 x9 x1 z3.2 z hz).2) (fun z4 _ => ?_)
        show mk_O _ _ _ _ (.int z4.1 :: [.int x8]) _ _
        refine xo_goto (tgt := 101) dX12_blown_97 rfl ?_
        exact mk_O.wk (o_X12_blown_101 _ _ h48 ih x0 x1 x2 x3 x4 x5 x6 x7 x9 x8 z4.1 z4.2) ⟨rfl, ⟨rfl, ⟨rfl, ⟨rfl, ⟨rfl, ⟨rfl, ⟨rfl, ⟨rfl, ⟨rfl, trivial⟩⟩⟩⟩⟩⟩⟩⟩⟩
theorem o_X12_blown_48 : ∀ (n : Nat) (x0 : Nat) (x1 : Int32) (x2 : Int32) (x3 : Int32) (x4 : Int32) (x5 : Int32) (x6 : Int32) (x7 : Int32) (t : mk_S), mk_O mk_wi M_X12_blown 48 [some (.ref x0), some (.int x1), some (.int x2), some (.int x3), some (.int x4), some (.int x5), some (.int x6), some (.int x7), none, none] [] t (B_X12_blown_48 n x0 x1 x2 x3 x4 x5 x6 x7 t) := by
  intro n
  induction n with
  | zero =>
    intro x0 x1 x2 x3 x4 x5 x6 x7 t
    exact mk_O.none
  | succ n ih =>
    intro x0 x1 x2 x3 x4 x5 x6 x7 t
    rw [B_X12_blown_48]
    refine xo_iload rfl dX12_blown_48 ?_
    refine xo_iconst kc_1 dX12_blown_50 ?_
    refine xo_aload_n rfl rfl dX12_blown_51 ?_
    refine xo_geta dX12_blown_52 cl_11 fl_RX12_9 rfl (fun v1 => ?_)
    refine xo_iconst kc_2 dX12_blown_55 ?_
    refine xo_iald dX12_blown_56 (fun v2 => ?_)
    refine xo_ishl dX12_blown_57 ?_
    refine xo_icmp_ge (tgt := 156) dX12_blown_58 rfl (fun _ => ?_) (fun _ => ?_)
    · refine xo_iload_n rfl rfl dX12_blown_156 ?_
      refine xo_if_ne (tgt := 165) dX12_blown_157 rfl (fun _ => ?_) (fun _ => ?_)
      · refine xo_iload rfl dX12_blown_160 ?_
        refine xo_goto (tgt := 177) dX12_blown_162 rfl ?_
        exact xo_iret dX12_blown_177 rfl
      · refine xo_iload_n rfl rfl dX12_blown_165 ?_
        refine xo_iconst kc_1 dX12_blown_166 ?_
        refine xo_icmp_ne (tgt := 175) dX12_blown_167 rfl (fun _ => ?_) (fun _ => ?_)
        · refine xo_iload rfl dX12_blown_170 ?_
          refine xo_goto (tgt := 177) dX12_blown_172 rfl ?_
          exact xo_iret dX12_blown_177 rfl
        · refine xo_iload rfl dX12_blown_175 ?_
          exact xo_iret dX12_blown_177 rfl
    · refine xo_iconst kc_0 dX12_blown_61 ?_
      refine xo_istore (by decide) (mk_p1_v rfl rfl) dX12_blown_62 ?_
      refine xo_iconst kc_0 dX12_blown_64 ?_
      refine xo_istore (by decide) (mk_p1_v rfl rfl) dX12_blown_65 ?_
      exact mk_O.wk (o_X12_blown_67 _ ih mk_fu x0 x1 x2 x3 x4 x5 x6 x7 (0 : Int32) (0 : Int32) t) ⟨rfl, ⟨rfl, ⟨rfl, ⟨rfl, ⟨rfl, ⟨rfl, ⟨rfl, ⟨rfl, ⟨rfl, ⟨rfl, trivial⟩⟩⟩⟩⟩⟩⟩⟩⟩⟩
theorem p_X12_blown (x0 : Nat) (x1 : Int32) (x2 : Int32) (x3 : Int32) (t : mk_S) : mk_O mk_wi M_X12_blown 0 [some (.ref x0), some (.int x1), some (.int x2), some (.int x3), none, none, none, none, none, none] [] t ((F_X12_isCell x0 x1 t).bind fun z1 => if z1.1 = 0 then (some ((-3 : Int32), z1.2)) else ((F_X12_in ((x2).toInt64) (0 : Int64) (999 : Int64) z1.2).bind fun z2 => if z2.1 = 0 then (some ((-3 : Int32), z2.2)) else ((F_X12_in ((x3).toInt64) (0 : Int64) (2 : Int64) z2.2).bind fun z3 => if z3.1 = 0 then (some ((-3 : Int32), z3.2)) else (B_X12_blown_48 mk_fu x0 x1 x2 x3 (0 : Int32) (-2 : Int32) (0 : Int32) (0 : Int32) z3.2)))) := by
  refine xo_aload_n rfl rfl dX12_blown_0 ?_
  refine xo_iload_n rfl rfl dX12_blown_1 ?_
  refine mk_O.callV (N := M_X12_isCell) (ci := 11) (q := (RX12, TX12, 64)) (b := x0) (As1 := [.int x1]) (S := []) md_X12_isCell mv_X12_isCell lk_RX12_373 rfl (Nat.le_of_ble_eq_true rfl) (by decide) dX12_blown_2 rfl rfl rfl (fun z hz => (c_X12_isCell x0 x1 t z hz).1) (fun z hz => (c_X12_isCell x0 x1 t z hz).2) (fun z1 _ => ?_)
  show mk_O _ _ _ _ (.int z1.1 :: []) _ _
  refine xo_if_eq (tgt := 32) dX12_blown_5 rfl (fun _ => ?_) (fun _ => ?_)
  · refine xo_bipush kb_m3 dX12_blown_32 ?_
    exact xo_iret dX12_blown_34 rfl
  · refine xo_iload_n rfl rfl dX12_blown_8 ?_
    refine xo_i2l dX12_blown_9 ?_
    refine xo_lconst kl_0 dX12_blown_10 ?_
    refine xo_ldc2 (v := 999) (mk_w8 (i := 12) rfl rfl) dX12_blown_11 ?_
    refine mk_O.callS (N := M_X12_in) (As := [.long ((x2).toInt64), .long (0 : Int64), .long (999 : Int64)]) (S := []) md_X12_in ms_X12_in lk_RX12_159 rfl (Nat.le_of_ble_eq_true rfl) (by decide) dX12_blown_14 rfl (fun z hz => c_X12_in ((x2).toInt64) (0 : Int64) (999 : Int64) z1.2 z hz) (fun z2 _ => ?_)
    show mk_O _ _ _ _ (.int z2.1 :: []) _ _
    refine xo_if_eq (tgt := 32) dX12_blown_17 rfl (fun _ => ?_) (fun _ => ?_)
    · refine xo_bipush kb_m3 dX12_blown_32 ?_
      exact xo_iret dX12_blown_34 rfl
    · refine xo_iload_n rfl rfl dX12_blown_20 ?_
      refine xo_i2l dX12_blown_21 ?_
      refine xo_lconst kl_0 dX12_blown_22 ?_
      refine xo_ldc2 (v := 2) (mk_w7 (i := 70) rfl rfl) dX12_blown_23 ?_
      refine mk_O.callS (N := M_X12_in) (As := [.long ((x3).toInt64), .long (0 : Int64), .long (2 : Int64)]) (S := []) md_X12_in ms_X12_in lk_RX12_159 rfl (Nat.le_of_ble_eq_true rfl) (by decide) dX12_blown_26 rfl (fun z hz => c_X12_in ((x3).toInt64) (0 : Int64) (2 : Int64) z2.2 z hz) (fun z3 _ => ?_)
      show mk_O _ _ _ _ (.int z3.1 :: []) _ _
      refine xo_if_ne (tgt := 35) dX12_blown_29 rfl (fun _ => ?_) (fun _ => ?_)
      · refine xo_bipush kb_m3 dX12_blown_32 ?_
        exact xo_iret dX12_blown_34 rfl
      · refine xo_iconst kc_0 dX12_blown_35 ?_
        refine xo_istore (by decide) (mk_p1_v rfl rfl) dX12_blown_36 ?_
        refine xo_bipush kb_m2 dX12_blown_38 ?_
        refine xo_istore (by decide) (mk_p1_v rfl rfl) dX12_blown_40 ?_
        refine xo_iconst kc_0 dX12_blown_42 ?_
        refine xo_istore (by decide) (mk_p1_v rfl rfl) dX12_blown_43 ?_
        refine xo_iconst kc_0 dX12_blown_45 ?_
        refine xo_istore (by decide) (mk_p1_v rfl rfl) dX12_blown_46 ?_
        exact mk_O.wk (o_X12_blown_48 mk_fu x0 x1 x2 x3 (0 : Int32) (-2 : Int32) (0 : Int32) (0 : Int32) z3.2) ⟨rfl, ⟨rfl, ⟨rfl, ⟨rfl, ⟨rfl, ⟨rfl, ⟨rfl, ⟨rfl, trivial⟩⟩⟩⟩⟩⟩⟩⟩
theorem c_X12_blown (x0 : Nat) (x1 : Int32) (x2 : Int32) (x3 : Int32) (t : mk_S) (z : Int32 × mk_S) (h : F_X12_blown x0 x1 x2 x3 t = some z) : mk_is t x0 11 ∧ mk_Ct M_X12_blown [.ref x0, .int x1, .int x2, .int x3] t (mk_wi z.1, z.2) :=
  ⟨(mk_gd_spec h).1, mk_ct (w := mk_wi) (by decide +kernel) (Nat.le_of_ble_eq_true rfl) (p_X12_blown x0 x1 x2 x3 t) z (mk_gd_spec h).2⟩
def B_X12_still_44 : Nat → Nat → Int32 → Int32 → Int32 → mk_S → Option (Int32 × mk_S)
  | 0, _, _, _, _, _ => none
  | n + 1, x0, x1, x2, x3, t => (mk_ga t x0 11 1).bind fun v1 => (mk_ld 100 t v1 (2 : Int32)).bind fun v2 => if v2 ≤ x3 then ((mk_pi t x0 11 47 (-1 : Int32)).bind fun t3 => (F_X12_ofWays x0 x2 t3).bind fun z4 => some (z4.1, z4.2)) else ((mk_pi t x0 11 47 x3).bind fun t5 => (F_X12_tries x0 x3 x1 t5).bind fun z6 => B_X12_still_44 n x0 x1 x2 (x3 + (1 : Int32)) z6.2)
def F_X12_still (x0 : Nat) (x1 : Int32) (x2 : Int32) (t : mk_S) : Option (Int32 × mk_S) := mk_gd t x0 11 ((F_X12_isPlateau x0 t).bind fun z1 => if z1.1 = 0 then (some ((-2 : Int32), z1.2)) else ((F_X12_in ((x1).toInt64) (1 : Int64) (60 : Int64) z1.2).bind fun z2 => if z2.1 = 0 then (some ((-2 : Int32), z2.2)) else ((F_X12_in ((x2).toInt64) (0 : Int64) (2 : Int64) z2.2).bind fun z3 => if z3.1 = 0 then (some ((-2 : Int32), z3.2)) else ((F_X12_keepsAll x0 z3.2).bind fun z4 => (F_X12_startsWays x0 z4.2).bind fun z5 => B_X12_still_44 mk_fu x0 x1 x2 (-1 : Int32) z5.2))))
theorem o_X12_still_44 : ∀ (n : Nat) (x0 : Nat) (x1 : Int32) (x2 : Int32) (x3 : Int32) (t : mk_S), mk_O mk_wi M_X12_still 44 [some (.ref x0), some (.int x1), some (.int x2), some (.int x3)] [] t (B_X12_still_44 n x0 x1 x2 x3 t) := by
  intro n
  induction n with
  | zero =>
    intro x0 x1 x2 x3 t
    exact mk_O.none
  | succ n ih =>
    intro x0 x1 x2 x3 t
    rw [B_X12_still_44]
    refine xo_iload_n rfl rfl dX12_still_44 ?_
    refine xo_aload_n rfl rfl dX12_still_45 ?_
    refine xo_geta dX12_still_46 cl_11 fl_RX12_9 rfl (fun v1 => ?_)
    refine xo_iconst kc_2 dX12_still_49 ?_
    refine xo_iald dX12_still_50 (fun v2 => ?_)
    refine xo_icmp_ge (tgt := 71) dX12_still_51 rfl (fun _ => ?_) (fun _ => ?_)
    · refine xo_aload_n rfl rfl dX12_still_71 ?_
      refine xo_iconst kc_m1 dX12_still_72 ?_
      refine xo_puti dX12_still_73 cl_11 fl_RX12_124 rfl ft_11_47 (fun t3 => ?_)
      refine xo_aload_n rfl rfl dX12_still_76 ?_
      refine xo_iload_n rfl rfl dX12_still_77 ?_
      refine mk_O.callV (N := M_X12_ofWays) (ci := 11) (q := (RX12, TX12, 64)) (b := x0) (As1 := [.int x2]) (S := []) md_X12_ofWays mv_X12_ofWays lk_RX12_471 rfl (Nat.le_of_ble_eq_true rfl) (by decide) dX12_still_78 rfl rfl rfl (fun z hz => (c_X12_ofWays x0 x2 t3 z hz).1) (fun z hz => (c_X12_ofWays x0 x2 t3 z hz).2) (fun z4 _ => ?_)
      show mk_O _ _ _ _ (.int z4.1 :: []) _ _
      exact xo_iret dX12_still_81 rfl
    · refine xo_aload_n rfl rfl dX12_still_54 ?_
      refine xo_iload_n rfl rfl dX12_still_55 ?_
      refine xo_puti dX12_still_56 cl_11 fl_RX12_124 rfl ft_11_47 (fun t5 => ?_)
      refine xo_aload_n rfl rfl dX12_still_59 ?_
      refine xo_iload_n rfl rfl dX12_still_60 ?_
      refine xo_iload_n rfl rfl dX12_still_61 ?_
      refine mk_O.callV (N := M_X12_tries) (ci := 11) (q := (RX12, TX12, 64)) (b := x0) (As1 := [.int x3, .int x1]) (S := []) md_X12_tries mv_X12_tries lk_RX12_468 rfl (Nat.le_of_ble_eq_true rfl) (by decide) dX12_still_62 rfl rfl rfl (fun z hz => (c_X12_tries x0 x3 x1 t5 z hz).1) (fun z hz => (c_X12_tries x0 x3 x1 t5 z hz).2) (fun z6 _ => ?_)
      show mk_O _ _ _ _ [] _ _
      refine xo_iinc rfl (congrArg _ kc_1) (by decide) (mk_p1_v rfl rfl) dX12_still_65 ?_
      refine xo_goto (tgt := 44) dX12_still_68 rfl ?_
      exact mk_O.wk (ih x0 x1 x2 (x3 + (1 : Int32)) z6.2) ⟨rfl, ⟨rfl, ⟨rfl, ⟨rfl, trivial⟩⟩⟩⟩
theorem p_X12_still (x0 : Nat) (x1 : Int32) (x2 : Int32) (t : mk_S) : mk_O mk_wi M_X12_still 0 [some (.ref x0), some (.int x1), some (.int x2), none] [] t ((F_X12_isPlateau x0 t).bind fun z1 => if z1.1 = 0 then (some ((-2 : Int32), z1.2)) else ((F_X12_in ((x1).toInt64) (1 : Int64) (60 : Int64) z1.2).bind fun z2 => if z2.1 = 0 then (some ((-2 : Int32), z2.2)) else ((F_X12_in ((x2).toInt64) (0 : Int64) (2 : Int64) z2.2).bind fun z3 => if z3.1 = 0 then (some ((-2 : Int32), z3.2)) else ((F_X12_keepsAll x0 z3.2).bind fun z4 => (F_X12_startsWays x0 z4.2).bind fun z5 => B_X12_still_44 mk_fu x0 x1 x2 (-1 : Int32) z5.2)))) := by
  refine xo_aload_n rfl rfl dX12_still_0 ?_
  refine mk_O.callV (N := M_X12_isPlateau) (ci := 11) (q := (RX12, TX12, 64)) (b := x0) (As1 := []) (S := []) md_X12_isPlateau mv_X12_isPlateau lk_RX12_428 rfl (Nat.le_of_ble_eq_true rfl) (by decide) dX12_still_1 rfl rfl rfl (fun z hz => (c_X12_isPlateau x0 t z hz).1) (fun z hz => (c_X12_isPlateau x0 t z hz).2) (fun z1 _ => ?_)
  show mk_O _ _ _ _ (.int z1.1 :: []) _ _
  refine xo_if_eq (tgt := 31) dX12_still_4 rfl (fun _ => ?_) (fun _ => ?_)
  · refine xo_bipush kb_m2 dX12_still_31 ?_
    exact xo_iret dX12_still_33 rfl
  · refine xo_iload_n rfl rfl dX12_still_7 ?_
    refine xo_i2l dX12_still_8 ?_
    refine xo_lconst kl_1 dX12_still_9 ?_
    refine xo_ldc2 (v := 60) (mk_w7 (i := 226) rfl rfl) dX12_still_10 ?_
    refine mk_O.callS (N := M_X12_in) (As := [.long ((x1).toInt64), .long (1 : Int64), .long (60 : Int64)]) (S := []) md_X12_in ms_X12_in lk_RX12_159 rfl (Nat.le_of_ble_eq_true rfl) (by decide) dX12_still_13 rfl (fun z hz => c_X12_in ((x1).toInt64) (1 : Int64) (60 : Int64) z1.2 z hz) (fun z2 _ => ?_)
    show mk_O _ _ _ _ (.int z2.1 :: []) _ _
    refine xo_if_eq (tgt := 31) dX12_still_16 rfl (fun _ => ?_) (fun _ => ?_)
    · refine xo_bipush kb_m2 dX12_still_31 ?_
      exact xo_iret dX12_still_33 rfl
    · refine xo_iload_n rfl rfl dX12_still_19 ?_
      refine xo_i2l dX12_still_20 ?_
      refine xo_lconst kl_0 dX12_still_21 ?_
      refine xo_ldc2 (v := 2) (mk_w7 (i := 70) rfl rfl) dX12_still_22 ?_
      refine mk_O.callS (N := M_X12_in) (As := [.long ((x2).toInt64), .long (0 : Int64), .long (2 : Int64)]) (S := []) md_X12_in ms_X12_in lk_RX12_159 rfl (Nat.le_of_ble_eq_true rfl) (by decide) dX12_still_25 rfl (fun z hz => c_X12_in ((x2).toInt64) (0 : Int64) (2 : Int64) z2.2 z hz) (fun z3 _ => ?_)
      show mk_O _ _ _ _ (.int z3.1 :: []) _ _
      refine xo_if_ne (tgt := 34) dX12_still_28 rfl (fun _ => ?_) (fun _ => ?_)
      · refine xo_bipush kb_m2 dX12_still_31 ?_
        exact xo_iret dX12_still_33 rfl
      · refine xo_aload_n rfl rfl dX12_still_34 ?_
        refine mk_O.callV (N := M_X12_keepsAll) (ci := 11) (q := (RX12, TX12, 64)) (b := x0) (As1 := []) (S := []) md_X12_keepsAll mv_X12_keepsAll lk_RX12_443 rfl (Nat.le_of_ble_eq_true rfl) (by decide) dX12_still_35 rfl rfl rfl (fun z hz => (c_X12_keepsAll x0 z3.2 z hz).1) (fun z hz => (c_X12_keepsAll x0 z3.2 z hz).2) (fun z4 _ => ?_)
        show mk_O _ _ _ _ [] _ _
        refine xo_aload_n rfl rfl dX12_still_38 ?_
        refine mk_O.callV (N := M_X12_startsWays) (ci := 11) (q := (RX12, TX12, 64)) (b := x0) (As1 := []) (S := []) md_X12_startsWays mv_X12_startsWays lk_RX12_465 rfl (Nat.le_of_ble_eq_true rfl) (by decide) dX12_still_39 rfl rfl rfl (fun z hz => (c_X12_startsWays x0 z4.2 z hz).1) (fun z hz => (c_X12_startsWays x0 z4.2 z hz).2) (fun z5 _ => ?_)
        show mk_O _ _ _ _ [] _ _
        refine xo_iconst kc_m1 dX12_still_42 ?_
        refine xo_istore_n rfl (by decide) (mk_p1_v rfl rfl) dX12_still_43 ?_
        exact mk_O.wk (o_X12_still_44 mk_fu x0 x1 x2 (-1 : Int32) z5.2) ⟨rfl, ⟨rfl, ⟨rfl, ⟨rfl, trivial⟩⟩⟩⟩
theorem c_X12_still (x0 : Nat) (x1 : Int32) (x2 : Int32) (t : mk_S) (z : Int32 × mk_S) (h : F_X12_still x0 x1 x2 t = some z) : mk_is t x0 11 ∧ mk_Ct M_X12_still [.ref x0, .int x1, .int x2] t (mk_wi z.1, z.2) :=
  ⟨(mk_gd_spec h).1, mk_ct (w := mk_wi) (by decide +kernel) (Nat.le_of_ble_eq_true rfl) (p_X12_still x0 x1 x2 t) z (mk_gd_spec h).2⟩
def B_X12_lull_95 (k47 : Nat → Int32 → Int32 → Int32 → Int32 → Int32 → Int32 → mk_S → Option (Int32 × mk_S)) (x0 : Nat) (x1 : Int32) (x2 : Int32) (x3 : Int32) (x4 : Int32) (x5 : Int32) (x6 : Int32) (t : mk_S) : Option (Int32 × mk_S) := k47 x0 x1 x2 x3 x4 x5 (x6 + (1 : Int32)) t
def B_X12_lull_73 (k47 : Nat → Int32 → Int32 → Int32 → Int32 → Int32 → Int32 → mk_S → Option (Int32 × mk_S)) (x0 : Nat) (x1 : Int32) (x2 : Int32) (x3 : Int32) (x4 : Int32) (x6 : Int32) (s0 : Int32) (t : mk_S) : Option (Int32 × mk_S) := if s0 ≤ x3 then (B_X12_lull_95 k47 x0 x1 x2 x3 x4 s0 x6 t) else ((mk_ga t x0 11 1).bind fun v1 => (mk_ld 100 t v1 (5 : Int32)).bind fun v2 => B_X12_lull_95 k47 x0 x1 x2 s0 (v2 - s0) s0 x6 t)
def B_X12_lull_47 : Nat → Nat → Int32 → Int32 → Int32 → Int32 → Int32 → Int32 → mk_S → Option (Int32 × mk_S)
  | 0, _, _, _, _, _, _, _, _ => none
  | n + 1, x0, x1, x2, x3, x4, x5, x6, t => if x1 ≤ x6 then ((F_X12_laysBack x0 t).bind fun z1 => if x2 = 0 then (some (x3, z1.2)) else (some (x4, z1.2))) else ((F_X12_goes x0 t).bind fun z2 => (F_X12_allWind x0 z2.2).bind fun z3 => if z3.1 = 0 then (B_X12_lull_73 (B_X12_lull_47 n) x0 x1 x2 x3 x4 x6 (x5 + (1 : Int32)) z3.2) else (B_X12_lull_73 (B_X12_lull_47 n) x0 x1 x2 x3 x4 x6 (0 : Int32) z3.2))
def F_X12_lull (x0 : Nat) (x1 : Int32) (x2 : Int32) (t : mk_S) : Option (Int32 × mk_S) := mk_gd t x0 11 ((F_X12_isPlateau x0 t).bind fun z1 => if z1.1 = 0 then (some ((-1 : Int32), z1.2)) else ((F_X12_in ((x1).toInt64) (1 : Int64) (100 : Int64) z1.2).bind fun z2 => if z2.1 = 0 then (some ((-1 : Int32), z2.2)) else ((F_X12_in ((x2).toInt64) (0 : Int64) (1 : Int64) z2.2).bind fun z3 => if z3.1 = 0 then (some ((-1 : Int32), z3.2)) else ((F_X12_keepsAll x0 z3.2).bind fun z4 => B_X12_lull_47 mk_fu x0 x1 x2 (0 : Int32) (-2 : Int32) (0 : Int32) (0 : Int32) z4.2))))
theorem o_X12_lull_95 (k47 : Nat → Int32 → Int32 → Int32 → Int32 → Int32 → Int32 → mk_S → Option (Int32 × mk_S)) (h47 : ∀ (x0 : Nat) (x1 : Int32) (x2 : Int32) (x3 : Int32) (x4 : Int32) (x5 : Int32) (x6 : Int32) (t : mk_S), mk_O mk_wi M_X12_lull 47 [some (.ref x0), some (.int x1), some (.int x2), some (.int x3), some (.int x4), some (.int x5), some (.int x6)] [] t (k47 x0 x1 x2 x3 x4 x5 x6 t)) (x0 : Nat) (x1 : Int32) (x2 : Int32) (x3 : Int32) (x4 : Int32) (x5 : Int32) (x6 : Int32) (t : mk_S) : mk_O mk_wi M_X12_lull 95 [some (.ref x0), some (.int x1), some (.int x2), some (.int x3), some (.int x4), some (.int x5), some (.int x6)] [] t (B_X12_lull_95 k47 x0 x1 x2 x3 x4 x5 x6 t) := by
  unfold B_X12_lull_95
  refine xo_iinc rfl (congrArg _ kc_1) (by decide) (mk_p1_v rfl rfl) dX12_lull_95 ?_
  refine xo_goto (tgt := 47) dX12_lull_98 rfl ?_
  exact mk_O.wk (h47 x0 x1 x2 x3 x4 x5 (x6 + (1 : Int32)) t) ⟨rfl, ⟨rfl, ⟨rfl, ⟨rfl, ⟨rfl, ⟨rfl, ⟨rfl, trivial⟩⟩⟩⟩⟩⟩⟩
theorem o_X12_lull_73 (k47 : Nat → Int32 → Int32 → Int32 → Int32 → Int32 → Int32 → mk_S → Option (Int32 × mk_S)) (h47 : ∀ (x0 : Nat) (x1 : Int32) (x2 : Int32) (x3 : Int32) (x4 : Int32) (x5 : Int32) (x6 : Int32) (t : mk_S), mk_O mk_wi M_X12_lull 47 [some (.ref x0), some (.int x1), some (.int x2), some (.int x3), some (.int x4), some (.int x5), some (.int x6)] [] t (k47 x0 x1 x2 x3 x4 x5 x6 t)) (x0 : Nat) (x1 : Int32) (x2 : Int32) (x3 : Int32) (x4 : Int32) (x6 : Int32) (s0 : Int32) (t : mk_S) : mk_O mk_wi M_X12_lull 73 [some (.ref x0), some (.int x1), some (.int x2), some (.int x3), some (.int x4), none, some (.int x6)] [.int s0] t (B_X12_lull_73 k47 x0 x1 x2 x3 x4 x6 s0 t) := by
  unfold B_X12_lull_73
  refine xo_istore (by decide) (mk_p1_v rfl rfl) dX12_lull_73 ?_
  refine xo_iload rfl dX12_lull_75 ?_
  refine xo_iload_n rfl rfl dX12_lull_77 ?_
  refine xo_icmp_le (tgt := 95) dX12_lull_78 rfl (fun _ => ?_) (fun _ => ?_)
  · exact mk_O.wk (o_X12_lull_95 _ h47 x0 x1 x2 x3 x4 s0 x6 t) ⟨rfl, ⟨rfl, ⟨rfl, ⟨rfl, ⟨rfl, ⟨rfl, ⟨rfl, trivial⟩⟩⟩⟩⟩⟩⟩
  · refine xo_iload rfl dX12_lull_81 ?_
    refine xo_istore_n rfl (by decide) (mk_p1_v rfl rfl) dX12_lull_83 ?_
    refine xo_aload_n rfl rfl dX12_lull_84 ?_
    refine xo_geta dX12_lull_85 cl_11 fl_RX12_9 rfl (fun v1 => ?_)
    refine xo_iconst kc_5 dX12_lull_88 ?_
    refine xo_iald dX12_lull_89 (fun v2 => ?_)
    refine xo_iload rfl dX12_lull_90 ?_
    refine xo_isub dX12_lull_92 ?_
    refine xo_istore (by decide) (mk_p1_v rfl rfl) dX12_lull_93 ?_
    exact mk_O.wk (o_X12_lull_95 _ h47 x0 x1 x2 s0 (v2 - s0) s0 x6 t) ⟨rfl, ⟨rfl, ⟨rfl, ⟨rfl, ⟨rfl, ⟨rfl, ⟨rfl, trivial⟩⟩⟩⟩⟩⟩⟩
theorem o_X12_lull_47 : ∀ (n : Nat) (x0 : Nat) (x1 : Int32) (x2 : Int32) (x3 : Int32) (x4 : Int32) (x5 : Int32) (x6 : Int32) (t : mk_S), mk_O mk_wi M_X12_lull 47 [some (.ref x0), some (.int x1), some (.int x2), some (.int x3), some (.int x4), some (.int x5), some (.int x6)] [] t (B_X12_lull_47 n x0 x1 x2 x3 x4 x5 x6 t) := by
  intro n
  induction n with
  | zero =>
    intro x0 x1 x2 x3 x4 x5 x6 t
    exact mk_O.none
  | succ n ih =>
    intro x0 x1 x2 x3 x4 x5 x6 t
    rw [B_X12_lull_47]
    refine xo_iload rfl dX12_lull_47 ?_
    refine xo_iload_n rfl rfl dX12_lull_49 ?_
    refine xo_icmp_ge (tgt := 101) dX12_lull_50 rfl (fun _ => ?_) (fun _ => ?_)
    · refine xo_aload_n rfl rfl dX12_lull_101 ?_
      refine mk_O.callV (N := M_X12_laysBack) (ci := 11) (q := (RX12, TX12, 64)) (b := x0) (As1 := []) (S := []) md_X12_laysBack mv_X12_laysBack lk_RX12_449 rfl (Nat.le_of_ble_eq_true rfl) (by decide) dX12_lull_102 rfl rfl rfl (fun z hz => (c_X12_laysBack x0 t z hz).1) (fun z hz => (c_X12_laysBack x0 t z hz).2) (fun z1 _ => ?_)
      show mk_O _ _ _ _ [] _ _
      refine xo_iload_n rfl rfl dX12_lull_105 ?_
      refine xo_if_ne (tgt := 113) dX12_lull_106 rfl (fun _ => ?_) (fun _ => ?_)
      · refine xo_iload_n rfl rfl dX12_lull_109 ?_
        refine xo_goto (tgt := 115) dX12_lull_110 rfl ?_
        exact xo_iret dX12_lull_115 rfl
      · refine xo_iload rfl dX12_lull_113 ?_
        exact xo_iret dX12_lull_115 rfl
    · refine xo_aload_n rfl rfl dX12_lull_53 ?_
      refine mk_O.callV (N := M_X12_goes) (ci := 11) (q := (RX12, TX12, 64)) (b := x0) (As1 := []) (S := []) md_X12_goes mv_X12_goes lk_RX12_407 rfl (Nat.le_of_ble_eq_true rfl) (by decide) dX12_lull_54 rfl rfl rfl (fun z hz => (c_X12_goes x0 t z hz).1) (fun z hz => (c_X12_goes x0 t z hz).2) (fun z2 _ => ?_)
      show mk_O _ _ _ _ (.int z2.1 :: []) _ _
      refine xo_pop rfl dX12_lull_57 ?_
      refine xo_aload_n rfl rfl dX12_lull_58 ?_
      refine mk_O.callV (N := M_X12_allWind) (ci := 11) (q := (RX12, TX12, 64)) (b := x0) (As1 := []) (S := []) md_X12_allWind mv_X12_allWind lk_RX12_478 rfl (Nat.le_of_ble_eq_true rfl) (by decide) dX12_lull_59 rfl rfl rfl (fun z hz => (c_X12_allWind x0 z2.2 z hz).1) (fun z hz => (c_X12_allWind x0 z2.2 z hz).2) (fun z3 _ => ?_)
      show mk_O _ _ _ _ (.int z3.1 :: []) _ _
      refine xo_if_ne (tgt := 72) dX12_lull_62 rfl (fun _ => ?_) (fun _ => ?_)
      · refine xo_iload rfl dX12_lull_65 ?_
        refine xo_iconst kc_1 dX12_lull_67 ?_
        refine xo_iadd dX12_lull_68 ?_
        refine xo_goto (tgt := 73) dX12_lull_69 rfl ?_
        exact mk_O.wk (o_X12_lull_73 _ ih x0 x1 x2 x3 x4 x6 (x5 + (1 : Int32)) z3.2) ⟨rfl, ⟨rfl, ⟨rfl, ⟨rfl, ⟨rfl, ⟨rfl, trivial⟩⟩⟩⟩⟩⟩
      · refine xo_iconst kc_0 dX12_lull_72 ?_
        exact mk_O.wk (o_X12_lull_73 _ ih x0 x1 x2 x3 x4 x6 (0 : Int32) z3.2) ⟨rfl, ⟨rfl, ⟨rfl, ⟨rfl, ⟨rfl, ⟨rfl, trivial⟩⟩⟩⟩⟩⟩
theorem p_X12_lull (x0 : Nat) (x1 : Int32) (x2 : Int32) (t : mk_S) : mk_O mk_wi M_X12_lull 0 [some (.ref x0), some (.int x1), some (.int x2), none, none, none, none] [] t ((F_X12_isPlateau x0 t).bind fun z1 => if z1.1 = 0 then (some ((-1 : Int32), z1.2)) else ((F_X12_in ((x1).toInt64) (1 : Int64) (100 : Int64) z1.2).bind fun z2 => if z2.1 = 0 then (some ((-1 : Int32), z2.2)) else ((F_X12_in ((x2).toInt64) (0 : Int64) (1 : Int64) z2.2).bind fun z3 => if z3.1 = 0 then (some ((-1 : Int32), z3.2)) else ((F_X12_keepsAll x0 z3.2).bind fun z4 => B_X12_lull_47 mk_fu x0 x1 x2 (0 : Int32) (-2 : Int32) (0 : Int32) (0 : Int32) z4.2)))) := by
  refine xo_aload_n rfl rfl dX12_lull_0 ?_
  refine mk_O.callV (N := M_X12_isPlateau) (ci := 11) (q := (RX12, TX12, 64)) (b := x0) (As1 := []) (S := []) md_X12_isPlateau mv_X12_isPlateau lk_RX12_428 rfl (Nat.le_of_ble_eq_true rfl) (by decide) dX12_lull_1 rfl rfl rfl (fun z hz => (c_X12_isPlateau x0 t z hz).1) (fun z hz => (c_X12_isPlateau x0 t z hz).2) (fun z1 _ => ?_)
  show mk_O _ _ _ _ (.int z1.1 :: []) _ _
  refine xo_if_eq (tgt := 29) dX12_lull_4 rfl (fun _ => ?_) (fun _ => ?_)
  · refine xo_iconst kc_m1 dX12_lull_29 ?_
    exact xo_iret dX12_lull_30 rfl
  · refine xo_iload_n rfl rfl dX12_lull_7 ?_
    refine xo_i2l dX12_lull_8 ?_
    refine xo_lconst kl_1 dX12_lull_9 ?_
    refine xo_ldc2 (v := 100) (mk_w7 (i := 192) rfl rfl) dX12_lull_10 ?_
    refine mk_O.callS (N := M_X12_in) (As := [.long ((x1).toInt64), .long (1 : Int64), .long (100 : Int64)]) (S := []) md_X12_in ms_X12_in lk_RX12_159 rfl (Nat.le_of_ble_eq_true rfl) (by decide) dX12_lull_13 rfl (fun z hz => c_X12_in ((x1).toInt64) (1 : Int64) (100 : Int64) z1.2 z hz) (fun z2 _ => ?_)
    show mk_O _ _ _ _ (.int z2.1 :: []) _ _
    refine xo_if_eq (tgt := 29) dX12_lull_16 rfl (fun _ => ?_) (fun _ => ?_)
    · refine xo_iconst kc_m1 dX12_lull_29 ?_
      exact xo_iret dX12_lull_30 rfl
    · refine xo_iload_n rfl rfl dX12_lull_19 ?_
      refine xo_i2l dX12_lull_20 ?_
      refine xo_lconst kl_0 dX12_lull_21 ?_
      refine xo_lconst kl_1 dX12_lull_22 ?_
      refine mk_O.callS (N := M_X12_in) (As := [.long ((x2).toInt64), .long (0 : Int64), .long (1 : Int64)]) (S := []) md_X12_in ms_X12_in lk_RX12_159 rfl (Nat.le_of_ble_eq_true rfl) (by decide) dX12_lull_23 rfl (fun z hz => c_X12_in ((x2).toInt64) (0 : Int64) (1 : Int64) z2.2 z hz) (fun z3 _ => ?_)
      show mk_O _ _ _ _ (.int z3.1 :: []) _ _
      refine xo_if_ne (tgt := 31) dX12_lull_26 rfl (fun _ => ?_) (fun _ => ?_)
      · refine xo_iconst kc_m1 dX12_lull_29 ?_
        exact xo_iret dX12_lull_30 rfl
      · refine xo_iconst kc_0 dX12_lull_31 ?_
        refine xo_istore_n rfl (by decide) (mk_p1_v rfl rfl) dX12_lull_32 ?_
        refine xo_bipush kb_m2 dX12_lull_33 ?_
        refine xo_istore (by decide) (mk_p1_v rfl rfl) dX12_lull_35 ?_
        refine xo_iconst kc_0 dX12_lull_37 ?_
        refine xo_istore (by decide) (mk_p1_v rfl rfl) dX12_lull_38 ?_
        refine xo_aload_n rfl rfl dX12_lull_40 ?_
        refine mk_O.callV (N := M_X12_keepsAll) (ci := 11) (q := (RX12, TX12, 64)) (b := x0) (As1 := []) (S := []) md_X12_keepsAll mv_X12_keepsAll lk_RX12_443 rfl (Nat.le_of_ble_eq_true rfl) (by decide) dX12_lull_41 rfl rfl rfl (fun z hz => (c_X12_keepsAll x0 z3.2 z hz).1) (fun z hz => (c_X12_keepsAll x0 z3.2 z hz).2) (fun z4 _ => ?_)
        show mk_O _ _ _ _ [] _ _
        refine xo_iconst kc_0 dX12_lull_44 ?_
        refine xo_istore (by decide) (mk_p1_v rfl rfl) dX12_lull_45 ?_
        exact mk_O.wk (o_X12_lull_47 mk_fu x0 x1 x2 (0 : Int32) (-2 : Int32) (0 : Int32) (0 : Int32) z4.2) ⟨rfl, ⟨rfl, ⟨rfl, ⟨rfl, ⟨rfl, ⟨rfl, ⟨rfl, trivial⟩⟩⟩⟩⟩⟩⟩
theorem c_X12_lull (x0 : Nat) (x1 : Int32) (x2 : Int32) (t : mk_S) (z : Int32 × mk_S) (h : F_X12_lull x0 x1 x2 t = some z) : mk_is t x0 11 ∧ mk_Ct M_X12_lull [.ref x0, .int x1, .int x2] t (mk_wi z.1, z.2) :=
  ⟨(mk_gd_spec h).1, mk_ct (w := mk_wi) (by decide +kernel) (Nat.le_of_ble_eq_true rfl) (p_X12_lull x0 x1 x2 t) z (mk_gd_spec h).2⟩
