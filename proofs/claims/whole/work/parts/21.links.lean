/-! words by their places -/
theorem mk_in1 {w : Cond} (h : w ∈ tables_1_1) : w ∈ lw_tbl := List.mem_append_right _ (show w ∈ tables_1 from List.mem_append_left _ h)
theorem mk_w1 {i : Nat} {w : Cond} (h : tables_1_1[i]? = some w) (hg : goodWord w = true) : w ∈ lw_gw := List.mem_filter.mpr ⟨mk_in1 (List.mem_of_getElem? h), hg⟩
theorem mk_n1 {i : Nat} {w : Cond} (h : tables_1_1[i]? = some w) (hg : lw_nest w = true) : w ∈ lw_nw := List.mem_filter.mpr ⟨mk_in1 (List.mem_of_getElem? h), hg⟩
theorem mk_in2 {w : Cond} (h : w ∈ tables_1_2) : w ∈ lw_tbl := List.mem_append_right _ (show w ∈ tables_1 from List.mem_append_right _ (List.mem_append_left _ h))
theorem mk_w2 {i : Nat} {w : Cond} (h : tables_1_2[i]? = some w) (hg : goodWord w = true) : w ∈ lw_gw := List.mem_filter.mpr ⟨mk_in2 (List.mem_of_getElem? h), hg⟩
theorem mk_n2 {i : Nat} {w : Cond} (h : tables_1_2[i]? = some w) (hg : lw_nest w = true) : w ∈ lw_nw := List.mem_filter.mpr ⟨mk_in2 (List.mem_of_getElem? h), hg⟩
theorem mk_in3 {w : Cond} (h : w ∈ tables_1_3) : w ∈ lw_tbl := List.mem_append_right _ (show w ∈ tables_1 from List.mem_append_right _ (List.mem_append_right _ (List.mem_append_left _ h)))
theorem mk_w3 {i : Nat} {w : Cond} (h : tables_1_3[i]? = some w) (hg : goodWord w = true) : w ∈ lw_gw := List.mem_filter.mpr ⟨mk_in3 (List.mem_of_getElem? h), hg⟩
theorem mk_n3 {i : Nat} {w : Cond} (h : tables_1_3[i]? = some w) (hg : lw_nest w = true) : w ∈ lw_nw := List.mem_filter.mpr ⟨mk_in3 (List.mem_of_getElem? h), hg⟩
theorem mk_in4 {w : Cond} (h : w ∈ tables_1_4) : w ∈ lw_tbl := List.mem_append_right _ (show w ∈ tables_1 from List.mem_append_right _ (List.mem_append_right _ (List.mem_append_right _ (List.mem_append_left _ h))))
theorem mk_w4 {i : Nat} {w : Cond} (h : tables_1_4[i]? = some w) (hg : goodWord w = true) : w ∈ lw_gw := List.mem_filter.mpr ⟨mk_in4 (List.mem_of_getElem? h), hg⟩
theorem mk_n4 {i : Nat} {w : Cond} (h : tables_1_4[i]? = some w) (hg : lw_nest w = true) : w ∈ lw_nw := List.mem_filter.mpr ⟨mk_in4 (List.mem_of_getElem? h), hg⟩
theorem mk_in5 {w : Cond} (h : w ∈ tables_1_5) : w ∈ lw_tbl := List.mem_append_right _ (show w ∈ tables_1 from List.mem_append_right _ (List.mem_append_right _ (List.mem_append_right _ (List.mem_append_right _ (List.mem_append_left _ h)))))
theorem mk_w5 {i : Nat} {w : Cond} (h : tables_1_5[i]? = some w) (hg : goodWord w = true) : w ∈ lw_gw := List.mem_filter.mpr ⟨mk_in5 (List.mem_of_getElem? h), hg⟩
theorem mk_n5 {i : Nat} {w : Cond} (h : tables_1_5[i]? = some w) (hg : lw_nest w = true) : w ∈ lw_nw := List.mem_filter.mpr ⟨mk_in5 (List.mem_of_getElem? h), hg⟩
theorem mk_in6 {w : Cond} (h : w ∈ tables_1_6) : w ∈ lw_tbl := List.mem_append_right _ (show w ∈ tables_1 from List.mem_append_right _ (List.mem_append_right _ (List.mem_append_right _ (List.mem_append_right _ (List.mem_append_right _ (List.mem_append_left _ h))))))
theorem mk_w6 {i : Nat} {w : Cond} (h : tables_1_6[i]? = some w) (hg : goodWord w = true) : w ∈ lw_gw := List.mem_filter.mpr ⟨mk_in6 (List.mem_of_getElem? h), hg⟩
theorem mk_n6 {i : Nat} {w : Cond} (h : tables_1_6[i]? = some w) (hg : lw_nest w = true) : w ∈ lw_nw := List.mem_filter.mpr ⟨mk_in6 (List.mem_of_getElem? h), hg⟩
theorem mk_in7 {w : Cond} (h : w ∈ tables_1_7) : w ∈ lw_tbl := List.mem_append_right _ (show w ∈ tables_1 from List.mem_append_right _ (List.mem_append_right _ (List.mem_append_right _ (List.mem_append_right _ (List.mem_append_right _ (List.mem_append_right _ (List.mem_append_left _ h)))))))
theorem mk_w7 {i : Nat} {w : Cond} (h : tables_1_7[i]? = some w) (hg : goodWord w = true) : w ∈ lw_gw := List.mem_filter.mpr ⟨mk_in7 (List.mem_of_getElem? h), hg⟩
theorem mk_n7 {i : Nat} {w : Cond} (h : tables_1_7[i]? = some w) (hg : lw_nest w = true) : w ∈ lw_nw := List.mem_filter.mpr ⟨mk_in7 (List.mem_of_getElem? h), hg⟩
theorem mk_in8 {w : Cond} (h : w ∈ tables_1_8) : w ∈ lw_tbl := List.mem_append_right _ (show w ∈ tables_1 from List.mem_append_right _ (List.mem_append_right _ (List.mem_append_right _ (List.mem_append_right _ (List.mem_append_right _ (List.mem_append_right _ (List.mem_append_right _ (h))))))))
theorem mk_w8 {i : Nat} {w : Cond} (h : tables_1_8[i]? = some w) (hg : goodWord w = true) : w ∈ lw_gw := List.mem_filter.mpr ⟨mk_in8 (List.mem_of_getElem? h), hg⟩
theorem mk_n8 {i : Nat} {w : Cond} (h : tables_1_8[i]? = some w) (hg : lw_nest w = true) : w ∈ lw_nw := List.mem_filter.mpr ⟨mk_in8 (List.mem_of_getElem? h), hg⟩
theorem mk_wp {i n : Nat} {y : MethodName} (h : lw_privs[i]? = some (y, n)) (hg : goodWord (Cond.selects y.cls y y) = true) : Cond.selects y.cls y y ∈ lw_gw := List.mem_filter.mpr ⟨List.mem_append_left _ (List.mem_map.mpr ⟨(y, n), List.mem_of_getElem? h, rfl⟩), hg⟩
def mk_fu : Nat := 100000
def mk_gd {β : Type} (t : mk_S) (a ci : Nat) (o : Option β) : Option β := match t.1[a]? with
  | some K => if K.1 = ci then o else none
  | none => none
theorem mk_gd_spec {β : Type} {t : mk_S} {a ci : Nat} {o : Option β} {z : β} (h : mk_gd t a ci o = some z) : mk_is t a ci ∧ o = some z := by
  unfold mk_gd at h
  obtain ⟨K, h1, h2, h3⟩ := mk_if_spec h
  exact ⟨⟨K, h1, h2⟩, h3⟩
def mk_sub : List (Option Value) → List (Option Value) → Prop
  | [], _ => True
  | none :: xs, _ :: ys => mk_sub xs ys
  | none :: xs, [] => mk_sub xs []
  | some v :: xs, some u :: ys => v = u ∧ mk_sub xs ys
  | some _ :: _, none :: _ => False
  | some _ :: _, [] => False
theorem mk_sub_at : ∀ (L1 L : List (Option Value)), mk_sub L1 L → ∀ (i : Nat) (v : Value), L1[i]? = some (some v) → L[i]? = some (some v)
  | [], _, _, _, _, h => by simp at h
  | none :: xs, [], hs, i, v, h => by
    cases i with
    | zero => simp at h
    | succ i => have := mk_sub_at xs [] hs i v (by simpa using h); simp at this
  | none :: xs, _ :: ys, hs, i, v, h => by
    cases i with
    | zero => simp at h
    | succ i => simpa using mk_sub_at xs ys hs i v (by simpa using h)
  | some u :: xs, some x :: ys, hs, i, v, h => by
    cases i with
    | zero => simp at h; simp [← hs.1, h]
    | succ i => simpa using mk_sub_at xs ys hs.2 i v (by simpa using h)
  | some _ :: _, none :: _, hs, _, _, _ => hs.elim
  | some _ :: _, [], hs, _, _, _ => hs.elim
theorem mk_O.wk {α : Type} {w : α → Option Value} {M : mk_M} {pc : Nat} {L L1 : List (Option Value)} {S : List Value} {t : mk_S} {o : Option (α × mk_S)} (k : mk_O w M pc L1 S t o) (h : mk_sub L1 L) : mk_O w M pc L S t o := by
  intro z hz
  obtain ⟨k1, k2⟩ := k z hz
  refine ⟨k1, ?_⟩
  intro p l e R s m args below meth c Q D ac g A c0 s0 H locs ls ad hC hB hE hR hS hL hf hq
  refine k2 p l e R s m args below meth c Q D ac g A c0 s0 H locs ls ad hC hB hE hR hS ⟨hL.1, hL.2.1, fun i v hi => hL.2.2 i v (mk_sub_at _ _ h i v hi)⟩ ⟨fun v hv => ?_, hf.2⟩ hq
  obtain ⟨i, hi⟩ := List.getElem?_of_mem hv
  exact hf.1 v (List.mem_of_getElem? (mk_sub_at _ _ h i v hi))
theorem kl_0 : Int64.ofNat ((0 : Fin 2) : Nat) = (0 : Int64) := by decide
theorem kl_1 : Int64.ofNat ((1 : Fin 2) : Nat) = (1 : Int64) := by decide
theorem kb_10 : (Int8.ofInt (10)).toInt32 = (10 : Int32) := by decide
theorem kb_100 : (Int8.ofInt (100)).toInt32 = (100 : Int32) := by decide
theorem kb_11 : (Int8.ofInt (11)).toInt32 = (11 : Int32) := by decide
theorem kb_12 : (Int8.ofInt (12)).toInt32 = (12 : Int32) := by decide
theorem kb_122 : (Int8.ofInt (122)).toInt32 = (122 : Int32) := by decide
theorem kb_13 : (Int8.ofInt (13)).toInt32 = (13 : Int32) := by decide
theorem kb_14 : (Int8.ofInt (14)).toInt32 = (14 : Int32) := by decide
theorem kb_15 : (Int8.ofInt (15)).toInt32 = (15 : Int32) := by decide
theorem kb_16 : (Int8.ofInt (16)).toInt32 = (16 : Int32) := by decide
theorem kb_20 : (Int8.ofInt (20)).toInt32 = (20 : Int32) := by decide
theorem kb_24 : (Int8.ofInt (24)).toInt32 = (24 : Int32) := by decide
theorem kb_32 : (Int8.ofInt (32)).toInt32 = (32 : Int32) := by decide
theorem kb_36 : (Int8.ofInt (36)).toInt32 = (36 : Int32) := by decide
theorem kb_37 : (Int8.ofInt (37)).toInt32 = (37 : Int32) := by decide
theorem kb_40 : (Int8.ofInt (40)).toInt32 = (40 : Int32) := by decide
theorem kb_42 : (Int8.ofInt (42)).toInt32 = (42 : Int32) := by decide
theorem kb_43 : (Int8.ofInt (43)).toInt32 = (43 : Int32) := by decide
theorem kb_45 : (Int8.ofInt (45)).toInt32 = (45 : Int32) := by decide
theorem kb_47 : (Int8.ofInt (47)).toInt32 = (47 : Int32) := by decide
theorem kb_48 : (Int8.ofInt (48)).toInt32 = (48 : Int32) := by decide
theorem kb_57 : (Int8.ofInt (57)).toInt32 = (57 : Int32) := by decide
theorem kb_59 : (Int8.ofInt (59)).toInt32 = (59 : Int32) := by decide
theorem kb_6 : (Int8.ofInt (6)).toInt32 = (6 : Int32) := by decide
theorem kb_60 : (Int8.ofInt (60)).toInt32 = (60 : Int32) := by decide
theorem kb_61 : (Int8.ofInt (61)).toInt32 = (61 : Int32) := by decide
theorem kb_62 : (Int8.ofInt (62)).toInt32 = (62 : Int32) := by decide
theorem kb_63 : (Int8.ofInt (63)).toInt32 = (63 : Int32) := by decide
theorem kb_7 : (Int8.ofInt (7)).toInt32 = (7 : Int32) := by decide
theorem kb_72 : (Int8.ofInt (72)).toInt32 = (72 : Int32) := by decide
theorem kb_8 : (Int8.ofInt (8)).toInt32 = (8 : Int32) := by decide
theorem kb_9 : (Int8.ofInt (9)).toInt32 = (9 : Int32) := by decide
theorem kb_91 : (Int8.ofInt (91)).toInt32 = (91 : Int32) := by decide
theorem kb_93 : (Int8.ofInt (93)).toInt32 = (93 : Int32) := by decide
theorem kb_97 : (Int8.ofInt (97)).toInt32 = (97 : Int32) := by decide
theorem kb_99 : (Int8.ofInt (99)).toInt32 = (99 : Int32) := by decide
theorem kb_m2 : (Int8.ofInt (-2)).toInt32 = (-2 : Int32) := by decide
theorem kb_m3 : (Int8.ofInt (-3)).toInt32 = (-3 : Int32) := by decide
theorem kc_0 : Int32.ofInt (0) = (0 : Int32) := by decide
theorem kc_1 : Int32.ofInt (1) = (1 : Int32) := by decide
theorem kc_2 : Int32.ofInt (2) = (2 : Int32) := by decide
theorem kc_3 : Int32.ofInt (3) = (3 : Int32) := by decide
theorem kc_4 : Int32.ofInt (4) = (4 : Int32) := by decide
theorem kc_5 : Int32.ofInt (5) = (5 : Int32) := by decide
theorem kc_6 : Int32.ofInt (6) = (6 : Int32) := by decide
theorem kc_m1 : Int32.ofInt (-1) = (-1 : Int32) := by decide
theorem kc_m8 : Int32.ofInt (-8) = (-8 : Int32) := by decide
theorem ks_1440 : (Int16.ofInt (1440)).toInt32 = (1440 : Int32) := by decide
theorem ks_1700 : (Int16.ofInt (1700)).toInt32 = (1700 : Int32) := by decide
theorem ks_1800 : (Int16.ofInt (1800)).toInt32 = (1800 : Int32) := by decide
theorem ks_2196 : (Int16.ofInt (2196)).toInt32 = (2196 : Int32) := by decide
theorem ks_252 : (Int16.ofInt (252)).toInt32 = (252 : Int32) := by decide
theorem ks_255 : (Int16.ofInt (255)).toInt32 = (255 : Int32) := by decide
theorem ks_256 : (Int16.ofInt (256)).toInt32 = (256 : Int32) := by decide
theorem ks_257 : (Int16.ofInt (257)).toInt32 = (257 : Int32) := by decide
theorem ks_258 : (Int16.ofInt (258)).toInt32 = (258 : Int32) := by decide
theorem ks_259 : (Int16.ofInt (259)).toInt32 = (259 : Int32) := by decide
theorem ks_300 : (Int16.ofInt (300)).toInt32 = (300 : Int32) := by decide
theorem ks_312 : (Int16.ofInt (312)).toInt32 = (312 : Int32) := by decide
theorem ks_313 : (Int16.ofInt (313)).toInt32 = (313 : Int32) := by decide
theorem ks_314 : (Int16.ofInt (314)).toInt32 = (314 : Int32) := by decide
theorem ks_315 : (Int16.ofInt (315)).toInt32 = (315 : Int32) := by decide
theorem ks_316 : (Int16.ofInt (316)).toInt32 = (316 : Int32) := by decide
theorem ks_317 : (Int16.ofInt (317)).toInt32 = (317 : Int32) := by decide
theorem ks_318 : (Int16.ofInt (318)).toInt32 = (318 : Int32) := by decide
theorem ks_319 : (Int16.ofInt (319)).toInt32 = (319 : Int32) := by decide
theorem ks_320 : (Int16.ofInt (320)).toInt32 = (320 : Int32) := by decide
theorem ks_400 : (Int16.ofInt (400)).toInt32 = (400 : Int32) := by decide
theorem ks_402 : (Int16.ofInt (402)).toInt32 = (402 : Int32) := by decide
theorem ks_8500 : (Int16.ofInt (8500)).toInt32 = (8500 : Int32) := by decide
theorem ks_999 : (Int16.ofInt (999)).toInt32 = (999 : Int32) := by decide
theorem ks_9999 : (Int16.ofInt (9999)).toInt32 = (9999 : Int32) := by decide
theorem ks_m1000 : (Int16.ofInt (-1000)).toInt32 = (-1000 : Int32) := by decide
theorem cw_0 : ∀ k, k < 3 → u_lay RX0 TX0 k ∈ lw_gw := fun k hk => match k, hk with
  | 0, _ => mk_w2 (i := 21) rfl rfl
  | 1, _ => mk_w2 (i := 23) rfl rfl
  | 2, _ => mk_w2 (i := 25) rfl rfl
  | n + 3, h => absurd h (by omega)
theorem cl_0 : mk_CL 0 := ⟨RX0, TX0, 3, tyX0, rfl, fun w hw => by obtain ⟨k, hk, e⟩ := List.mem_map.mp hw; rw [← e]; exact cw_0 k (List.mem_range.mp hk), tyX0_ok, nmX0, by decide, by decide +kernel⟩
theorem cw_1 : ∀ k, k < 4 → u_lay RX1 TX1 k ∈ lw_gw := fun k hk => match k, hk with
  | 0, _ => mk_w2 (i := 40) rfl rfl
  | 1, _ => mk_w2 (i := 42) rfl rfl
  | 2, _ => mk_w2 (i := 44) rfl rfl
  | 3, _ => mk_w2 (i := 46) rfl rfl
  | n + 4, h => absurd h (by omega)
theorem cl_1 : mk_CL 1 := ⟨RX1, TX1, 4, tyX1, rfl, fun w hw => by obtain ⟨k, hk, e⟩ := List.mem_map.mp hw; rw [← e]; exact cw_1 k (List.mem_range.mp hk), tyX1_ok, nmX1, by decide, by decide +kernel⟩
theorem cw_2 : ∀ k, k < 14 → u_lay RX2 TX2 k ∈ lw_gw := fun k hk => match k, hk with
  | 0, _ => mk_w2 (i := 146) rfl rfl
  | 1, _ => mk_w2 (i := 148) rfl rfl
  | 2, _ => mk_w2 (i := 150) rfl rfl
  | 3, _ => mk_w2 (i := 152) rfl rfl
  | 4, _ => mk_w2 (i := 154) rfl rfl
  | 5, _ => mk_w2 (i := 156) rfl rfl
  | 6, _ => mk_w2 (i := 158) rfl rfl
  | 7, _ => mk_w2 (i := 160) rfl rfl
  | 8, _ => mk_w2 (i := 162) rfl rfl
  | 9, _ => mk_w2 (i := 164) rfl rfl
  | 10, _ => mk_w2 (i := 166) rfl rfl
  | 11, _ => mk_w2 (i := 168) rfl rfl
  | 12, _ => mk_w2 (i := 170) rfl rfl
  | 13, _ => mk_w2 (i := 172) rfl rfl
  | n + 14, h => absurd h (by omega)
theorem cl_2 : mk_CL 2 := ⟨RX2, TX2, 14, tyX2, rfl, fun w hw => by obtain ⟨k, hk, e⟩ := List.mem_map.mp hw; rw [← e]; exact cw_2 k (List.mem_range.mp hk), tyX2_ok, nmX2, by decide, by decide +kernel⟩
theorem cw_3 : ∀ k, k < 12 → u_lay RX3 TX3 k ∈ lw_gw := fun k hk => match k, hk with
  | 0, _ => mk_w1 (i := 150) rfl rfl
  | 1, _ => mk_w1 (i := 152) rfl rfl
  | 2, _ => mk_w1 (i := 154) rfl rfl
  | 3, _ => mk_w1 (i := 156) rfl rfl
  | 4, _ => mk_w1 (i := 158) rfl rfl
  | 5, _ => mk_w1 (i := 160) rfl rfl
  | 6, _ => mk_w1 (i := 162) rfl rfl
  | 7, _ => mk_w1 (i := 164) rfl rfl
  | 8, _ => mk_w1 (i := 166) rfl rfl
  | 9, _ => mk_w1 (i := 168) rfl rfl
  | 10, _ => mk_w1 (i := 170) rfl rfl
  | 11, _ => mk_w1 (i := 172) rfl rfl
  | n + 12, h => absurd h (by omega)
theorem cl_3 : mk_CL 3 := ⟨RX3, TX3, 12, tyX3, rfl, fun w hw => by obtain ⟨k, hk, e⟩ := List.mem_map.mp hw; rw [← e]; exact cw_3 k (List.mem_range.mp hk), tyX3_ok, nmX3, by decide, by decide +kernel⟩
theorem cw_4 : ∀ k, k < 8 → u_lay RX5 TX5 k ∈ lw_gw := fun k hk => match k, hk with
  | 0, _ => mk_w2 (i := 111) rfl rfl
  | 1, _ => mk_w2 (i := 113) rfl rfl
  | 2, _ => mk_w2 (i := 115) rfl rfl
  | 3, _ => mk_w2 (i := 117) rfl rfl
  | 4, _ => mk_w2 (i := 119) rfl rfl
  | 5, _ => mk_w2 (i := 121) rfl rfl
  | 6, _ => mk_w2 (i := 123) rfl rfl
  | 7, _ => mk_w2 (i := 125) rfl rfl
  | n + 8, h => absurd h (by omega)
theorem cl_4 : mk_CL 4 := ⟨RX5, TX5, 8, tyX5, rfl, fun w hw => by obtain ⟨k, hk, e⟩ := List.mem_map.mp hw; rw [← e]; exact cw_4 k (List.mem_range.mp hk), tyX5_ok, nmX5, by decide, by decide +kernel⟩
theorem cw_5 : ∀ k, k < 8 → u_lay RX6 TX6 k ∈ lw_gw := fun k hk => match k, hk with
  | 0, _ => mk_w1 (i := 80) rfl rfl
  | 1, _ => mk_w1 (i := 82) rfl rfl
  | 2, _ => mk_w1 (i := 84) rfl rfl
  | 3, _ => mk_w1 (i := 86) rfl rfl
  | 4, _ => mk_w1 (i := 88) rfl rfl
  | 5, _ => mk_w1 (i := 90) rfl rfl
  | 6, _ => mk_w1 (i := 92) rfl rfl
  | 7, _ => mk_w1 (i := 94) rfl rfl
  | n + 8, h => absurd h (by omega)
theorem cl_5 : mk_CL 5 := ⟨RX6, TX6, 8, tyX6, rfl, fun w hw => by obtain ⟨k, hk, e⟩ := List.mem_map.mp hw; rw [← e]; exact cw_5 k (List.mem_range.mp hk), tyX6_ok, nmX6, by decide, by decide +kernel⟩
theorem cw_6 : ∀ k, k < 9 → u_lay RX7 TX7 k ∈ lw_gw := fun k hk => match k, hk with
  | 0, _ => mk_w1 (i := 229) rfl rfl
  | 1, _ => mk_w1 (i := 231) rfl rfl
  | 2, _ => mk_w1 (i := 233) rfl rfl
  | 3, _ => mk_w1 (i := 235) rfl rfl
  | 4, _ => mk_w1 (i := 237) rfl rfl
  | 5, _ => mk_w1 (i := 239) rfl rfl
  | 6, _ => mk_w2 (i := 1) rfl rfl
  | 7, _ => mk_w2 (i := 3) rfl rfl
  | 8, _ => mk_w2 (i := 5) rfl rfl
  | n + 9, h => absurd h (by omega)
theorem cl_6 : mk_CL 6 := ⟨RX7, TX7, 9, tyX7, rfl, fun w hw => by obtain ⟨k, hk, e⟩ := List.mem_map.mp hw; rw [← e]; exact cw_6 k (List.mem_range.mp hk), tyX7_ok, nmX7, by decide, by decide +kernel⟩
theorem cw_7 : ∀ k, k < 7 → u_lay RX8 TX8 k ∈ lw_gw := fun k hk => match k, hk with
  | 0, _ => mk_w1 (i := 50) rfl rfl
  | 1, _ => mk_w1 (i := 52) rfl rfl
  | 2, _ => mk_w1 (i := 54) rfl rfl
  | 3, _ => mk_w1 (i := 56) rfl rfl
  | 4, _ => mk_w1 (i := 58) rfl rfl
  | 5, _ => mk_w1 (i := 60) rfl rfl
  | 6, _ => mk_w1 (i := 62) rfl rfl
  | n + 7, h => absurd h (by omega)
theorem cl_7 : mk_CL 7 := ⟨RX8, TX8, 7, tyX8, rfl, fun w hw => by obtain ⟨k, hk, e⟩ := List.mem_map.mp hw; rw [← e]; exact cw_7 k (List.mem_range.mp hk), tyX8_ok, nmX8, by decide, by decide +kernel⟩
theorem cw_8 : ∀ k, k < 1 → u_lay RX9 TX9 k ∈ lw_gw := fun k hk => match k, hk with
  | 0, _ => mk_w2 (i := 88) rfl rfl
  | n + 1, h => absurd h (by omega)
theorem cl_8 : mk_CL 8 := ⟨RX9, TX9, 1, tyX9, rfl, fun w hw => by obtain ⟨k, hk, e⟩ := List.mem_map.mp hw; rw [← e]; exact cw_8 k (List.mem_range.mp hk), tyX9_ok, nmX9, by decide, by decide +kernel⟩
theorem cw_9 : ∀ k, k < 6 → u_lay RX10 TX10 k ∈ lw_gw := fun k hk => match k, hk with
  | 0, _ => mk_w2 (i := 66) rfl rfl
  | 1, _ => mk_w2 (i := 68) rfl rfl
  | 2, _ => mk_w2 (i := 70) rfl rfl
  | 3, _ => mk_w2 (i := 72) rfl rfl
  | 4, _ => mk_w2 (i := 74) rfl rfl
  | 5, _ => mk_w2 (i := 76) rfl rfl
  | n + 6, h => absurd h (by omega)
theorem cl_9 : mk_CL 9 := ⟨RX10, TX10, 6, tyX10, rfl, fun w hw => by obtain ⟨k, hk, e⟩ := List.mem_map.mp hw; rw [← e]; exact cw_9 k (List.mem_range.mp hk), tyX10_ok, nmX10, by decide, by decide +kernel⟩
theorem cw_10 : ∀ k, k < 7 → u_lay RX11 TX11 k ∈ lw_gw := fun k hk => match k, hk with
  | 0, _ => mk_w2 (i := 185) rfl rfl
  | 1, _ => mk_w2 (i := 187) rfl rfl
  | 2, _ => mk_w2 (i := 189) rfl rfl
  | 3, _ => mk_w2 (i := 191) rfl rfl
  | 4, _ => mk_w2 (i := 193) rfl rfl
  | 5, _ => mk_w2 (i := 195) rfl rfl
  | 6, _ => mk_w2 (i := 197) rfl rfl
  | n + 7, h => absurd h (by omega)
theorem cl_10 : mk_CL 10 := ⟨RX11, TX11, 7, tyX11, rfl, fun w hw => by obtain ⟨k, hk, e⟩ := List.mem_map.mp hw; rw [← e]; exact cw_10 k (List.mem_range.mp hk), tyX11_ok, nmX11, by decide, by decide +kernel⟩
theorem cw_11 : ∀ k, k < 64 → u_lay RX12 TX12 k ∈ lw_gw := fun k hk => match k, hk with
  | 0, _ => mk_w5 (i := 231) rfl rfl
  | 1, _ => mk_w5 (i := 233) rfl rfl
  | 2, _ => mk_w5 (i := 235) rfl rfl
  | 3, _ => mk_w5 (i := 237) rfl rfl
  | 4, _ => mk_w5 (i := 239) rfl rfl
  | 5, _ => mk_w6 (i := 1) rfl rfl
  | 6, _ => mk_w6 (i := 3) rfl rfl
  | 7, _ => mk_w6 (i := 5) rfl rfl
  | 8, _ => mk_w6 (i := 7) rfl rfl
  | 9, _ => mk_w6 (i := 9) rfl rfl
  | 10, _ => mk_w6 (i := 11) rfl rfl
  | 11, _ => mk_w6 (i := 13) rfl rfl
  | 12, _ => mk_w6 (i := 15) rfl rfl
  | 13, _ => mk_w6 (i := 17) rfl rfl
  | 14, _ => mk_w6 (i := 19) rfl rfl
  | 15, _ => mk_w6 (i := 21) rfl rfl
  | 16, _ => mk_w6 (i := 23) rfl rfl
  | 17, _ => mk_w6 (i := 25) rfl rfl
  | 18, _ => mk_w6 (i := 27) rfl rfl
  | 19, _ => mk_w6 (i := 29) rfl rfl
  | 20, _ => mk_w6 (i := 31) rfl rfl
  | 21, _ => mk_w6 (i := 33) rfl rfl
  | 22, _ => mk_w6 (i := 35) rfl rfl
  | 23, _ => mk_w6 (i := 37) rfl rfl
  | 24, _ => mk_w6 (i := 39) rfl rfl
  | 25, _ => mk_w6 (i := 41) rfl rfl
  | 26, _ => mk_w6 (i := 43) rfl rfl
  | 27, _ => mk_w6 (i := 45) rfl rfl
  | 28, _ => mk_w6 (i := 47) rfl rfl
  | 29, _ => mk_w6 (i := 49) rfl rfl
  | 30, _ => mk_w6 (i := 51) rfl rfl
  | 31, _ => mk_w6 (i := 53) rfl rfl
  | 32, _ => mk_w6 (i := 55) rfl rfl
  | 33, _ => mk_w6 (i := 57) rfl rfl
  | 34, _ => mk_w6 (i := 59) rfl rfl
  | 35, _ => mk_w6 (i := 61) rfl rfl
  | 36, _ => mk_w6 (i := 63) rfl rfl
  | 37, _ => mk_w6 (i := 65) rfl rfl
  | 38, _ => mk_w6 (i := 67) rfl rfl
  | 39, _ => mk_w6 (i := 69) rfl rfl
  | 40, _ => mk_w6 (i := 71) rfl rfl
  | 41, _ => mk_w6 (i := 73) rfl rfl
  | 42, _ => mk_w6 (i := 75) rfl rfl
  | 43, _ => mk_w6 (i := 77) rfl rfl
  | 44, _ => mk_w6 (i := 79) rfl rfl
  | 45, _ => mk_w6 (i := 81) rfl rfl
  | 46, _ => mk_w6 (i := 83) rfl rfl
  | 47, _ => mk_w6 (i := 85) rfl rfl
  | 48, _ => mk_w6 (i := 87) rfl rfl
  | 49, _ => mk_w6 (i := 89) rfl rfl
  | 50, _ => mk_w6 (i := 91) rfl rfl
  | 51, _ => mk_w6 (i := 93) rfl rfl
  | 52, _ => mk_w6 (i := 95) rfl rfl
  | 53, _ => mk_w6 (i := 97) rfl rfl
  | 54, _ => mk_w6 (i := 99) rfl rfl
  | 55, _ => mk_w6 (i := 101) rfl rfl
  | 56, _ => mk_w6 (i := 103) rfl rfl
  | 57, _ => mk_w6 (i := 105) rfl rfl
  | 58, _ => mk_w6 (i := 107) rfl rfl
  | 59, _ => mk_w6 (i := 109) rfl rfl
  | 60, _ => mk_w6 (i := 111) rfl rfl
  | 61, _ => mk_w6 (i := 113) rfl rfl
  | 62, _ => mk_w6 (i := 115) rfl rfl
  | 63, _ => mk_w6 (i := 117) rfl rfl
  | n + 64, h => absurd h (by omega)
theorem cl_11 : mk_CL 11 := ⟨RX12, TX12, 64, tyX12, rfl, fun w hw => by obtain ⟨k, hk, e⟩ := List.mem_map.mp hw; rw [← e]; exact cw_11 k (List.mem_range.mp hk), tyX12_ok, nmX12, by decide, by decide +kernel⟩
def M_X7_init : mk_M := (yX7_init, cX7_init, 1, none, 1, 26)
def M_X0_init : mk_M := (yX0_init, cX0_init, 2, none, 2, 46)
def M_X0_clear : mk_M := (yX0_clear, cX0_clear, 1, none, 0, 0)
def M_X7_copyFrom : mk_M := (yX7_copyFrom, cX7_copyFrom, 2, none, 1, 26)
def M_X0_keep : mk_M := (yX0_keep, cX0_keep, 2, none, 2, 47)
def M_X0_goBack : mk_M := (yX0_goBack, cX0_goBack, 2, (some .boolean), 2, 47)
def M_X0_copyFrom : mk_M := (yX0_copyFrom, cX0_copyFrom, 3, none, 2, 47)
def M_X1_init : mk_M := (yX1_init, cX1_init, 1, none, 1, 26)
def M_X1_add : mk_M := (yX1_add, cX1_add, 4, (some .boolean), 0, 0)
def M_X1_lastHour : mk_M := (yX1_lastHour, cX1_lastHour, 3, (some .int), 1, 26)
def M_X7_windAt : mk_M := (yX7_windAt, cX7_windAt, 2, (some .int), 0, 0)
def M_X1_areSo : mk_M := (yX1_areSo, cX1_areSo, 4, (some .boolean), 1, 21)
def M_X1_copyFrom : mk_M := (yX1_copyFrom, cX1_copyFrom, 2, none, 1, 26)
def M_X3_init : mk_M := (yX3_init, cX3_init, 1, none, 1, 26)
def M_X10_init : mk_M := (yX10_init, cX10_init, 1, none, 3, 67)
def M_X9_init : mk_M := (yX9_init, cX9_init, 1, none, 1, 26)
def M_X5_init : mk_M := (yX5_init, cX5_init, 1, none, 1, 26)
def M_X2_init : mk_M := (yX2_init, cX2_init, 2, none, 4, 87)
def M_X2_numbered : mk_M := (yX2_numbered, cX2_numbered, 2, (some (.object "WhimWind$Rule")), 0, 0)
def M_X2_inForce : mk_M := (yX2_inForce, cX2_inForce, 1, (some (.object "WhimWind$Rule")), 1, 21)
def M_X7_urgeOn : mk_M := (yX7_urgeOn, cX7_urgeOn, 3, none, 1, 26)
def M_X3_rowOf : mk_M := (yX3_rowOf, cX3_rowOf, 2, (some .int), 0, 0)
def M_X3_columnOf : mk_M := (yX3_columnOf, cX3_columnOf, 2, (some .int), 0, 0)
def M_X7_sum : mk_M := (yX7_sum, cX7_sum, 6, (some .int), 0, 0)
def M_X7_groundInAll : mk_M := (yX7_groundInAll, cX7_groundInAll, 1, (some .int), 1, 25)
def M_J6_bitCount_0f7a4 : mk_M := (yJ6_bitCount_0f7a4, cJ6_bitCount_0f7a4, 1, (some .int), 0, 0)
def M_X9_tell : mk_M := (yX9_tell, cX9_tell, 4, none, 2, 45)
def M_X5_isWord : mk_M := (yX5_isWord, cX5_isWord, 1, (some .boolean), 0, 0)
def M_X5_joined : mk_M := (yX5_joined, cX5_joined, 5, (some .long), 0, 0)
def M_X5_worth : mk_M := (yX5_worth, cX5_worth, 7, (some .long), 1, 24)
def M_X5_says : mk_M := (yX5_says, cX5_says, 3, (some .boolean), 2, 50)
def M_X9_giversOf : mk_M := (yX9_giversOf, cX9_giversOf, 8, (some .int), 3, 72)
def M_J7_fill_53178 : mk_M := (yJ7_fill_53178, cJ7_fill_53178, 4, none, 0, 0)
def M_X3_has : mk_M := (yX3_has, cX3_has, 3, (some .boolean), 0, 0)
def M_X9_puff : mk_M := (yX9_puff, cX9_puff, 9, none, 1, 22)
def M_X9_blow : mk_M := (yX9_blow, cX9_blow, 4, none, 2, 50)
def M_X9_grind : mk_M := (yX9_grind, cX9_grind, 4, none, 1, 26)
def M_X9_unroof : mk_M := (yX9_unroof, cX9_unroof, 3, none, 1, 21)
def M_X9_spread : mk_M := (yX9_spread, cX9_spread, 3, none, 2, 48)
def M_X9_pass : mk_M := (yX9_pass, cX9_pass, 6, (some .int), 4, 99)
def M_X2_goOn : mk_M := (yX2_goOn, cX2_goOn, 5, none, 5, 124)
def M_X2_aheadBy : mk_M := (yX2_aheadBy, cX2_aheadBy, 4, (some .int), 6, 148)
def M_X2_firstHour : mk_M := (yX2_firstHour, cX2_firstHour, 6, (some .int), 5, 124)
def M_X2_forgetWays : mk_M := (yX2_forgetWays, cX2_forgetWays, 1, none, 0, 0)
def M_X2_offer : mk_M := (yX2_offer, cX2_offer, 4, none, 2, 45)
def M_X2_best : mk_M := (yX2_best, cX2_best, 2, (some .int), 0, 0)
def M_X3_cells : mk_M := (yX3_cells, cX3_cells, 1, (some .int), 0, 0)
def M_X2_bestCell : mk_M := (yX2_bestCell, cX2_bestCell, 5, (some .int), 6, 148)
def M_X2_bestFace : mk_M := (yX2_bestFace, cX2_bestFace, 5, (some .int), 6, 148)
def M_X2_bestStill : mk_M := (yX2_bestStill, cX2_bestStill, 4, (some .int), 6, 148)
def M_X2_leastWine : mk_M := (yX2_leastWine, cX2_leastWine, 6, (some .int), 6, 148)
def M_X2_sharesOf : mk_M := (yX2_sharesOf, cX2_sharesOf, 4, (some .int), 0, 0)
def M_X2_blowers : mk_M := (yX2_blowers, cX2_blowers, 9, (some .int), 2, 50)
def M_X7_windInAll : mk_M := (yX7_windInAll, cX7_windInAll, 1, (some .int), 1, 25)
def M_X2_longestLull : mk_M := (yX2_longestLull, cX2_longestLull, 8, (some .int), 5, 124)
def M_X2_windiest : mk_M := (yX2_windiest, cX2_windiest, 8, (some .int), 5, 124)
def M_X2_playTwo : mk_M := (yX2_playTwo, cX2_playTwo, 7, none, 5, 124)
def M_X2_isRest : mk_M := (yX2_isRest, cX2_isRest, 3, (some .boolean), 0, 0)
def M_X2_restsOf : mk_M := (yX2_restsOf, cX2_restsOf, 8, (some .int), 6, 150)
def M_X7_begin : mk_M := (yX7_begin, cX7_begin, 2, none, 1, 26)
def M_X2_isFitting : mk_M := (yX2_isFitting, cX2_isFitting, 4, (some .boolean), 5, 124)
def M_X2_fitting : mk_M := (yX2_fitting, cX2_fitting, 3, (some .int), 6, 147)
def M_X2_fillWinds : mk_M := (yX2_fillWinds, cX2_fillWinds, 5, none, 5, 124)
def M_X2_mostAlike : mk_M := (yX2_mostAlike, cX2_mostAlike, 8, (some .int), 1, 26)
def M_X2_bestLook : mk_M := (yX2_bestLook, cX2_bestLook, 8, (some .int), 6, 148)
def M_X2_draw : mk_M := (yX2_draw, cX2_draw, 1, (some .int), 0, 0)
def M_X2_goThroughNotions : mk_M := (yX2_goThroughNotions, cX2_goThroughNotions, 6, none, 5, 124)
def M_X2_yearsOfNotions : mk_M := (yX2_yearsOfNotions, cX2_yearsOfNotions, 8, (some .int), 6, 149)
def M_X3_isThere : mk_M := (yX3_isThere, cX3_isThere, 1, (some .boolean), 0, 0)
def M_X3_clear : mk_M := (yX3_clear, cX3_clear, 1, none, 0, 0)
def M_X3_copyFrom : mk_M := (yX3_copyFrom, cX3_copyFrom, 2, none, 1, 26)
def M_X8_open : mk_M := (yX8_open, cX8_open, 1, none, 0, 0)
def M_X8_byteAt : mk_M := (yX8_byteAt, cX8_byteAt, 2, (some .int), 0, 0)
def M_X8_readNumber : mk_M := (yX8_readNumber, cX8_readNumber, 1, none, 1, 21)
def M_X8_named : mk_M := (yX8_named, cX8_named, 1, (some (.object "java/lang/String")), 0, 0)
def M_X8_isHere : mk_M := (yX8_isHere, cX8_isHere, 3, (some .boolean), 4, 85)
def M_X8_readWord : mk_M := (yX8_readWord, cX8_readWord, 2, none, 5, 107)
def M_X8_readSign : mk_M := (yX8_readSign, cX8_readSign, 2, none, 1, 21)
def M_X8_advance : mk_M := (yX8_advance, cX8_advance, 2, none, 6, 128)
def M_X8_fail : mk_M := (yX8_fail, cX8_fail, 2, none, 0, 0)
def M_X4_mayStand : mk_M := (yX4_mayStand, cX4_mayStand, 3, (some .boolean), 0, 0)
def M_X8_isSound : mk_M := (yX8_isSound, cX8_isSound, 1, (some .boolean), 0, 0)
def M_X11_within : mk_M := (yX11_within, cX11_within, 3, (some .boolean), 0, 0)
def M_X4_next : mk_M := (yX4_next, cX4_next, 3, (some .int), 7, 149)
def M_X4_readPlateau : mk_M := (yX4_readPlateau, cX4_readPlateau, 2, none, 8, 171)
def M_X4_readPerson : mk_M := (yX4_readPerson, cX4_readPerson, 3, none, 8, 171)
def M_X4_readMill : mk_M := (yX4_readMill, cX4_readMill, 3, none, 8, 171)
def M_X4_readRoof : mk_M := (yX4_readRoof, cX4_readRoof, 3, none, 8, 171)
def M_X4_readClause : mk_M := (yX4_readClause, cX4_readClause, 4, none, 9, 193)
def M_X4_read : mk_M := (yX4_read, cX4_read, 4, (some .int), 10, 216)
def M_X5_clear : mk_M := (yX5_clear, cX5_clear, 1, none, 0, 0)
def M_X5_add : mk_M := (yX5_add, cX5_add, 3, none, 0, 0)
def M_X5_addClause : mk_M := (yX5_addClause, cX5_addClause, 3, none, 0, 0)
def M_X6_init : mk_M := (yX6_init, cX6_init, 1, none, 1, 26)
def M_X6_readClause : mk_M := (yX6_readClause, cX6_readClause, 3, none, 1, 21)
def M_X6_countItem : mk_M := (yX6_countItem, cX6_countItem, 2, none, 1, 21)
def M_X6_readValue : mk_M := (yX6_readValue, cX6_readValue, 3, none, 2, 42)
def M_X6_push : mk_M := (yX6_push, cX6_push, 2, none, 0, 0)
def M_X6_readFact : mk_M := (yX6_readFact, cX6_readFact, 3, none, 3, 64)
def M_X6_bindingOf : mk_M := (yX6_bindingOf, cX6_bindingOf, 1, (some .int), 0, 0)
def M_X6_release : mk_M := (yX6_release, cX6_release, 3, none, 1, 22)
def M_X6_join : mk_M := (yX6_join, cX6_join, 3, none, 2, 44)
def M_X6_closeBracket : mk_M := (yX6_closeBracket, cX6_closeBracket, 3, none, 2, 44)
def M_X6_closeClause : mk_M := (yX6_closeClause, cX6_closeClause, 3, none, 2, 44)
def M_X6_readBehind : mk_M := (yX6_readBehind, cX6_readBehind, 6, none, 3, 66)
def M_X6_readOn : mk_M := (yX6_readOn, cX6_readOn, 3, none, 4, 91)
def M_X6_read : mk_M := (yX6_read, cX6_read, 4, (some .int), 7, 149)
def M_X7_actedInAll : mk_M := (yX7_actedInAll, cX7_actedInAll, 1, (some .int), 1, 25)
def M_X7_share : mk_M := (yX7_share, cX7_share, 9, (some .int), 2, 45)
def M_X8_init : mk_M := (yX8_init, cX8_init, 1, none, 1, 26)
def M_X8_add : mk_M := (yX8_add, cX8_add, 3, none, 0, 0)
def M_X8_clear : mk_M := (yX8_clear, cX8_clear, 1, none, 0, 0)
def M_X10_begin : mk_M := (yX10_begin, cX10_begin, 2, none, 2, 47)
def M_X10_copyFrom : mk_M := (yX10_copyFrom, cX10_copyFrom, 2, none, 3, 69)
def M_X11_init : mk_M := (yX11_init, cX11_init, 2, none, 5, 108)
def M_X11_feed : mk_M := (yX11_feed, cX11_feed, 6, (some .int), 1, 22)
def M_X11_end : mk_M := (yX11_end, cX11_end, 2, (some .int), 1, 22)
def M_X11_plateau : mk_M := (yX11_plateau, cX11_plateau, 2, (some .int), 11, 239)
def M_X11_rule : mk_M := (yX11_rule, cX11_rule, 3, (some .int), 8, 172)
def M_X11_force : mk_M := (yX11_force, cX11_force, 3, (some .int), 1, 22)
def M_X11_isPerson : mk_M := (yX11_isPerson, cX11_isPerson, 2, (some .boolean), 1, 22)
def M_X11_person : mk_M := (yX11_person, cX11_person, 3, (some .int), 2, 43)
def M_X11_isMill : mk_M := (yX11_isMill, cX11_isMill, 2, (some .boolean), 1, 22)
def M_X11_mill : mk_M := (yX11_mill, cX11_mill, 3, (some .int), 2, 43)
def M_X11_isRoof : mk_M := (yX11_isRoof, cX11_isRoof, 2, (some .boolean), 1, 22)
def M_X11_roof : mk_M := (yX11_roof, cX11_roof, 3, (some .int), 2, 43)
def M_X11_isCell : mk_M := (yX11_isCell, cX11_isCell, 2, (some .boolean), 1, 22)
def M_X11_wind : mk_M := (yX11_wind, cX11_wind, 2, (some .int), 2, 43)
def M_X11_count : mk_M := (yX11_count, cX11_count, 2, (some .int), 2, 45)
def M_X11_hour : mk_M := (yX11_hour, cX11_hour, 1, (some .int), 5, 124)
def M_X11_wine : mk_M := (yX11_wine, cX11_wine, 3, (some .int), 3, 68)
def M_X11_place : mk_M := (yX11_place, cX11_place, 4, (some .int), 3, 68)
def M_X11_face : mk_M := (yX11_face, cX11_face, 4, (some .int), 3, 68)
def M_X11_mend : mk_M := (yX11_mend, cX11_mend, 2, (some .int), 3, 68)
def M_X11_undo : mk_M := (yX11_undo, cX11_undo, 1, (some .int), 3, 68)
def M_X11_isAhead : mk_M := (yX11_isAhead, cX11_isAhead, 3, (some .boolean), 2, 43)
def M_X11_ahead : mk_M := (yX11_ahead, cX11_ahead, 4, (some .int), 7, 171)
def M_X11_whim : mk_M := (yX11_whim, cX11_whim, 2, (some .int), 6, 149)
def M_X11_storm : mk_M := (yX11_storm, cX11_storm, 2, (some .int), 6, 149)
def M_X11_isWayAsked : mk_M := (yX11_isWayAsked, cX11_isWayAsked, 2, (some .boolean), 1, 22)
def M_X11_stand : mk_M := (yX11_stand, cX11_stand, 4, (some .int), 7, 172)
def M_X11_turn : mk_M := (yX11_turn, cX11_turn, 4, (some .int), 7, 172)
def M_X11_takes : mk_M := (yX11_takes, cX11_takes, 5, (some .int), 7, 173)
def M_X11_blown : mk_M := (yX11_blown, cX11_blown, 4, (some .int), 3, 78)
def M_X11_still : mk_M := (yX11_still, cX11_still, 3, (some .int), 7, 171)
def M_X11_lull : mk_M := (yX11_lull, cX11_lull, 3, (some .int), 6, 151)
def M_X11_harvest : mk_M := (yX11_harvest, cX11_harvest, 3, (some .int), 6, 151)
def M_X11_rests : mk_M := (yX11_rests, cX11_rests, 5, (some .int), 7, 177)
def M_X11_pence : mk_M := (yX11_pence, cX11_pence, 3, (some .int), 3, 73)
def M_X11_note : mk_M := (yX11_note, cX11_note, 4, (some .int), 2, 43)
def M_X11_ruled : mk_M := (yX11_ruled, cX11_ruled, 4, (some .int), 7, 169)
def M_X11_look : mk_M := (yX11_look, cX11_look, 4, (some .int), 7, 175)
def M_X11_seed : mk_M := (yX11_seed, cX11_seed, 3, (some .int), 0, 0)
def M_X11_notions : mk_M := (yX11_notions, cX11_notions, 5, (some .int), 7, 176)
def M_X11_image : mk_M := (yX11_image, cX11_image, 2, (some .int), 4, 90)
def M_X11_back : mk_M := (yX11_back, cX11_back, 2, (some .int), 4, 90)
def M_X12_init : mk_M := (yX12_init, cX12_init, 1, none, 1, 26)
def M_X12_in : mk_M := (yX12_in, cX12_in, 6, (some .boolean), 0, 0)
def M_X12_bits : mk_M := (yX12_bits, cX12_bits, 3, (some .int), 0, 0)
def M_X12_has : mk_M := (yX12_has, cX12_has, 2, (some .boolean), 0, 0)
def M_X12_isPlateau : mk_M := (yX12_isPlateau, cX12_isPlateau, 1, (some .boolean), 0, 0)
def M_X12_cells : mk_M := (yX12_cells, cX12_cells, 1, (some .int), 0, 0)
def M_X12_isCell : mk_M := (yX12_isCell, cX12_isCell, 2, (some .boolean), 1, 25)
def M_X12_isPerson : mk_M := (yX12_isPerson, cX12_isPerson, 2, (some .boolean), 1, 25)
def M_X12_isMill : mk_M := (yX12_isMill, cX12_isMill, 2, (some .boolean), 1, 25)
def M_X12_isRoof : mk_M := (yX12_isRoof, cX12_isRoof, 2, (some .boolean), 1, 25)
def M_X12_put : mk_M := (yX12_put, cX12_put, 3, none, 0, 0)
def M_X12_feed : mk_M := (yX12_feed, cX12_feed, 6, (some .int), 1, 22)
def M_X12_end : mk_M := (yX12_end, cX12_end, 2, (some .int), 0, 0)
def M_X12_wordOf : mk_M := (yX12_wordOf, cX12_wordOf, 1, (some (.object "java/lang/String")), 0, 0)
def M_X12_fails : mk_M := (yX12_fails, cX12_fails, 3, none, 0, 0)
def M_X12_sign : mk_M := (yX12_sign, cX12_sign, 1, (some .int), 0, 0)
def M_X12_blanks : mk_M := (yX12_blanks, cX12_blanks, 1, none, 1, 20)
def M_X12_isDigit : mk_M := (yX12_isDigit, cX12_isDigit, 1, (some .boolean), 1, 25)
def M_X12_stood : mk_M := (yX12_stood, cX12_stood, 5, (some .boolean), 4, 85)
def M_X12_isNext : mk_M := (yX12_isNext, cX12_isNext, 3, (some .boolean), 5, 109)
def M_X12_entry : mk_M := (yX12_entry, cX12_entry, 3, none, 0, 0)
def M_X12_isCounted : mk_M := (yX12_isCounted, cX12_isCounted, 2, none, 1, 22)
def M_X12_digits : mk_M := (yX12_digits, cX12_digits, 4, (some .int), 2, 45)
def M_X12_value : mk_M := (yX12_value, cX12_value, 3, none, 5, 109)
def M_X12_term : mk_M := (yX12_term, cX12_term, 2, none, 6, 131)
def M_X12_sum : mk_M := (yX12_sum, cX12_sum, 2, none, 7, 152)
def M_X12_compared : mk_M := (yX12_compared, cX12_compared, 3, none, 8, 173)
def M_X12_top : mk_M := (yX12_top, cX12_top, 1, (some .int), 0, 0)
def M_X12_opens : mk_M := (yX12_opens, cX12_opens, 2, none, 1, 22)
def M_X12_answers : mk_M := (yX12_answers, cX12_answers, 2, none, 1, 22)
def M_X12_fact : mk_M := (yX12_fact, cX12_fact, 1, (some .boolean), 9, 195)
def M_X12_test : mk_M := (yX12_test, cX12_test, 5, none, 10, 215)
def M_X12_amount : mk_M := (yX12_amount, cX12_amount, 5, (some .int), 3, 68)
def M_X12_plateauWord : mk_M := (yX12_plateauWord, cX12_plateauWord, 1, (some (.object "java/lang/String")), 0, 0)
def M_X12_plateauPart : mk_M := (yX12_plateauPart, cX12_plateauPart, 4, none, 4, 92)
def M_X12_isFull : mk_M := (yX12_isFull, cX12_isFull, 3, (some .boolean), 0, 0)
def M_X12_plateauClause : mk_M := (yX12_plateauClause, cX12_plateauClause, 4, none, 5, 115)
def M_X12_copies : mk_M := (yX12_copies, cX12_copies, 3, none, 0, 0)
def M_X12_goesOn : mk_M := (yX12_goesOn, cX12_goesOn, 2, (some .boolean), 2, 40)
def M_X12_starts : mk_M := (yX12_starts, cX12_starts, 1, none, 0, 0)
def M_X12_readsAll : mk_M := (yX12_readsAll, cX12_readsAll, 3, none, 6, 138)
def M_X12_begins : mk_M := (yX12_begins, cX12_begins, 2, none, 1, 22)
def M_X12_plateau : mk_M := (yX12_plateau, cX12_plateau, 2, (some .int), 7, 160)
def M_X12_ruleClause : mk_M := (yX12_ruleClause, cX12_ruleClause, 4, none, 11, 239)
def M_X12_rule : mk_M := (yX12_rule, cX12_rule, 3, (some .int), 12, 262)
def M_X12_force : mk_M := (yX12_force, cX12_force, 3, (some .int), 1, 25)
def M_X12_truth : mk_M := (yX12_truth, cX12_truth, 1, (some .long), 0, 0)
def M_X12_both : mk_M := (yX12_both, cX12_both, 5, (some .long), 1, 20)
def M_X12_answer : mk_M := (yX12_answer, cX12_answer, 8, (some .long), 2, 44)
def M_X12_wanted : mk_M := (yX12_wanted, cX12_wanted, 3, (some .long), 3, 71)
def M_X12_sinceOf : mk_M := (yX12_sinceOf, cX12_sinceOf, 2, (some .int), 0, 0)
def M_X12_person : mk_M := (yX12_person, cX12_person, 3, (some .int), 2, 46)
def M_X12_mill : mk_M := (yX12_mill, cX12_mill, 3, (some .int), 2, 46)
def M_X12_roof : mk_M := (yX12_roof, cX12_roof, 3, (some .int), 2, 46)
def M_X12_wind : mk_M := (yX12_wind, cX12_wind, 2, (some .int), 2, 46)
def M_X12_allGround : mk_M := (yX12_allGround, cX12_allGround, 3, (some .int), 0, 0)
def M_X12_allWind : mk_M := (yX12_allWind, cX12_allWind, 3, (some .int), 1, 20)
def M_X12_allActed : mk_M := (yX12_allActed, cX12_allActed, 3, (some .int), 0, 0)
def M_X12_upTo : mk_M := (yX12_upTo, cX12_upTo, 2, (some .int), 0, 0)
def M_X12_before : mk_M := (yX12_before, cX12_before, 6, (some .int), 0, 0)
def M_X12_puffIn : mk_M := (yX12_puffIn, cX12_puffIn, 5, (some .int), 1, 25)
def M_X12_givesWay : mk_M := (yX12_givesWay, cX12_givesWay, 2, (some .boolean), 4, 93)
def M_X12_blows : mk_M := (yX12_blows, cX12_blows, 4, none, 2, 49)
def M_X12_works : mk_M := (yX12_works, cX12_works, 2, none, 1, 21)
def M_X12_goes : mk_M := (yX12_goes, cX12_goes, 3, (some .int), 5, 114)
def M_X12_goFor : mk_M := (yX12_goFor, cX12_goFor, 3, none, 6, 136)
def M_X12_moves : mk_M := (yX12_moves, cX12_moves, 3, (some .int), 0, 0)
def M_X12_movesRow : mk_M := (yX12_movesRow, cX12_movesRow, 3, none, 1, 22)
def M_X12_movesAll : mk_M := (yX12_movesAll, cX12_movesAll, 3, none, 2, 44)
def M_X12_keepsAct : mk_M := (yX12_keepsAct, cX12_keepsAct, 2, none, 3, 66)
def M_X12_undo : mk_M := (yX12_undo, cX12_undo, 1, (some .int), 3, 66)
def M_X12_hour : mk_M := (yX12_hour, cX12_hour, 1, (some .int), 6, 136)
def M_X12_wine : mk_M := (yX12_wine, cX12_wine, 3, (some .int), 4, 87)
def M_X12_place : mk_M := (yX12_place, cX12_place, 4, (some .int), 4, 87)
def M_X12_face : mk_M := (yX12_face, cX12_face, 4, (some .int), 4, 87)
def M_X12_mend : mk_M := (yX12_mend, cX12_mend, 2, (some .int), 4, 87)
def M_X12_carryRow : mk_M := (yX12_carryRow, cX12_carryRow, 3, none, 0, 0)
def M_X12_carriesAll : mk_M := (yX12_carriesAll, cX12_carriesAll, 3, none, 1, 22)
def M_X12_keepsAll : mk_M := (yX12_keepsAll, cX12_keepsAll, 1, none, 2, 44)
def M_X12_laysBack : mk_M := (yX12_laysBack, cX12_laysBack, 1, none, 2, 44)
def M_X12_ahead : mk_M := (yX12_ahead, cX12_ahead, 6, (some .int), 7, 158)
def M_X12_whim : mk_M := (yX12_whim, cX12_whim, 4, (some .int), 6, 136)
def M_X12_storm : mk_M := (yX12_storm, cX12_storm, 4, (some .int), 6, 136)
def M_X12_startsWays : mk_M := (yX12_startsWays, cX12_startsWays, 1, none, 0, 0)
def M_X12_tries : mk_M := (yX12_tries, cX12_tries, 5, none, 7, 158)
def M_X12_ofWays : mk_M := (yX12_ofWays, cX12_ofWays, 2, (some .int), 0, 0)
def M_X12_stand : mk_M := (yX12_stand, cX12_stand, 5, (some .int), 8, 182)
def M_X12_turn : mk_M := (yX12_turn, cX12_turn, 5, (some .int), 8, 182)
def M_X12_takes : mk_M := (yX12_takes, cX12_takes, 7, (some .int), 7, 158)
def M_X12_blown : mk_M := (yX12_blown, cX12_blown, 10, (some .int), 2, 49)
def M_X12_still : mk_M := (yX12_still, cX12_still, 4, (some .int), 8, 182)
def M_X12_lull : mk_M := (yX12_lull, cX12_lull, 7, (some .int), 6, 136)
def M_X12_harvest : mk_M := (yX12_harvest, cX12_harvest, 6, (some .int), 6, 136)
def M_X12_laysFaces : mk_M := (yX12_laysFaces, cX12_laysFaces, 5, none, 7, 158)
def M_X12_isRest : mk_M := (yX12_isRest, cX12_isRest, 3, (some .boolean), 0, 0)
def M_X12_rests : mk_M := (yX12_rests, cX12_rests, 8, (some .int), 8, 182)
def M_X12_pence : mk_M := (yX12_pence, cX12_pence, 8, (some .int), 2, 46)
def M_X12_note : mk_M := (yX12_note, cX12_note, 5, (some .int), 2, 46)
def M_X12_couldRule : mk_M := (yX12_couldRule, cX12_couldRule, 4, (some .boolean), 6, 136)
def M_X12_ruled : mk_M := (yX12_ruled, cX12_ruled, 5, (some .int), 7, 159)
def M_X12_mostAlike : mk_M := (yX12_mostAlike, cX12_mostAlike, 7, (some .int), 0, 0)
def M_X12_look : mk_M := (yX12_look, cX12_look, 6, (some .int), 7, 159)
def M_X12_seed : mk_M := (yX12_seed, cX12_seed, 3, (some .int), 0, 0)
def M_X12_draws : mk_M := (yX12_draws, cX12_draws, 2, (some .int), 0, 0)
def M_X12_drawsNotion : mk_M := (yX12_drawsNotion, cX12_drawsNotion, 3, none, 1, 21)
def M_X12_notions : mk_M := (yX12_notions, cX12_notions, 11, (some .int), 6, 136)
def M_X12_count : mk_M := (yX12_count, cX12_count, 2, (some .int), 2, 42)
def M_X12_image : mk_M := (yX12_image, cX12_image, 2, (some .int), 2, 44)
def M_X12_back : mk_M := (yX12_back, cX12_back, 2, (some .int), 2, 44)
def M_L_law : mk_M := (yL_law, cL_law, 4, some .boolean, 13, 284)
theorem lo_RX7_3 : mk_LO RX7 3 := ⟨(mk_w1 (i := 194) rfl rfl), (mk_w1 (i := 28) rfl rfl), (mk_w1 (i := 29) rfl rfl)⟩
theorem fl_RX7_9 : mk_FL RX7 9 6 0 := ⟨RX7, TX7, 9, rfl, by decide, Or.inl (mk_w1 (i := 195) rfl rfl)⟩
theorem ft_6_0 : mk_FT 6 0 true (.array (.int)) := ⟨RX7, TX7, 9, rfl, rfl, by decide +kernel⟩
theorem fl_RX7_15 : mk_FL RX7 15 6 1 := ⟨RX7, TX7, 9, rfl, by decide, Or.inl (mk_w1 (i := 199) rfl rfl)⟩
theorem ft_6_1 : mk_FT 6 1 true (.array (.int)) := ⟨RX7, TX7, 9, rfl, rfl, by decide +kernel⟩
theorem fl_RX7_18 : mk_FL RX7 18 6 2 := ⟨RX7, TX7, 9, rfl, by decide, Or.inl (mk_w1 (i := 203) rfl rfl)⟩
theorem ft_6_2 : mk_FT 6 2 true (.array (.int)) := ⟨RX7, TX7, 9, rfl, rfl, by decide +kernel⟩
theorem fl_RX7_21 : mk_FL RX7 21 6 3 := ⟨RX7, TX7, 9, rfl, by decide, Or.inl (mk_w1 (i := 207) rfl rfl)⟩
theorem ft_6_3 : mk_FT 6 3 true (.array (.int)) := ⟨RX7, TX7, 9, rfl, rfl, by decide +kernel⟩
theorem fl_RX7_24 : mk_FL RX7 24 6 4 := ⟨RX7, TX7, 9, rfl, by decide, Or.inl (mk_w1 (i := 211) rfl rfl)⟩
theorem ft_6_4 : mk_FT 6 4 true (.array (.int)) := ⟨RX7, TX7, 9, rfl, rfl, by decide +kernel⟩
theorem fl_RX7_27 : mk_FL RX7 27 6 5 := ⟨RX7, TX7, 9, rfl, by decide, Or.inl (mk_w1 (i := 214) rfl rfl)⟩
theorem ft_6_5 : mk_FT 6 5 true (.array (.int)) := ⟨RX7, TX7, 9, rfl, rfl, by decide +kernel⟩
theorem fl_RX7_30 : mk_FL RX7 30 6 6 := ⟨RX7, TX7, 9, rfl, by decide, Or.inl (mk_w1 (i := 218) rfl rfl)⟩
theorem ft_6_6 : mk_FT 6 6 true (.array (.int)) := ⟨RX7, TX7, 9, rfl, rfl, by decide +kernel⟩
theorem fl_RX7_33 : mk_FL RX7 33 6 7 := ⟨RX7, TX7, 9, rfl, by decide, Or.inl (mk_w1 (i := 221) rfl rfl)⟩
theorem ft_6_7 : mk_FT 6 7 false (.int) := ⟨RX7, TX7, 9, rfl, rfl, by decide +kernel⟩
theorem fl_RX7_37 : mk_FL RX7 37 6 8 := ⟨RX7, TX7, 9, rfl, by decide, Or.inl (mk_w1 (i := 225) rfl rfl)⟩
theorem ft_6_8 : mk_FT 6 8 false (.int) := ⟨RX7, TX7, 9, rfl, rfl, by decide +kernel⟩
theorem fl_RX0_11 : mk_FL RX0 11 0 0 := ⟨RX0, TX0, 3, rfl, by decide, Or.inl (mk_w2 (i := 17) rfl rfl)⟩
theorem ln_RX0_9 : mk_LN RX0 9 6 9 := ⟨RX7, TX7, rfl, (mk_w2 (i := 14) rfl rfl), (mk_w1 (i := 190) rfl rfl), (mk_w1 (i := 7) rfl rfl)⟩
theorem lk_RX0_24 : mk_LK RX0 24 M_X7_init := Or.inr ⟨"WhimWind", (mk_n2 (i := 16) rfl rfl)⟩
theorem lo_RX0_3 : mk_LO RX0 3 := ⟨(mk_w2 (i := 13) rfl rfl), (mk_w1 (i := 28) rfl rfl), (mk_w1 (i := 29) rfl rfl)⟩
theorem ft_0_0 : mk_FT 0 0 true (.array (.object "WhimWind$State")) := ⟨RX0, TX0, 3, rfl, rfl, by decide +kernel⟩
theorem fl_RX0_17 : mk_FL RX0 17 0 1 := ⟨RX0, TX0, 3, rfl, by decide, Or.inl (mk_w2 (i := 18) rfl rfl)⟩
theorem ft_0_1 : mk_FT 0 1 false (.int) := ⟨RX0, TX0, 3, rfl, rfl, by decide +kernel⟩
theorem fl_RX0_21 : mk_FL RX0 21 0 2 := ⟨RX0, TX0, 3, rfl, by decide, Or.inl (mk_w2 (i := 19) rfl rfl)⟩
theorem ft_0_2 : mk_FT 0 2 false (.int) := ⟨RX0, TX0, 3, rfl, rfl, by decide +kernel⟩
theorem lcpy_RX7_43 : mk_LCpy RX7 43 := ⟨(mk_w3 (i := 140) rfl rfl), (mk_w3 (i := 135) rfl rfl), (mk_w3 (i := 134) rfl rfl), (mk_w1 (i := 18) rfl rfl)⟩
theorem lk_RX0_25 : mk_LK RX0 25 M_X7_copyFrom := Or.inr ⟨"WhimWind", (mk_n4 (i := 55) rfl rfl)⟩
theorem lmin_RX0_29 : mk_LMin RX0 29 := ⟨(mk_w4 (i := 59) rfl rfl), (mk_w4 (i := 60) rfl rfl), (mk_w1 (i := 20) rfl rfl), (mk_w4 (i := 61) rfl rfl)⟩
theorem lo_RX1_3 : mk_LO RX1 3 := ⟨(mk_w2 (i := 33) rfl rfl), (mk_w1 (i := 28) rfl rfl), (mk_w1 (i := 29) rfl rfl)⟩
theorem fl_RX1_9 : mk_FL RX1 9 1 0 := ⟨RX1, TX1, 4, rfl, by decide, Or.inl (mk_w2 (i := 34) rfl rfl)⟩
theorem ft_1_0 : mk_FT 1 0 true (.array (.int)) := ⟨RX1, TX1, 4, rfl, rfl, by decide +kernel⟩
theorem fl_RX1_15 : mk_FL RX1 15 1 1 := ⟨RX1, TX1, 4, rfl, by decide, Or.inl (mk_w2 (i := 35) rfl rfl)⟩
theorem ft_1_1 : mk_FT 1 1 true (.array (.int)) := ⟨RX1, TX1, 4, rfl, rfl, by decide +kernel⟩
theorem fl_RX1_18 : mk_FL RX1 18 1 2 := ⟨RX1, TX1, 4, rfl, by decide, Or.inl (mk_w2 (i := 36) rfl rfl)⟩
theorem ft_1_2 : mk_FT 1 2 true (.array (.int)) := ⟨RX1, TX1, 4, rfl, rfl, by decide +kernel⟩
theorem fl_RX1_21 : mk_FL RX1 21 1 3 := ⟨RX1, TX1, 4, rfl, by decide, Or.inl (mk_w2 (i := 37) rfl rfl)⟩
theorem ft_1_3 : mk_FT 1 3 false (.int) := ⟨RX1, TX1, 4, rfl, rfl, by decide +kernel⟩
theorem lmax_RX1_25 : mk_LMax RX1 25 := ⟨(mk_w5 (i := 90) rfl rfl), (mk_w5 (i := 91) rfl rfl), (mk_w1 (i := 20) rfl rfl), (mk_w5 (i := 92) rfl rfl)⟩
theorem lk_RX1_31 : mk_LK RX1 31 M_X7_windAt := Or.inr ⟨"WhimWind", (mk_n5 (i := 97) rfl rfl)⟩
theorem lcpy_RX1_37 : mk_LCpy RX1 37 := ⟨(mk_w5 (i := 157) rfl rfl), (mk_w3 (i := 135) rfl rfl), (mk_w3 (i := 134) rfl rfl), (mk_w1 (i := 18) rfl rfl)⟩
theorem lo_RX3_3 : mk_LO RX3 3 := ⟨(mk_w1 (i := 102) rfl rfl), (mk_w1 (i := 28) rfl rfl), (mk_w1 (i := 29) rfl rfl)⟩
theorem fl_RX3_9 : mk_FL RX3 9 3 0 := ⟨RX3, TX3, 12, rfl, by decide, Or.inl (mk_w1 (i := 103) rfl rfl)⟩
theorem ft_3_0 : mk_FT 3 0 false (.int) := ⟨RX3, TX3, 12, rfl, rfl, by decide +kernel⟩
theorem fl_RX3_15 : mk_FL RX3 15 3 1 := ⟨RX3, TX3, 12, rfl, by decide, Or.inl (mk_w1 (i := 107) rfl rfl)⟩
theorem ft_3_1 : mk_FT 3 1 false (.int) := ⟨RX3, TX3, 12, rfl, rfl, by decide +kernel⟩
theorem fl_RX3_18 : mk_FL RX3 18 3 2 := ⟨RX3, TX3, 12, rfl, by decide, Or.inl (mk_w1 (i := 111) rfl rfl)⟩
theorem ft_3_2 : mk_FT 3 2 false (.int) := ⟨RX3, TX3, 12, rfl, rfl, by decide +kernel⟩
theorem fl_RX3_21 : mk_FL RX3 21 3 3 := ⟨RX3, TX3, 12, rfl, by decide, Or.inl (mk_w1 (i := 116) rfl rfl)⟩
theorem ft_3_3 : mk_FT 3 3 false (.int) := ⟨RX3, TX3, 12, rfl, rfl, by decide +kernel⟩
theorem fl_RX3_24 : mk_FL RX3 24 3 4 := ⟨RX3, TX3, 12, rfl, by decide, Or.inl (mk_w1 (i := 120) rfl rfl)⟩
theorem ft_3_4 : mk_FT 3 4 false (.int) := ⟨RX3, TX3, 12, rfl, rfl, by decide +kernel⟩
theorem fl_RX3_27 : mk_FL RX3 27 3 5 := ⟨RX3, TX3, 12, rfl, by decide, Or.inl (mk_w1 (i := 124) rfl rfl)⟩
theorem ft_3_5 : mk_FT 3 5 true (.array (.int)) := ⟨RX3, TX3, 12, rfl, rfl, by decide +kernel⟩
theorem fl_RX3_31 : mk_FL RX3 31 3 6 := ⟨RX3, TX3, 12, rfl, by decide, Or.inl (mk_w1 (i := 127) rfl rfl)⟩
theorem ft_3_6 : mk_FT 3 6 true (.array (.int)) := ⟨RX3, TX3, 12, rfl, rfl, by decide +kernel⟩
theorem fl_RX3_34 : mk_FL RX3 34 3 7 := ⟨RX3, TX3, 12, rfl, by decide, Or.inl (mk_w1 (i := 131) rfl rfl)⟩
theorem ft_3_7 : mk_FT 3 7 true (.array (.int)) := ⟨RX3, TX3, 12, rfl, rfl, by decide +kernel⟩
theorem fl_RX3_37 : mk_FL RX3 37 3 8 := ⟨RX3, TX3, 12, rfl, by decide, Or.inl (mk_w1 (i := 134) rfl rfl)⟩
theorem ft_3_8 : mk_FT 3 8 true (.array (.int)) := ⟨RX3, TX3, 12, rfl, rfl, by decide +kernel⟩
theorem fl_RX3_40 : mk_FL RX3 40 3 9 := ⟨RX3, TX3, 12, rfl, by decide, Or.inl (mk_w1 (i := 138) rfl rfl)⟩
theorem ft_3_9 : mk_FT 3 9 true (.array (.int)) := ⟨RX3, TX3, 12, rfl, rfl, by decide +kernel⟩
theorem fl_RX3_43 : mk_FL RX3 43 3 10 := ⟨RX3, TX3, 12, rfl, by decide, Or.inl (mk_w1 (i := 142) rfl rfl)⟩
theorem ft_3_10 : mk_FT 3 10 true (.array (.int)) := ⟨RX3, TX3, 12, rfl, rfl, by decide +kernel⟩
theorem fl_RX3_46 : mk_FL RX3 46 3 11 := ⟨RX3, TX3, 12, rfl, by decide, Or.inl (mk_w1 (i := 146) rfl rfl)⟩
theorem ft_3_11 : mk_FT 3 11 true (.array (.int)) := ⟨RX3, TX3, 12, rfl, rfl, by decide +kernel⟩
theorem lo_RX10_3 : mk_LO RX10 3 := ⟨(mk_w1 (i := 186) rfl rfl), (mk_w1 (i := 28) rfl rfl), (mk_w1 (i := 29) rfl rfl)⟩
theorem ln_RX10_9 : mk_LN RX10 9 3 12 := ⟨RX3, TX3, rfl, (mk_w1 (i := 187) rfl rfl), (mk_w1 (i := 98) rfl rfl), (mk_w1 (i := 4) rfl rfl)⟩
theorem lk_RX10_11 : mk_LK RX10 11 M_X3_init := Or.inr ⟨"WhimWind", (mk_n1 (i := 188) rfl rfl)⟩
theorem fl_RX10_12 : mk_FL RX10 12 9 0 := ⟨RX10, TX10, 6, rfl, by decide, Or.inl (mk_w2 (i := 49) rfl rfl)⟩
theorem ft_9_0 : mk_FT 9 0 true (.object "WhimWind$Plateau") := ⟨RX10, TX10, 6, rfl, rfl, by decide +kernel⟩
theorem ln_RX10_18 : mk_LN RX10 18 6 9 := ⟨RX7, TX7, rfl, (mk_w1 (i := 189) rfl rfl), (mk_w1 (i := 190) rfl rfl), (mk_w1 (i := 7) rfl rfl)⟩
theorem lk_RX10_20 : mk_LK RX10 20 M_X7_init := Or.inr ⟨"WhimWind", (mk_n1 (i := 191) rfl rfl)⟩
theorem fl_RX10_21 : mk_FL RX10 21 9 1 := ⟨RX10, TX10, 6, rfl, by decide, Or.inl (mk_w2 (i := 52) rfl rfl)⟩
theorem ft_9_1 : mk_FT 9 1 true (.object "WhimWind$State") := ⟨RX10, TX10, 6, rfl, rfl, by decide +kernel⟩
theorem ln_RX10_25 : mk_LN RX10 25 0 3 := ⟨RX0, TX0, rfl, (mk_w2 (i := 8) rfl rfl), (mk_w2 (i := 9) rfl rfl), (mk_w1 (i := 8) rfl rfl)⟩
theorem lk_RX10_27 : mk_LK RX10 27 M_X0_init := Or.inr ⟨"WhimWind", (mk_n2 (i := 10) rfl rfl)⟩
theorem fl_RX10_28 : mk_FL RX10 28 9 2 := ⟨RX10, TX10, 6, rfl, by decide, Or.inl (mk_w2 (i := 55) rfl rfl)⟩
theorem ft_9_2 : mk_FT 9 2 true (.object "WhimWind$History") := ⟨RX10, TX10, 6, rfl, rfl, by decide +kernel⟩
theorem ln_RX10_32 : mk_LN RX10 32 1 4 := ⟨RX1, TX1, rfl, (mk_w2 (i := 28) rfl rfl), (mk_w2 (i := 29) rfl rfl), (mk_w1 (i := 9) rfl rfl)⟩
theorem lk_RX10_34 : mk_LK RX10 34 M_X1_init := Or.inr ⟨"WhimWind", (mk_n2 (i := 30) rfl rfl)⟩
theorem fl_RX10_35 : mk_FL RX10 35 9 3 := ⟨RX10, TX10, 6, rfl, by decide, Or.inl (mk_w2 (i := 57) rfl rfl)⟩
theorem ft_9_3 : mk_FT 9 3 true (.object "WhimWind$Notes") := ⟨RX10, TX10, 6, rfl, rfl, by decide +kernel⟩
theorem fl_RX10_39 : mk_FL RX10 39 9 4 := ⟨RX10, TX10, 6, rfl, by decide, Or.inl (mk_w2 (i := 60) rfl rfl)⟩
theorem ft_9_4 : mk_FT 9 4 false (.int) := ⟨RX10, TX10, 6, rfl, rfl, by decide +kernel⟩
theorem fl_RX10_43 : mk_FL RX10 43 9 5 := ⟨RX10, TX10, 6, rfl, by decide, Or.inl (mk_w2 (i := 63) rfl rfl)⟩
theorem ft_9_5 : mk_FT 9 5 false (.int) := ⟨RX10, TX10, 6, rfl, rfl, by decide +kernel⟩
theorem lo_RX9_3 : mk_LO RX9 3 := ⟨(mk_w2 (i := 86) rfl rfl), (mk_w1 (i := 28) rfl rfl), (mk_w1 (i := 29) rfl rfl)⟩
theorem fl_RX9_9 : mk_FL RX9 9 8 0 := ⟨RX9, TX9, 1, rfl, by decide, Or.inl (mk_w2 (i := 87) rfl rfl)⟩
theorem ft_8_0 : mk_FT 8 0 true (.array (.long)) := ⟨RX9, TX9, 1, rfl, rfl, by decide +kernel⟩
theorem lo_RX5_3 : mk_LO RX5 3 := ⟨(mk_w2 (i := 100) rfl rfl), (mk_w1 (i := 28) rfl rfl), (mk_w1 (i := 29) rfl rfl)⟩
theorem fl_RX5_9 : mk_FL RX5 9 4 0 := ⟨RX5, TX5, 8, rfl, by decide, Or.inl (mk_w2 (i := 101) rfl rfl)⟩
theorem ft_4_0 : mk_FT 4 0 true (.array (.int)) := ⟨RX5, TX5, 8, rfl, rfl, by decide +kernel⟩
theorem fl_RX5_15 : mk_FL RX5 15 4 1 := ⟨RX5, TX5, 8, rfl, by decide, Or.inl (mk_w2 (i := 102) rfl rfl)⟩
theorem ft_4_1 : mk_FT 4 1 true (.array (.int)) := ⟨RX5, TX5, 8, rfl, rfl, by decide +kernel⟩
theorem fl_RX5_18 : mk_FL RX5 18 4 2 := ⟨RX5, TX5, 8, rfl, by decide, Or.inl (mk_w2 (i := 103) rfl rfl)⟩
theorem ft_4_2 : mk_FT 4 2 false (.int) := ⟨RX5, TX5, 8, rfl, rfl, by decide +kernel⟩
theorem fl_RX5_22 : mk_FL RX5 22 4 3 := ⟨RX5, TX5, 8, rfl, by decide, Or.inl (mk_w2 (i := 105) rfl rfl)⟩
theorem ft_4_3 : mk_FT 4 3 false (.int) := ⟨RX5, TX5, 8, rfl, rfl, by decide +kernel⟩
theorem fl_RX5_25 : mk_FL RX5 25 4 4 := ⟨RX5, TX5, 8, rfl, by decide, Or.inl (mk_w2 (i := 107) rfl rfl)⟩
theorem ft_4_4 : mk_FT 4 4 true (.array (.int)) := ⟨RX5, TX5, 8, rfl, rfl, by decide +kernel⟩
theorem fl_RX5_28 : mk_FL RX5 28 4 5 := ⟨RX5, TX5, 8, rfl, by decide, Or.inl (mk_w2 (i := 108) rfl rfl)⟩
theorem ft_4_5 : mk_FT 4 5 true (.array (.int)) := ⟨RX5, TX5, 8, rfl, rfl, by decide +kernel⟩
theorem fl_RX5_31 : mk_FL RX5 31 4 6 := ⟨RX5, TX5, 8, rfl, by decide, Or.inl (mk_w2 (i := 109) rfl rfl)⟩
theorem ft_4_6 : mk_FT 4 6 true (.array (.int)) := ⟨RX5, TX5, 8, rfl, rfl, by decide +kernel⟩
theorem fl_RX5_34 : mk_FL RX5 34 4 7 := ⟨RX5, TX5, 8, rfl, by decide, Or.inl (mk_w2 (i := 110) rfl rfl)⟩
theorem ft_4_7 : mk_FT 4 7 true (.array (.long)) := ⟨RX5, TX5, 8, rfl, rfl, by decide +kernel⟩
theorem fl_RX2_20 : mk_FL RX2 20 2 1 := ⟨RX2, TX2, 14, rfl, by decide, Or.inl (mk_w2 (i := 130) rfl rfl)⟩
theorem ln_RX2_18 : mk_LN RX2 18 4 8 := ⟨RX5, TX5, rfl, (mk_w2 (i := 79) rfl rfl), (mk_w2 (i := 96) rfl rfl), (mk_w1 (i := 11) rfl rfl)⟩
theorem lk_RX2_72 : mk_LK RX2 72 M_X5_init := Or.inr ⟨"WhimWind", (mk_n2 (i := 97) rfl rfl)⟩
theorem lo_RX2_3 : mk_LO RX2 3 := ⟨(mk_w1 (i := 180) rfl rfl), (mk_w1 (i := 28) rfl rfl), (mk_w1 (i := 29) rfl rfl)⟩
theorem ln_RX2_9 : mk_LN RX2 9 9 6 := ⟨RX10, TX10, rfl, (mk_w1 (i := 181) rfl rfl), (mk_w1 (i := 182) rfl rfl), (mk_w1 (i := 6) rfl rfl)⟩
theorem lk_RX2_11 : mk_LK RX2 11 M_X10_init := Or.inr ⟨"WhimWind", (mk_n1 (i := 183) rfl rfl)⟩
theorem fl_RX2_12 : mk_FL RX2 12 2 0 := ⟨RX2, TX2, 14, rfl, by decide, Or.inl (mk_w2 (i := 128) rfl rfl)⟩
theorem ft_2_0 : mk_FT 2 0 true (.object "WhimWind$World") := ⟨RX2, TX2, 14, rfl, rfl, by decide +kernel⟩
theorem ft_2_1 : mk_FT 2 1 true (.array (.object "WhimWind$Rule")) := ⟨RX2, TX2, 14, rfl, rfl, by decide +kernel⟩
theorem fl_RX2_24 : mk_FL RX2 24 2 2 := ⟨RX2, TX2, 14, rfl, by decide, Or.inl (mk_w2 (i := 132) rfl rfl)⟩
theorem ft_2_2 : mk_FT 2 2 false (.int) := ⟨RX2, TX2, 14, rfl, rfl, by decide +kernel⟩
theorem ln_RX2_28 : mk_LN RX2 28 8 1 := ⟨RX9, TX9, rfl, (mk_w2 (i := 81) rfl rfl), (mk_w2 (i := 82) rfl rfl), (mk_w1 (i := 10) rfl rfl)⟩
theorem lk_RX2_30 : mk_LK RX2 30 M_X9_init := Or.inr ⟨"WhimWind", (mk_n2 (i := 83) rfl rfl)⟩
theorem fl_RX2_31 : mk_FL RX2 31 2 3 := ⟨RX2, TX2, 14, rfl, by decide, Or.inl (mk_w2 (i := 134) rfl rfl)⟩
theorem ft_2_3 : mk_FT 2 3 true (.object "WhimWind$Weather") := ⟨RX2, TX2, 14, rfl, rfl, by decide +kernel⟩
theorem ln_RX2_35 : mk_LN RX2 35 6 9 := ⟨RX7, TX7, rfl, (mk_w2 (i := 92) rfl rfl), (mk_w1 (i := 190) rfl rfl), (mk_w1 (i := 7) rfl rfl)⟩
theorem lk_RX2_37 : mk_LK RX2 37 M_X7_init := Or.inr ⟨"WhimWind", (mk_n2 (i := 93) rfl rfl)⟩
theorem fl_RX2_38 : mk_FL RX2 38 2 4 := ⟨RX2, TX2, 14, rfl, by decide, Or.inl (mk_w2 (i := 136) rfl rfl)⟩
theorem ft_2_4 : mk_FT 2 4 true (.object "WhimWind$State") := ⟨RX2, TX2, 14, rfl, rfl, by decide +kernel⟩
theorem fl_RX2_42 : mk_FL RX2 42 2 5 := ⟨RX2, TX2, 14, rfl, by decide, Or.inl (mk_w2 (i := 137) rfl rfl)⟩
theorem ft_2_5 : mk_FT 2 5 true (.array (.int)) := ⟨RX2, TX2, 14, rfl, rfl, by decide +kernel⟩
theorem fl_RX2_46 : mk_FL RX2 46 2 6 := ⟨RX2, TX2, 14, rfl, by decide, Or.inl (mk_w2 (i := 138) rfl rfl)⟩
theorem ft_2_6 : mk_FT 2 6 true (.array (.int)) := ⟨RX2, TX2, 14, rfl, rfl, by decide +kernel⟩
theorem fl_RX2_49 : mk_FL RX2 49 2 7 := ⟨RX2, TX2, 14, rfl, by decide, Or.inl (mk_w2 (i := 139) rfl rfl)⟩
theorem ft_2_7 : mk_FT 2 7 true (.array (.int)) := ⟨RX2, TX2, 14, rfl, rfl, by decide +kernel⟩
theorem fl_RX2_52 : mk_FL RX2 52 2 8 := ⟨RX2, TX2, 14, rfl, by decide, Or.inl (mk_w2 (i := 140) rfl rfl)⟩
theorem ft_2_8 : mk_FT 2 8 true (.array (.int)) := ⟨RX2, TX2, 14, rfl, rfl, by decide +kernel⟩
theorem fl_RX2_57 : mk_FL RX2 57 2 9 := ⟨RX2, TX2, 14, rfl, by decide, Or.inl (mk_w2 (i := 141) rfl rfl)⟩
theorem ft_2_9 : mk_FT 2 9 true (.array (.array (.int))) := ⟨RX2, TX2, 14, rfl, rfl, by decide +kernel⟩
theorem fl_RX2_60 : mk_FL RX2 60 2 10 := ⟨RX2, TX2, 14, rfl, by decide, Or.inl (mk_w2 (i := 142) rfl rfl)⟩
theorem ft_2_10 : mk_FT 2 10 false (.int) := ⟨RX2, TX2, 14, rfl, rfl, by decide +kernel⟩
theorem fl_RX2_63 : mk_FL RX2 63 2 11 := ⟨RX2, TX2, 14, rfl, by decide, Or.inl (mk_w2 (i := 143) rfl rfl)⟩
theorem ft_2_11 : mk_FT 2 11 false (.int) := ⟨RX2, TX2, 14, rfl, rfl, by decide +kernel⟩
theorem fl_RX2_66 : mk_FL RX2 66 2 12 := ⟨RX2, TX2, 14, rfl, by decide, Or.inl (mk_w2 (i := 144) rfl rfl)⟩
theorem ft_2_12 : mk_FT 2 12 false (.int) := ⟨RX2, TX2, 14, rfl, rfl, by decide +kernel⟩
theorem fl_RX2_69 : mk_FL RX2 69 2 13 := ⟨RX2, TX2, 14, rfl, by decide, Or.inl (mk_w2 (i := 145) rfl rfl)⟩
theorem ft_2_13 : mk_FT 2 13 false (.int) := ⟨RX2, TX2, 14, rfl, rfl, by decide +kernel⟩
theorem fl_RX2_73 : mk_FL RX2 73 9 4 := ⟨RX10, TX10, 6, rfl, by decide, Or.inr ⟨"WhimWind", (mk_n2 (i := 61) rfl rfl)⟩⟩
theorem lk_RX2_76 : mk_LK RX2 76 M_X2_numbered := Or.inl (mk_w4 (i := 66) rfl rfl)
theorem lmin_RX7_56 : mk_LMin RX7 56 := ⟨(mk_w4 (i := 78) rfl rfl), (mk_w4 (i := 60) rfl rfl), (mk_w1 (i := 20) rfl rfl), (mk_w4 (i := 61) rfl rfl)⟩
theorem lk_RX7_62 : mk_LK RX7 62 M_X7_sum := Or.inl (mk_w4 (i := 32) rfl rfl)
theorem fl_RX9_48 : mk_FL RX9 48 6 2 := ⟨RX7, TX7, 9, rfl, by decide, Or.inr ⟨"WhimWind", (mk_n1 (i := 204) rfl rfl)⟩⟩
theorem fl_RX9_52 : mk_FL RX9 52 3 6 := ⟨RX3, TX3, 12, rfl, by decide, Or.inr ⟨"WhimWind", (mk_n1 (i := 128) rfl rfl)⟩⟩
theorem fl_RX9_64 : mk_FL RX9 64 6 1 := ⟨RX7, TX7, 9, rfl, by decide, Or.inr ⟨"WhimWind", (mk_n1 (i := 200) rfl rfl)⟩⟩
theorem fl_RX9_67 : mk_FL RX9 67 6 0 := ⟨RX7, TX7, 9, rfl, by decide, Or.inr ⟨"WhimWind", (mk_n1 (i := 196) rfl rfl)⟩⟩
theorem lk_RX9_70 : mk_LK RX9 70 M_X3_rowOf := Or.inr ⟨"WhimWind", (mk_n4 (i := 87) rfl rfl)⟩
theorem lk_RX9_74 : mk_LK RX9 74 M_X3_columnOf := Or.inr ⟨"WhimWind", (mk_n4 (i := 91) rfl rfl)⟩
theorem lk_RX9_77 : mk_LK RX9 77 M_X7_windAt := Or.inr ⟨"WhimWind", (mk_n4 (i := 95) rfl rfl)⟩
theorem fl_RX9_80 : mk_FL RX9 80 6 3 := ⟨RX7, TX7, 9, rfl, by decide, Or.inr ⟨"WhimWind", (mk_n1 (i := 208) rfl rfl)⟩⟩
theorem fl_RX9_83 : mk_FL RX9 83 6 4 := ⟨RX7, TX7, 9, rfl, by decide, Or.inr ⟨"WhimWind", (mk_n1 (i := 212) rfl rfl)⟩⟩
theorem lk_RX9_86 : mk_LK RX9 86 M_X7_groundInAll := Or.inr ⟨"WhimWind", (mk_n4 (i := 96) rfl rfl)⟩
theorem fl_RX9_90 : mk_FL RX9 90 6 7 := ⟨RX7, TX7, 9, rfl, by decide, Or.inr ⟨"WhimWind", (mk_n1 (i := 222) rfl rfl)⟩⟩
theorem lk_RX9_93 : mk_LK RX9 93 M_J6_bitCount_0f7a4 := Or.inl (mk_w4 (i := 97) rfl rfl)
theorem fl_RX9_45 : mk_FL RX9 45 6 8 := ⟨RX7, TX7, 9, rfl, by decide, Or.inr ⟨"WhimWind", (mk_n1 (i := 226) rfl rfl)⟩⟩
theorem lk_RX5_42 : mk_LK RX5 42 M_X5_isWord := Or.inl (mk_w4 (i := 111) rfl rfl)
theorem lk_RX5_46 : mk_LK RX5 46 M_X5_joined := Or.inl (mk_w4 (i := 112) rfl rfl)
theorem lk_RX5_38 : mk_LK RX5 38 M_X5_worth := Or.inl (mk_w4 (i := 107) rfl rfl)
theorem fl_RX9_15 : mk_FL RX9 15 3 2 := ⟨RX3, TX3, 12, rfl, by decide, Or.inr ⟨"WhimWind", (mk_n1 (i := 112) rfl rfl)⟩⟩
theorem lk_RX9_55 : mk_LK RX9 55 M_X9_tell := Or.inl (mk_w4 (i := 83) rfl rfl)
theorem lk_RX9_58 : mk_LK RX9 58 M_X5_says := Or.inr ⟨"WhimWind", (mk_n4 (i := 103) rfl rfl)⟩
theorem lk_RX9_123 : mk_LK RX9 123 M_X3_has := Or.inr ⟨"WhimWind", (mk_n4 (i := 126) rfl rfl)⟩
theorem fl_RX9_127 : mk_FL RX9 127 3 0 := ⟨RX3, TX3, 12, rfl, by decide, Or.inr ⟨"WhimWind", (mk_n1 (i := 105) rfl rfl)⟩⟩
theorem lmin_RX9_111 : mk_LMin RX9 111 := ⟨(mk_w4 (i := 130) rfl rfl), (mk_w4 (i := 60) rfl rfl), (mk_w1 (i := 20) rfl rfl), (mk_w4 (i := 61) rfl rfl)⟩
theorem fl_RX9_98 : mk_FL RX9 98 6 6 := ⟨RX7, TX7, 9, rfl, by decide, Or.inr ⟨"WhimWind", (mk_n1 (i := 219) rfl rfl)⟩⟩
theorem lk_RX9_107 : mk_LK RX9 107 M_X9_puff := Or.inl (mk_w4 (i := 119) rfl rfl)
theorem lk_RX9_101 : mk_LK RX9 101 M_J7_fill_53178 := Or.inl (mk_w4 (i := 118) rfl rfl)
theorem fl_RX9_130 : mk_FL RX9 130 3 3 := ⟨RX3, TX3, 12, rfl, by decide, Or.inr ⟨"WhimWind", (mk_n1 (i := 118) rfl rfl)⟩⟩
theorem fl_RX9_133 : mk_FL RX9 133 3 9 := ⟨RX3, TX3, 12, rfl, by decide, Or.inr ⟨"WhimWind", (mk_n1 (i := 139) rfl rfl)⟩⟩
theorem fl_RX9_136 : mk_FL RX9 136 3 8 := ⟨RX3, TX3, 12, rfl, by decide, Or.inr ⟨"WhimWind", (mk_n1 (i := 136) rfl rfl)⟩⟩
theorem fl_RX9_139 : mk_FL RX9 139 6 5 := ⟨RX7, TX7, 9, rfl, by decide, Or.inr ⟨"WhimWind", (mk_n1 (i := 216) rfl rfl)⟩⟩
theorem fl_RX9_142 : mk_FL RX9 142 3 4 := ⟨RX3, TX3, 12, rfl, by decide, Or.inr ⟨"WhimWind", (mk_n1 (i := 122) rfl rfl)⟩⟩
theorem fl_RX9_145 : mk_FL RX9 145 3 10 := ⟨RX3, TX3, 12, rfl, by decide, Or.inr ⟨"WhimWind", (mk_n1 (i := 144) rfl rfl)⟩⟩
theorem fl_RX9_148 : mk_FL RX9 148 3 11 := ⟨RX3, TX3, 12, rfl, by decide, Or.inr ⟨"WhimWind", (mk_n1 (i := 147) rfl rfl)⟩⟩
theorem fl_RX9_151 : mk_FL RX9 151 3 1 := ⟨RX3, TX3, 12, rfl, by decide, Or.inr ⟨"WhimWind", (mk_n1 (i := 109) rfl rfl)⟩⟩
theorem lk_RX9_21 : mk_LK RX9 21 M_X7_urgeOn := Or.inr ⟨"WhimWind", (mk_n4 (i := 74) rfl rfl)⟩
theorem lk_RX9_27 : mk_LK RX9 27 M_X9_giversOf := Or.inl (mk_w4 (i := 79) rfl rfl)
theorem lk_RX9_31 : mk_LK RX9 31 M_X9_blow := Or.inl (mk_w4 (i := 115) rfl rfl)
theorem lk_RX9_35 : mk_LK RX9 35 M_X9_grind := Or.inl (mk_w4 (i := 131) rfl rfl)
theorem lk_RX9_39 : mk_LK RX9 39 M_X9_unroof := Or.inl (mk_w4 (i := 134) rfl rfl)
theorem lk_RX9_42 : mk_LK RX9 42 M_X9_spread := Or.inl (mk_w4 (i := 137) rfl rfl)
theorem fl_RX2_84 : mk_FL RX2 84 9 0 := ⟨RX10, TX10, 6, rfl, by decide, Or.inr ⟨"WhimWind", (mk_n2 (i := 50) rfl rfl)⟩⟩
theorem lk_RX2_88 : mk_LK RX2 88 M_X9_pass := Or.inr ⟨"WhimWind", (mk_n4 (i := 184) rfl rfl)⟩
theorem lk_RX2_80 : mk_LK RX2 80 M_X2_inForce := Or.inl (mk_w4 (i := 183) rfl rfl)
theorem fl_RX2_92 : mk_FL RX2 92 9 1 := ⟨RX10, TX10, 6, rfl, by decide, Or.inr ⟨"WhimWind", (mk_n2 (i := 53) rfl rfl)⟩⟩
theorem lk_RX2_95 : mk_LK RX2 95 M_X7_copyFrom := Or.inr ⟨"WhimWind", (mk_n4 (i := 178) rfl rfl)⟩
theorem lk_RX2_99 : mk_LK RX2 99 M_X2_goOn := Or.inl (mk_w4 (i := 179) rfl rfl)
theorem fl_RX2_103 : mk_FL RX2 103 6 2 := ⟨RX7, TX7, 9, rfl, by decide, Or.inr ⟨"WhimWind", (mk_n1 (i := 205) rfl rfl)⟩⟩
theorem fl_RX2_106 : mk_FL RX2 106 6 5 := ⟨RX7, TX7, 9, rfl, by decide, Or.inr ⟨"WhimWind", (mk_n1 (i := 215) rfl rfl)⟩⟩
theorem lk_RX2_109 : mk_LK RX2 109 M_X7_windAt := Or.inr ⟨"WhimWind", (mk_n4 (i := 185) rfl rfl)⟩
theorem fl_RX2_113 : mk_FL RX2 113 6 7 := ⟨RX7, TX7, 9, rfl, by decide, Or.inr ⟨"WhimWind", (mk_n1 (i := 223) rfl rfl)⟩⟩
theorem lk_RX2_116 : mk_LK RX2 116 M_J6_bitCount_0f7a4 := Or.inl (mk_w4 (i := 194) rfl rfl)
theorem fl_RX2_121 : mk_FL RX2 121 6 8 := ⟨RX7, TX7, 9, rfl, by decide, Or.inr ⟨"WhimWind", (mk_n1 (i := 227) rfl rfl)⟩⟩
theorem lk_RX2_124 : mk_LK RX2 124 M_X7_groundInAll := Or.inr ⟨"WhimWind", (mk_n4 (i := 219) rfl rfl)⟩
theorem lk_RX2_131 : mk_LK RX2 131 M_X3_cells := Or.inr ⟨"WhimWind", (mk_n4 (i := 214) rfl rfl)⟩
theorem lk_RX2_143 : mk_LK RX2 143 M_X2_best := Or.inl (mk_w4 (i := 220) rfl rfl)
theorem fl_RX2_136 : mk_FL RX2 136 6 0 := ⟨RX7, TX7, 9, rfl, by decide, Or.inr ⟨"WhimWind", (mk_n1 (i := 198) rfl rfl)⟩⟩
theorem lk_RX2_139 : mk_LK RX2 139 M_X2_offer := Or.inl (mk_w4 (i := 215) rfl rfl)
theorem lk_RX2_128 : mk_LK RX2 128 M_X2_forgetWays := Or.inl (mk_w4 (i := 210) rfl rfl)
theorem fl_RX2_146 : mk_FL RX2 146 6 1 := ⟨RX7, TX7, 9, rfl, by decide, Or.inr ⟨"WhimWind", (mk_n1 (i := 202) rfl rfl)⟩⟩
theorem fl_RX2_149 : mk_FL RX2 149 3 2 := ⟨RX3, TX3, 12, rfl, by decide, Or.inr ⟨"WhimWind", (mk_n1 (i := 115) rfl rfl)⟩⟩
theorem lk_RX2_152 : mk_LK RX2 152 M_X7_urgeOn := Or.inr ⟨"WhimWind", (mk_n5 (i := 0) rfl rfl)⟩
theorem lk_RX2_165 : mk_LK RX2 165 M_X2_sharesOf := Or.inl (mk_w5 (i := 11) rfl rfl)
theorem lk_RX2_155 : mk_LK RX2 155 M_J7_fill_53178 := Or.inl (mk_w5 (i := 9) rfl rfl)
theorem lk_RX2_161 : mk_LK RX2 161 M_X9_puff := Or.inr ⟨"WhimWind", (mk_n5 (i := 10) rfl rfl)⟩
theorem lk_RX2_168 : mk_LK RX2 168 M_X7_windInAll := Or.inr ⟨"WhimWind", (mk_n5 (i := 31) rfl rfl)⟩
theorem fl_RX2_179 : mk_FL RX2 179 6 3 := ⟨RX7, TX7, 9, rfl, by decide, Or.inr ⟨"WhimWind", (mk_n1 (i := 210) rfl rfl)⟩⟩
theorem lk_RX2_175 : mk_LK RX2 175 M_X2_isRest := Or.inl (mk_w5 (i := 52) rfl rfl)
theorem lk_RX2_171 : mk_LK RX2 171 M_X2_playTwo := Or.inl (mk_w5 (i := 48) rfl rfl)
theorem fl_RX7_40 : mk_FL RX7 40 3 5 := ⟨RX3, TX3, 12, rfl, by decide, Or.inr ⟨"WhimWind", (mk_n1 (i := 125) rfl rfl)⟩⟩
theorem fl_RX7_49 : mk_FL RX7 49 3 7 := ⟨RX3, TX3, 12, rfl, by decide, Or.inr ⟨"WhimWind", (mk_n1 (i := 132) rfl rfl)⟩⟩
theorem lk_RX7_50 : mk_LK RX7 50 M_J7_fill_53178 := Or.inl (mk_w3 (i := 141) rfl rfl)
theorem fl_RX2_190 : mk_FL RX2 190 9 3 := ⟨RX10, TX10, 6, rfl, by decide, Or.inr ⟨"WhimWind", (mk_n2 (i := 59) rfl rfl)⟩⟩
theorem lk_RX2_199 : mk_LK RX2 199 M_X1_areSo := Or.inr ⟨"WhimWind", (mk_n5 (i := 93) rfl rfl)⟩
theorem lk_RX2_186 : mk_LK RX2 186 M_X7_begin := Or.inr ⟨"WhimWind", (mk_n5 (i := 85) rfl rfl)⟩
theorem lk_RX2_194 : mk_LK RX2 194 M_X1_lastHour := Or.inr ⟨"WhimWind", (mk_n5 (i := 86) rfl rfl)⟩
theorem lk_RX2_182 : mk_LK RX2 182 M_X2_isFitting := Or.inl (mk_w5 (i := 81) rfl rfl)
theorem fl_RX2_210 : mk_FL RX2 210 6 6 := ⟨RX7, TX7, 9, rfl, by decide, Or.inr ⟨"WhimWind", (mk_n1 (i := 220) rfl rfl)⟩⟩
theorem lcpy_RX2_213 : mk_LCpy RX2 213 := ⟨(mk_w5 (i := 110) rfl rfl), (mk_w3 (i := 135) rfl rfl), (mk_w3 (i := 134) rfl rfl), (mk_w1 (i := 18) rfl rfl)⟩
theorem lmax_RX2_219 : mk_LMax RX2 219 := ⟨(mk_w5 (i := 115) rfl rfl), (mk_w5 (i := 91) rfl rfl), (mk_w1 (i := 20) rfl rfl), (mk_w5 (i := 92) rfl rfl)⟩
theorem lk_RX2_206 : mk_LK RX2 206 M_X2_mostAlike := Or.inl (mk_w5 (i := 111) rfl rfl)
theorem lk_RX2_203 : mk_LK RX2 203 M_X2_fillWinds := Or.inl (mk_w5 (i := 106) rfl rfl)
theorem lk_RX2_230 : mk_LK RX2 230 M_X2_draw := Or.inl (mk_w5 (i := 132) rfl rfl)
theorem lk_RX2_227 : mk_LK RX2 227 M_X2_goThroughNotions := Or.inl (mk_w5 (i := 128) rfl rfl)
theorem fl_RX2_224 : mk_FL RX2 224 9 5 := ⟨RX10, TX10, 6, rfl, by decide, Or.inr ⟨"WhimWind", (mk_n2 (i := 65) rfl rfl)⟩⟩
theorem lcpy_RX3_49 : mk_LCpy RX3 49 := ⟨(mk_w3 (i := 133) rfl rfl), (mk_w3 (i := 135) rfl rfl), (mk_w3 (i := 134) rfl rfl), (mk_w1 (i := 18) rfl rfl)⟩
theorem fl_RX8_19 : mk_FL RX8 19 7 2 := ⟨RX8, TX8, 7, rfl, by decide, Or.inl (mk_w1 (i := 39) rfl rfl)⟩
theorem ft_7_2 : mk_FT 7 2 false (.int) := ⟨RX8, TX8, 7, rfl, rfl, by decide +kernel⟩
theorem fl_RX8_22 : mk_FL RX8 22 7 3 := ⟨RX8, TX8, 7, rfl, by decide, Or.inl (mk_w1 (i := 40) rfl rfl)⟩
theorem ft_7_3 : mk_FT 7 3 false (.int) := ⟨RX8, TX8, 7, rfl, rfl, by decide +kernel⟩
theorem fl_RX8_15 : mk_FL RX8 15 7 1 := ⟨RX8, TX8, 7, rfl, by decide, Or.inl (mk_w1 (i := 37) rfl rfl)⟩
theorem fl_RX8_9 : mk_FL RX8 9 7 0 := ⟨RX8, TX8, 7, rfl, by decide, Or.inl (mk_w1 (i := 36) rfl rfl)⟩
theorem fl_RX8_31 : mk_FL RX8 31 7 6 := ⟨RX8, TX8, 7, rfl, by decide, Or.inl (mk_w1 (i := 47) rfl rfl)⟩
theorem ft_7_6 : mk_FT 7 6 false (.int) := ⟨RX8, TX8, 7, rfl, rfl, by decide +kernel⟩
theorem lk_RX8_34 : mk_LK RX8 34 M_X8_byteAt := Or.inl (mk_w2 (i := 235) rfl rfl)
theorem fl_RX8_28 : mk_FL RX8 28 7 5 := ⟨RX8, TX8, 7, rfl, by decide, Or.inl (mk_w1 (i := 46) rfl rfl)⟩
theorem fl_RX8_25 : mk_FL RX8 25 7 4 := ⟨RX8, TX8, 7, rfl, by decide, Or.inl (mk_w1 (i := 43) rfl rfl)⟩
theorem ft_7_4 : mk_FT 7 4 false (.int) := ⟨RX8, TX8, 7, rfl, rfl, by decide +kernel⟩
theorem lk_RX8_48 : mk_LK RX8 48 M_X8_named := Or.inl (mk_w3 (i := 7) rfl rfl)
theorem lk_RX8_52 : mk_LK RX8 52 M_X8_isHere := Or.inl (mk_w3 (i := 31) rfl rfl)
theorem lk_RX8_44 : mk_LK RX8 44 M_X8_readSign := Or.inl (mk_w3 (i := 83) rfl rfl)
theorem lk_RX8_41 : mk_LK RX8 41 M_X8_readWord := Or.inl (mk_w3 (i := 3) rfl rfl)
theorem ft_7_5 : mk_FT 7 5 false (.int) := ⟨RX8, TX8, 7, rfl, rfl, by decide +kernel⟩
theorem lk_RX8_38 : mk_LK RX8 38 M_X8_readNumber := Or.inl (mk_w2 (i := 239) rfl rfl)
theorem fl_RX4_60 : mk_FL RX4 60 3 2 := ⟨RX3, TX3, 12, rfl, by decide, Or.inr ⟨"WhimWind", (mk_n1 (i := 113) rfl rfl)⟩⟩
theorem fl_RX4_63 : mk_FL RX4 63 3 3 := ⟨RX3, TX3, 12, rfl, by decide, Or.inr ⟨"WhimWind", (mk_n1 (i := 117) rfl rfl)⟩⟩
theorem fl_RX4_66 : mk_FL RX4 66 3 4 := ⟨RX3, TX3, 12, rfl, by decide, Or.inr ⟨"WhimWind", (mk_n1 (i := 121) rfl rfl)⟩⟩
theorem lk_RX4_28 : mk_LK RX4 28 M_X8_isSound := Or.inr ⟨"WhimWind", (mk_n3 (i := 103) rfl rfl)⟩
theorem fl_RX4_105 : mk_FL RX4 105 7 6 := ⟨RX8, TX8, 7, rfl, by decide, Or.inr ⟨"WhimWind", (mk_n1 (i := 49) rfl rfl)⟩⟩
theorem lk_RX4_19 : mk_LK RX4 19 M_X8_advance := Or.inr ⟨"WhimWind", (mk_n2 (i := 231) rfl rfl)⟩
theorem fl_RX4_32 : mk_FL RX4 32 7 4 := ⟨RX8, TX8, 7, rfl, by decide, Or.inr ⟨"WhimWind", (mk_n1 (i := 44) rfl rfl)⟩⟩
theorem lk_RX4_108 : mk_LK RX4 108 M_X11_within := Or.inr ⟨"WhimWind", (mk_n3 (i := 107) rfl rfl)⟩
theorem lk_RX4_36 : mk_LK RX4 36 M_X8_fail := Or.inr ⟨"WhimWind", (mk_n3 (i := 90) rfl rfl)⟩
theorem lk_RX4_69 : mk_LK RX4 69 M_X4_next := Or.inl (mk_w3 (i := 100) rfl rfl)
theorem fl_RX4_73 : mk_FL RX4 73 3 0 := ⟨RX3, TX3, 12, rfl, by decide, Or.inr ⟨"WhimWind", (mk_n1 (i := 104) rfl rfl)⟩⟩
theorem fl_RX4_76 : mk_FL RX4 76 3 1 := ⟨RX3, TX3, 12, rfl, by decide, Or.inr ⟨"WhimWind", (mk_n1 (i := 108) rfl rfl)⟩⟩
theorem fl_RX4_79 : mk_FL RX4 79 3 5 := ⟨RX3, TX3, 12, rfl, by decide, Or.inr ⟨"WhimWind", (mk_n1 (i := 126) rfl rfl)⟩⟩
theorem lk_RX4_83 : mk_LK RX4 83 M_X3_cells := Or.inr ⟨"WhimWind", (mk_n3 (i := 111) rfl rfl)⟩
theorem fl_RX4_87 : mk_FL RX4 87 3 6 := ⟨RX3, TX3, 12, rfl, by decide, Or.inr ⟨"WhimWind", (mk_n1 (i := 129) rfl rfl)⟩⟩
theorem fl_RX4_90 : mk_FL RX4 90 3 7 := ⟨RX3, TX3, 12, rfl, by decide, Or.inr ⟨"WhimWind", (mk_n1 (i := 133) rfl rfl)⟩⟩
theorem fl_RX4_93 : mk_FL RX4 93 3 8 := ⟨RX3, TX3, 12, rfl, by decide, Or.inr ⟨"WhimWind", (mk_n1 (i := 135) rfl rfl)⟩⟩
theorem fl_RX4_96 : mk_FL RX4 96 3 9 := ⟨RX3, TX3, 12, rfl, by decide, Or.inr ⟨"WhimWind", (mk_n1 (i := 140) rfl rfl)⟩⟩
theorem fl_RX4_99 : mk_FL RX4 99 3 10 := ⟨RX3, TX3, 12, rfl, by decide, Or.inr ⟨"WhimWind", (mk_n1 (i := 143) rfl rfl)⟩⟩
theorem fl_RX4_102 : mk_FL RX4 102 3 11 := ⟨RX3, TX3, 12, rfl, by decide, Or.inr ⟨"WhimWind", (mk_n1 (i := 148) rfl rfl)⟩⟩
theorem lk_RX4_43 : mk_LK RX4 43 M_X4_mayStand := Or.inl (mk_w3 (i := 94) rfl rfl)
theorem lk_RX4_47 : mk_LK RX4 47 M_X4_readPlateau := Or.inl (mk_w3 (i := 97) rfl rfl)
theorem lk_RX4_51 : mk_LK RX4 51 M_X4_readPerson := Or.inl (mk_w3 (i := 108) rfl rfl)
theorem lk_RX4_54 : mk_LK RX4 54 M_X4_readMill := Or.inl (mk_w3 (i := 115) rfl rfl)
theorem lk_RX4_57 : mk_LK RX4 57 M_X4_readRoof := Or.inl (mk_w3 (i := 118) rfl rfl)
theorem fl_RX4_40 : mk_FL RX4 40 7 3 := ⟨RX8, TX8, 7, rfl, by decide, Or.inr ⟨"WhimWind", (mk_n1 (i := 42) rfl rfl)⟩⟩
theorem lk_RX4_22 : mk_LK RX4 22 M_X4_readClause := Or.inl (mk_w3 (i := 87) rfl rfl)
theorem lk_RX4_9 : mk_LK RX4 9 M_X8_open := Or.inr ⟨"WhimWind", (mk_n2 (i := 223) rfl rfl)⟩
theorem lk_RX4_14 : mk_LK RX4 14 M_X3_clear := Or.inr ⟨"WhimWind", (mk_n2 (i := 227) rfl rfl)⟩
theorem lo_RX6_3 : mk_LO RX6 3 := ⟨(mk_w1 (i := 71) rfl rfl), (mk_w1 (i := 28) rfl rfl), (mk_w1 (i := 29) rfl rfl)⟩
theorem fl_RX6_9 : mk_FL RX6 9 5 0 := ⟨RX6, TX6, 8, rfl, by decide, Or.inl (mk_w1 (i := 72) rfl rfl)⟩
theorem ft_5_0 : mk_FT 5 0 true (.array (.int)) := ⟨RX6, TX6, 8, rfl, rfl, by decide +kernel⟩
theorem fl_RX6_15 : mk_FL RX6 15 5 1 := ⟨RX6, TX6, 8, rfl, by decide, Or.inl (mk_w1 (i := 73) rfl rfl)⟩
theorem ft_5_1 : mk_FT 5 1 false (.int) := ⟨RX6, TX6, 8, rfl, rfl, by decide +kernel⟩
theorem fl_RX6_19 : mk_FL RX6 19 5 2 := ⟨RX6, TX6, 8, rfl, by decide, Or.inl (mk_w1 (i := 74) rfl rfl)⟩
theorem ft_5_2 : mk_FT 5 2 false (.int) := ⟨RX6, TX6, 8, rfl, rfl, by decide +kernel⟩
theorem fl_RX6_22 : mk_FL RX6 22 5 3 := ⟨RX6, TX6, 8, rfl, by decide, Or.inl (mk_w1 (i := 75) rfl rfl)⟩
theorem ft_5_3 : mk_FT 5 3 false (.int) := ⟨RX6, TX6, 8, rfl, rfl, by decide +kernel⟩
theorem fl_RX6_25 : mk_FL RX6 25 5 4 := ⟨RX6, TX6, 8, rfl, by decide, Or.inl (mk_w1 (i := 76) rfl rfl)⟩
theorem ft_5_4 : mk_FT 5 4 false (.int) := ⟨RX6, TX6, 8, rfl, rfl, by decide +kernel⟩
theorem fl_RX6_28 : mk_FL RX6 28 5 5 := ⟨RX6, TX6, 8, rfl, by decide, Or.inl (mk_w1 (i := 77) rfl rfl)⟩
theorem ft_5_5 : mk_FT 5 5 false (.int) := ⟨RX6, TX6, 8, rfl, rfl, by decide +kernel⟩
theorem fl_RX6_31 : mk_FL RX6 31 5 6 := ⟨RX6, TX6, 8, rfl, by decide, Or.inl (mk_w1 (i := 78) rfl rfl)⟩
theorem ft_5_6 : mk_FT 5 6 false (.int) := ⟨RX6, TX6, 8, rfl, rfl, by decide +kernel⟩
theorem fl_RX6_34 : mk_FL RX6 34 5 7 := ⟨RX6, TX6, 8, rfl, by decide, Or.inl (mk_w1 (i := 79) rfl rfl)⟩
theorem ft_5_7 : mk_FT 5 7 false (.int) := ⟨RX6, TX6, 8, rfl, rfl, by decide +kernel⟩
theorem fl_RX6_83 : mk_FL RX6 83 4 2 := ⟨RX5, TX5, 8, rfl, by decide, Or.inr ⟨"WhimWind", (mk_n2 (i := 104) rfl rfl)⟩⟩
theorem fl_RX6_73 : mk_FL RX6 73 7 4 := ⟨RX8, TX8, 7, rfl, by decide, Or.inr ⟨"WhimWind", (mk_n1 (i := 45) rfl rfl)⟩⟩
theorem fl_RX6_80 : mk_FL RX6 80 4 3 := ⟨RX5, TX5, 8, rfl, by decide, Or.inr ⟨"WhimWind", (mk_n2 (i := 106) rfl rfl)⟩⟩
theorem lk_RX6_76 : mk_LK RX6 76 M_X8_fail := Or.inr ⟨"WhimWind", (mk_n3 (i := 172) rfl rfl)⟩
theorem lk_RX6_93 : mk_LK RX6 93 M_X6_countItem := Or.inl (mk_w3 (i := 180) rfl rfl)
theorem fl_RX6_90 : mk_FL RX6 90 7 6 := ⟨RX8, TX8, 7, rfl, by decide, Or.inr ⟨"WhimWind", (mk_n1 (i := 48) rfl rfl)⟩⟩
theorem lk_RX6_97 : mk_LK RX6 97 M_X5_add := Or.inr ⟨"WhimWind", (mk_n3 (i := 184) rfl rfl)⟩
theorem lk_RX6_86 : mk_LK RX6 86 M_X5_isWord := Or.inr ⟨"WhimWind", (mk_n3 (i := 177) rfl rfl)⟩
theorem lk_RX6_101 : mk_LK RX6 101 M_X6_push := Or.inl (mk_w3 (i := 192) rfl rfl)
theorem lk_RX6_64 : mk_LK RX6 64 M_X6_readValue := Or.inl (mk_w3 (i := 173) rfl rfl)
theorem lk_RX6_104 : mk_LK RX6 104 M_X6_bindingOf := Or.inl (mk_w3 (i := 200) rfl rfl)
theorem lk_RX6_115 : mk_LK RX6 115 M_X6_release := Or.inl (mk_w3 (i := 207) rfl rfl)
theorem lk_RX6_121 : mk_LK RX6 121 M_X5_addClause := Or.inr ⟨"WhimWind", (mk_n3 (i := 219) rfl rfl)⟩
theorem lk_RX6_118 : mk_LK RX6 118 M_X6_closeClause := Or.inl (mk_w3 (i := 215) rfl rfl)
theorem lk_RX6_112 : mk_LK RX6 112 M_X6_closeBracket := Or.inl (mk_w3 (i := 211) rfl rfl)
theorem lk_RX6_108 : mk_LK RX6 108 M_X6_join := Or.inl (mk_w3 (i := 203) rfl rfl)
theorem lk_RX6_61 : mk_LK RX6 61 M_X6_readClause := Or.inl (mk_w3 (i := 168) rfl rfl)
theorem lk_RX6_67 : mk_LK RX6 67 M_X6_readFact := Or.inl (mk_w3 (i := 188) rfl rfl)
theorem lk_RX6_70 : mk_LK RX6 70 M_X6_readBehind := Or.inl (mk_w3 (i := 196) rfl rfl)
theorem fl_RX6_58 : mk_FL RX6 58 7 3 := ⟨RX8, TX8, 7, rfl, by decide, Or.inr ⟨"WhimWind", (mk_n1 (i := 41) rfl rfl)⟩⟩
theorem lk_RX6_47 : mk_LK RX6 47 M_X8_isSound := Or.inr ⟨"WhimWind", (mk_n3 (i := 162) rfl rfl)⟩
theorem lk_RX6_51 : mk_LK RX6 51 M_X8_advance := Or.inr ⟨"WhimWind", (mk_n3 (i := 163) rfl rfl)⟩
theorem lk_RX6_54 : mk_LK RX6 54 M_X6_readOn := Or.inl (mk_w3 (i := 164) rfl rfl)
theorem lk_RX6_37 : mk_LK RX6 37 M_X8_open := Or.inr ⟨"WhimWind", (mk_n3 (i := 157) rfl rfl)⟩
theorem lk_RX6_42 : mk_LK RX6 42 M_X5_clear := Or.inr ⟨"WhimWind", (mk_n3 (i := 158) rfl rfl)⟩
theorem lk_RX7_66 : mk_LK RX7 66 M_X7_actedInAll := Or.inl (mk_w5 (i := 64) rfl rfl)
theorem lo_RX8_3 : mk_LO RX8 3 := ⟨(mk_w1 (i := 35) rfl rfl), (mk_w1 (i := 28) rfl rfl), (mk_w1 (i := 29) rfl rfl)⟩
theorem ft_7_0 : mk_FT 7 0 true (.array (.int)) := ⟨RX8, TX8, 7, rfl, rfl, by decide +kernel⟩
theorem ft_7_1 : mk_FT 7 1 false (.int) := ⟨RX8, TX8, 7, rfl, rfl, by decide +kernel⟩
theorem lk_RX10_46 : mk_LK RX10 46 M_X3_copyFrom := Or.inr ⟨"WhimWind", (mk_n3 (i := 129) rfl rfl)⟩
theorem lk_RX10_50 : mk_LK RX10 50 M_X7_begin := Or.inr ⟨"WhimWind", (mk_n3 (i := 136) rfl rfl)⟩
theorem lk_RX10_53 : mk_LK RX10 53 M_X0_clear := Or.inr ⟨"WhimWind", (mk_n3 (i := 144) rfl rfl)⟩
theorem fl_RX10_56 : mk_FL RX10 56 1 3 := ⟨RX1, TX1, 4, rfl, by decide, Or.inr ⟨"WhimWind", (mk_n2 (i := 38) rfl rfl)⟩⟩
theorem lk_RX10_59 : mk_LK RX10 59 M_X7_copyFrom := Or.inr ⟨"WhimWind", (mk_n5 (i := 148) rfl rfl)⟩
theorem lk_RX10_62 : mk_LK RX10 62 M_X0_copyFrom := Or.inr ⟨"WhimWind", (mk_n5 (i := 149) rfl rfl)⟩
theorem lk_RX10_65 : mk_LK RX10 65 M_X1_copyFrom := Or.inr ⟨"WhimWind", (mk_n5 (i := 153) rfl rfl)⟩
theorem fl_RX11_44 : mk_FL RX11 44 10 5 := ⟨RX11, TX11, 7, rfl, by decide, Or.inl (mk_w2 (i := 183) rfl rfl)⟩
theorem ln_RX11_42 : mk_LN RX11 42 9 6 := ⟨RX10, TX10, rfl, (mk_w2 (i := 175) rfl rfl), (mk_w1 (i := 182) rfl rfl), (mk_w1 (i := 6) rfl rfl)⟩
theorem lk_RX11_52 : mk_LK RX11 52 M_X10_init := Or.inr ⟨"WhimWind", (mk_n2 (i := 177) rfl rfl)⟩
theorem lo_RX11_3 : mk_LO RX11 3 := ⟨(mk_w1 (i := 27) rfl rfl), (mk_w1 (i := 28) rfl rfl), (mk_w1 (i := 29) rfl rfl)⟩
theorem ln_RX11_9 : mk_LN RX11 9 7 7 := ⟨RX8, TX8, rfl, (mk_w1 (i := 30) rfl rfl), (mk_w1 (i := 31) rfl rfl), (mk_w1 (i := 2) rfl rfl)⟩
theorem lk_RX11_11 : mk_LK RX11 11 M_X8_init := Or.inr ⟨"WhimWind", (mk_n1 (i := 32) rfl rfl)⟩
theorem fl_RX11_12 : mk_FL RX11 12 10 0 := ⟨RX11, TX11, 7, rfl, by decide, Or.inl (mk_w2 (i := 178) rfl rfl)⟩
theorem ft_10_0 : mk_FT 10 0 true (.object "WhimWind$Tape") := ⟨RX11, TX11, 7, rfl, rfl, by decide +kernel⟩
theorem ln_RX11_16 : mk_LN RX11 16 5 8 := ⟨RX6, TX6, rfl, (mk_w1 (i := 66) rfl rfl), (mk_w1 (i := 67) rfl rfl), (mk_w1 (i := 3) rfl rfl)⟩
theorem lk_RX11_18 : mk_LK RX11 18 M_X6_init := Or.inr ⟨"WhimWind", (mk_n1 (i := 68) rfl rfl)⟩
theorem fl_RX11_19 : mk_FL RX11 19 10 1 := ⟨RX11, TX11, 7, rfl, by decide, Or.inl (mk_w2 (i := 179) rfl rfl)⟩
theorem ft_10_1 : mk_FT 10 1 true (.object "WhimWind$RuleReader") := ⟨RX11, TX11, 7, rfl, rfl, by decide +kernel⟩
theorem ln_RX11_23 : mk_LN RX11 23 3 12 := ⟨RX3, TX3, rfl, (mk_w1 (i := 97) rfl rfl), (mk_w1 (i := 98) rfl rfl), (mk_w1 (i := 4) rfl rfl)⟩
theorem lk_RX11_25 : mk_LK RX11 25 M_X3_init := Or.inr ⟨"WhimWind", (mk_n1 (i := 99) rfl rfl)⟩
theorem fl_RX11_26 : mk_FL RX11 26 10 2 := ⟨RX11, TX11, 7, rfl, by decide, Or.inl (mk_w2 (i := 180) rfl rfl)⟩
theorem ft_10_2 : mk_FT 10 2 true (.object "WhimWind$Plateau") := ⟨RX11, TX11, 7, rfl, rfl, by decide +kernel⟩
theorem ln_RX11_30 : mk_LN RX11 30 2 14 := ⟨RX2, TX2, rfl, (mk_w1 (i := 175) rfl rfl), (mk_w1 (i := 176) rfl rfl), (mk_w1 (i := 5) rfl rfl)⟩
theorem lk_RX11_32 : mk_LK RX11 32 M_X2_init := Or.inr ⟨"WhimWind", (mk_n1 (i := 177) rfl rfl)⟩
theorem fl_RX11_33 : mk_FL RX11 33 10 3 := ⟨RX11, TX11, 7, rfl, by decide, Or.inl (mk_w2 (i := 181) rfl rfl)⟩
theorem ft_10_3 : mk_FT 10 3 true (.object "WhimWind$Outlook") := ⟨RX11, TX11, 7, rfl, rfl, by decide +kernel⟩
theorem fl_RX11_37 : mk_FL RX11 37 2 0 := ⟨RX2, TX2, 14, rfl, by decide, Or.inr ⟨"WhimWind", (mk_n2 (i := 129) rfl rfl)⟩⟩
theorem fl_RX11_41 : mk_FL RX11 41 10 4 := ⟨RX11, TX11, 7, rfl, by decide, Or.inl (mk_w2 (i := 182) rfl rfl)⟩
theorem ft_10_4 : mk_FT 10 4 true (.object "WhimWind$World") := ⟨RX11, TX11, 7, rfl, rfl, by decide +kernel⟩
theorem ft_10_5 : mk_FT 10 5 true (.array (.object "WhimWind$World")) := ⟨RX11, TX11, 7, rfl, rfl, by decide +kernel⟩
theorem fl_RX11_48 : mk_FL RX11 48 10 6 := ⟨RX11, TX11, 7, rfl, by decide, Or.inl (mk_w2 (i := 184) rfl rfl)⟩
theorem ft_10_6 : mk_FT 10 6 true (.array (.boolean)) := ⟨RX11, TX11, 7, rfl, rfl, by decide +kernel⟩
theorem fl_RX11_53 : mk_FL RX11 53 7 1 := ⟨RX8, TX8, 7, rfl, by decide, Or.inr ⟨"WhimWind", (mk_n1 (i := 38) rfl rfl)⟩⟩
theorem lk_RX11_57 : mk_LK RX11 57 M_X8_add := Or.inr ⟨"WhimWind", (mk_n2 (i := 205) rfl rfl)⟩
theorem lk_RX11_61 : mk_LK RX11 61 M_X11_within := Or.inl (mk_w2 (i := 213) rfl rfl)
theorem lk_RX11_65 : mk_LK RX11 65 M_X4_read := Or.inr ⟨"WhimWind", (mk_n2 (i := 220) rfl rfl)⟩
theorem lk_RX11_71 : mk_LK RX11 71 M_X8_clear := Or.inr ⟨"WhimWind", (mk_n3 (i := 121) rfl rfl)⟩
theorem lk_RX11_74 : mk_LK RX11 74 M_X10_begin := Or.inr ⟨"WhimWind", (mk_n3 (i := 125) rfl rfl)⟩
theorem fl_RX11_78 : mk_FL RX11 78 9 0 := ⟨RX10, TX10, 6, rfl, by decide, Or.inr ⟨"WhimWind", (mk_n2 (i := 51) rfl rfl)⟩⟩
theorem fl_RX11_81 : mk_FL RX11 81 3 2 := ⟨RX3, TX3, 12, rfl, by decide, Or.inr ⟨"WhimWind", (mk_n1 (i := 114) rfl rfl)⟩⟩
theorem fl_RX11_84 : mk_FL RX11 84 2 2 := ⟨RX2, TX2, 14, rfl, by decide, Or.inr ⟨"WhimWind", (mk_n2 (i := 133) rfl rfl)⟩⟩
theorem fl_RX11_87 : mk_FL RX11 87 2 1 := ⟨RX2, TX2, 14, rfl, by decide, Or.inr ⟨"WhimWind", (mk_n2 (i := 131) rfl rfl)⟩⟩
theorem lk_RX11_91 : mk_LK RX11 91 M_X6_read := Or.inr ⟨"WhimWind", (mk_n3 (i := 153) rfl rfl)⟩
theorem fl_RX11_94 : mk_FL RX11 94 9 4 := ⟨RX10, TX10, 6, rfl, by decide, Or.inr ⟨"WhimWind", (mk_n2 (i := 62) rfl rfl)⟩⟩
theorem lk_RX11_97 : mk_LK RX11 97 M_X11_isPerson := Or.inl (mk_w3 (i := 231) rfl rfl)
theorem fl_RX11_101 : mk_FL RX11 101 9 1 := ⟨RX10, TX10, 6, rfl, by decide, Or.inr ⟨"WhimWind", (mk_n2 (i := 54) rfl rfl)⟩⟩
theorem fl_RX11_105 : mk_FL RX11 105 6 0 := ⟨RX7, TX7, 9, rfl, by decide, Or.inr ⟨"WhimWind", (mk_n1 (i := 197) rfl rfl)⟩⟩
theorem fl_RX11_111 : mk_FL RX11 111 3 6 := ⟨RX3, TX3, 12, rfl, by decide, Or.inr ⟨"WhimWind", (mk_n1 (i := 130) rfl rfl)⟩⟩
theorem fl_RX11_114 : mk_FL RX11 114 6 1 := ⟨RX7, TX7, 9, rfl, by decide, Or.inr ⟨"WhimWind", (mk_n1 (i := 201) rfl rfl)⟩⟩
theorem fl_RX11_117 : mk_FL RX11 117 6 2 := ⟨RX7, TX7, 9, rfl, by decide, Or.inr ⟨"WhimWind", (mk_n1 (i := 206) rfl rfl)⟩⟩
theorem fl_RX11_120 : mk_FL RX11 120 6 3 := ⟨RX7, TX7, 9, rfl, by decide, Or.inr ⟨"WhimWind", (mk_n1 (i := 209) rfl rfl)⟩⟩
theorem fl_RX11_123 : mk_FL RX11 123 6 4 := ⟨RX7, TX7, 9, rfl, by decide, Or.inr ⟨"WhimWind", (mk_n1 (i := 213) rfl rfl)⟩⟩
theorem fl_RX11_163 : mk_FL RX11 163 3 3 := ⟨RX3, TX3, 12, rfl, by decide, Or.inr ⟨"WhimWind", (mk_n1 (i := 119) rfl rfl)⟩⟩
theorem lk_RX11_126 : mk_LK RX11 126 M_X11_isMill := Or.inl (mk_w3 (i := 239) rfl rfl)
theorem fl_RX11_129 : mk_FL RX11 129 3 8 := ⟨RX3, TX3, 12, rfl, by decide, Or.inr ⟨"WhimWind", (mk_n1 (i := 137) rfl rfl)⟩⟩
theorem fl_RX11_132 : mk_FL RX11 132 3 9 := ⟨RX3, TX3, 12, rfl, by decide, Or.inr ⟨"WhimWind", (mk_n1 (i := 141) rfl rfl)⟩⟩
theorem fl_RX11_135 : mk_FL RX11 135 6 5 := ⟨RX7, TX7, 9, rfl, by decide, Or.inr ⟨"WhimWind", (mk_n1 (i := 217) rfl rfl)⟩⟩
theorem fl_RX11_166 : mk_FL RX11 166 3 4 := ⟨RX3, TX3, 12, rfl, by decide, Or.inr ⟨"WhimWind", (mk_n1 (i := 123) rfl rfl)⟩⟩
theorem lk_RX11_138 : mk_LK RX11 138 M_X11_isRoof := Or.inl (mk_w4 (i := 7) rfl rfl)
theorem fl_RX11_141 : mk_FL RX11 141 3 10 := ⟨RX3, TX3, 12, rfl, by decide, Or.inr ⟨"WhimWind", (mk_n1 (i := 145) rfl rfl)⟩⟩
theorem fl_RX11_144 : mk_FL RX11 144 3 11 := ⟨RX3, TX3, 12, rfl, by decide, Or.inr ⟨"WhimWind", (mk_n1 (i := 149) rfl rfl)⟩⟩
theorem fl_RX11_147 : mk_FL RX11 147 6 7 := ⟨RX7, TX7, 9, rfl, by decide, Or.inr ⟨"WhimWind", (mk_n1 (i := 224) rfl rfl)⟩⟩
theorem lk_RX11_294 : mk_LK RX11 294 M_X3_cells := Or.inr ⟨"WhimWind", (mk_n4 (i := 19) rfl rfl)⟩
theorem lk_RX11_150 : mk_LK RX11 150 M_X11_isCell := Or.inl (mk_w4 (i := 15) rfl rfl)
theorem lk_RX11_153 : mk_LK RX11 153 M_X7_windAt := Or.inr ⟨"WhimWind", (mk_n4 (i := 20) rfl rfl)⟩
theorem fl_RX11_157 : mk_FL RX11 157 3 0 := ⟨RX3, TX3, 12, rfl, by decide, Or.inr ⟨"WhimWind", (mk_n1 (i := 106) rfl rfl)⟩⟩
theorem fl_RX11_160 : mk_FL RX11 160 3 1 := ⟨RX3, TX3, 12, rfl, by decide, Or.inr ⟨"WhimWind", (mk_n1 (i := 110) rfl rfl)⟩⟩
theorem fl_RX11_169 : mk_FL RX11 169 6 8 := ⟨RX7, TX7, 9, rfl, by decide, Or.inr ⟨"WhimWind", (mk_n1 (i := 228) rfl rfl)⟩⟩
theorem lk_RX11_172 : mk_LK RX11 172 M_X7_groundInAll := Or.inr ⟨"WhimWind", (mk_n4 (i := 28) rfl rfl)⟩
theorem lk_RX11_176 : mk_LK RX11 176 M_X7_windInAll := Or.inr ⟨"WhimWind", (mk_n4 (i := 35) rfl rfl)⟩
theorem lk_RX11_179 : mk_LK RX11 179 M_X7_actedInAll := Or.inr ⟨"WhimWind", (mk_n4 (i := 39) rfl rfl)⟩
theorem fl_RX11_182 : mk_FL RX11 182 9 3 := ⟨RX10, TX10, 6, rfl, by decide, Or.inr ⟨"WhimWind", (mk_n2 (i := 58) rfl rfl)⟩⟩
theorem fl_RX11_186 : mk_FL RX11 186 1 3 := ⟨RX1, TX1, 4, rfl, by decide, Or.inr ⟨"WhimWind", (mk_n2 (i := 39) rfl rfl)⟩⟩
theorem fl_RX11_191 : mk_FL RX11 191 9 2 := ⟨RX10, TX10, 6, rfl, by decide, Or.inr ⟨"WhimWind", (mk_n2 (i := 56) rfl rfl)⟩⟩
theorem fl_RX11_195 : mk_FL RX11 195 0 2 := ⟨RX0, TX0, 3, rfl, by decide, Or.inr ⟨"WhimWind", (mk_n2 (i := 20) rfl rfl)⟩⟩
theorem fl_RX11_198 : mk_FL RX11 198 9 5 := ⟨RX10, TX10, 6, rfl, by decide, Or.inr ⟨"WhimWind", (mk_n2 (i := 64) rfl rfl)⟩⟩
theorem lk_RX11_201 : mk_LK RX11 201 M_X3_isThere := Or.inr ⟨"WhimWind", (mk_n4 (i := 47) rfl rfl)⟩
theorem lk_RX11_205 : mk_LK RX11 205 M_X0_keep := Or.inr ⟨"WhimWind", (mk_n4 (i := 51) rfl rfl)⟩
theorem fl_RX11_209 : mk_FL RX11 209 2 3 := ⟨RX2, TX2, 14, rfl, by decide, Or.inr ⟨"WhimWind", (mk_n2 (i := 135) rfl rfl)⟩⟩
theorem lk_RX11_213 : mk_LK RX11 213 M_X2_inForce := Or.inr ⟨"WhimWind", (mk_n4 (i := 62) rfl rfl)⟩
theorem lk_RX11_217 : mk_LK RX11 217 M_X9_pass := Or.inr ⟨"WhimWind", (mk_n4 (i := 70) rfl rfl)⟩
theorem lk_RX11_223 : mk_LK RX11 223 M_X7_urgeOn := Or.inr ⟨"WhimWind", (mk_n4 (i := 144) rfl rfl)⟩
theorem lk_RX11_227 : mk_LK RX11 227 M_J6_bitCount_0f7a4 := Or.inl (mk_w4 (i := 157) rfl rfl)
theorem lk_RX11_232 : mk_LK RX11 232 M_X0_goBack := Or.inr ⟨"WhimWind", (mk_n4 (i := 162) rfl rfl)⟩
theorem lk_RX11_236 : mk_LK RX11 236 M_X11_isAhead := Or.inl (mk_w4 (i := 170) rfl rfl)
theorem lk_RX11_240 : mk_LK RX11 240 M_X2_aheadBy := Or.inr ⟨"WhimWind", (mk_n4 (i := 174) rfl rfl)⟩
theorem lk_RX11_244 : mk_LK RX11 244 M_X2_firstHour := Or.inr ⟨"WhimWind", (mk_n4 (i := 190) rfl rfl)⟩
theorem lk_RX11_248 : mk_LK RX11 248 M_X11_isWayAsked := Or.inl (mk_w4 (i := 203) rfl rfl)
theorem lk_RX11_251 : mk_LK RX11 251 M_X2_bestCell := Or.inr ⟨"WhimWind", (mk_n4 (i := 206) rfl rfl)⟩
theorem lk_RX11_254 : mk_LK RX11 254 M_X2_bestFace := Or.inr ⟨"WhimWind", (mk_n4 (i := 228) rfl rfl)⟩
theorem lk_RX11_257 : mk_LK RX11 257 M_X2_leastWine := Or.inr ⟨"WhimWind", (mk_n4 (i := 236) rfl rfl)⟩
theorem lk_RX11_261 : mk_LK RX11 261 M_X2_blowers := Or.inr ⟨"WhimWind", (mk_n5 (i := 5) rfl rfl)⟩
theorem lk_RX11_264 : mk_LK RX11 264 M_X2_bestStill := Or.inr ⟨"WhimWind", (mk_n5 (i := 19) rfl rfl)⟩
theorem lk_RX11_267 : mk_LK RX11 267 M_X2_longestLull := Or.inr ⟨"WhimWind", (mk_n5 (i := 27) rfl rfl)⟩
theorem lk_RX11_270 : mk_LK RX11 270 M_X2_windiest := Or.inr ⟨"WhimWind", (mk_n5 (i := 36) rfl rfl)⟩
theorem lk_RX11_273 : mk_LK RX11 273 M_X2_restsOf := Or.inr ⟨"WhimWind", (mk_n5 (i := 44) rfl rfl)⟩
theorem lk_RX11_276 : mk_LK RX11 276 M_X7_share := Or.inr ⟨"WhimWind", (mk_n5 (i := 60) rfl rfl)⟩
theorem lk_RX11_279 : mk_LK RX11 279 M_X1_add := Or.inr ⟨"WhimWind", (mk_n5 (i := 69) rfl rfl)⟩
theorem lk_RX11_281 : mk_LK RX11 281 M_X2_fitting := Or.inr ⟨"WhimWind", (mk_n5 (i := 77) rfl rfl)⟩
theorem lk_RX11_284 : mk_LK RX11 284 M_X2_bestLook := Or.inr ⟨"WhimWind", (mk_n5 (i := 102) rfl rfl)⟩
theorem lk_RX11_287 : mk_LK RX11 287 M_X2_yearsOfNotions := Or.inr ⟨"WhimWind", (mk_n5 (i := 124) rfl rfl)⟩
theorem lk_RX11_290 : mk_LK RX11 290 M_X10_copyFrom := Or.inr ⟨"WhimWind", (mk_n5 (i := 144) rfl rfl)⟩
theorem lo_RX12_3 : mk_LO RX12 3 := ⟨(mk_w5 (i := 167) rfl rfl), (mk_w1 (i := 28) rfl rfl), (mk_w1 (i := 29) rfl rfl)⟩
theorem fl_RX12_9 : mk_FL RX12 9 11 1 := ⟨RX12, TX12, 64, rfl, by decide, Or.inl (mk_w5 (i := 168) rfl rfl)⟩
theorem ft_11_1 : mk_FT 11 1 true (.array (.int)) := ⟨RX12, TX12, 64, rfl, rfl, by decide +kernel⟩
theorem fl_RX12_13 : mk_FL RX12 13 11 2 := ⟨RX12, TX12, 64, rfl, by decide, Or.inl (mk_w5 (i := 169) rfl rfl)⟩
theorem ft_11_2 : mk_FT 11 2 true (.array (.int)) := ⟨RX12, TX12, 64, rfl, rfl, by decide +kernel⟩
theorem fl_RX12_16 : mk_FL RX12 16 11 3 := ⟨RX12, TX12, 64, rfl, by decide, Or.inl (mk_w5 (i := 170) rfl rfl)⟩
theorem ft_11_3 : mk_FT 11 3 true (.array (.int)) := ⟨RX12, TX12, 64, rfl, rfl, by decide +kernel⟩
theorem fl_RX12_19 : mk_FL RX12 19 11 4 := ⟨RX12, TX12, 64, rfl, by decide, Or.inl (mk_w5 (i := 171) rfl rfl)⟩
theorem ft_11_4 : mk_FT 11 4 true (.array (.int)) := ⟨RX12, TX12, 64, rfl, rfl, by decide +kernel⟩
theorem fl_RX12_22 : mk_FL RX12 22 11 5 := ⟨RX12, TX12, 64, rfl, by decide, Or.inl (mk_w5 (i := 172) rfl rfl)⟩
theorem ft_11_5 : mk_FT 11 5 true (.array (.int)) := ⟨RX12, TX12, 64, rfl, rfl, by decide +kernel⟩
theorem fl_RX12_25 : mk_FL RX12 25 11 6 := ⟨RX12, TX12, 64, rfl, by decide, Or.inl (mk_w5 (i := 173) rfl rfl)⟩
theorem ft_11_6 : mk_FT 11 6 true (.array (.int)) := ⟨RX12, TX12, 64, rfl, rfl, by decide +kernel⟩
theorem fl_RX12_28 : mk_FL RX12 28 11 7 := ⟨RX12, TX12, 64, rfl, by decide, Or.inl (mk_w5 (i := 174) rfl rfl)⟩
theorem ft_11_7 : mk_FT 11 7 true (.array (.int)) := ⟨RX12, TX12, 64, rfl, rfl, by decide +kernel⟩
theorem fl_RX12_31 : mk_FL RX12 31 11 8 := ⟨RX12, TX12, 64, rfl, by decide, Or.inl (mk_w5 (i := 175) rfl rfl)⟩
theorem ft_11_8 : mk_FT 11 8 true (.array (.int)) := ⟨RX12, TX12, 64, rfl, rfl, by decide +kernel⟩
theorem fl_RX12_34 : mk_FL RX12 34 11 9 := ⟨RX12, TX12, 64, rfl, by decide, Or.inl (mk_w5 (i := 176) rfl rfl)⟩
theorem ft_11_9 : mk_FT 11 9 true (.array (.int)) := ⟨RX12, TX12, 64, rfl, rfl, by decide +kernel⟩
theorem fl_RX12_37 : mk_FL RX12 37 11 10 := ⟨RX12, TX12, 64, rfl, by decide, Or.inl (mk_w5 (i := 177) rfl rfl)⟩
theorem ft_11_10 : mk_FT 11 10 true (.array (.int)) := ⟨RX12, TX12, 64, rfl, rfl, by decide +kernel⟩
theorem fl_RX12_40 : mk_FL RX12 40 11 11 := ⟨RX12, TX12, 64, rfl, by decide, Or.inl (mk_w5 (i := 178) rfl rfl)⟩
theorem ft_11_11 : mk_FT 11 11 true (.array (.int)) := ⟨RX12, TX12, 64, rfl, rfl, by decide +kernel⟩
theorem fl_RX12_43 : mk_FL RX12 43 11 12 := ⟨RX12, TX12, 64, rfl, by decide, Or.inl (mk_w5 (i := 179) rfl rfl)⟩
theorem ft_11_12 : mk_FT 11 12 true (.array (.int)) := ⟨RX12, TX12, 64, rfl, rfl, by decide +kernel⟩
theorem fl_RX12_46 : mk_FL RX12 46 11 13 := ⟨RX12, TX12, 64, rfl, by decide, Or.inl (mk_w5 (i := 180) rfl rfl)⟩
theorem ft_11_13 : mk_FT 11 13 true (.array (.int)) := ⟨RX12, TX12, 64, rfl, rfl, by decide +kernel⟩
theorem fl_RX12_49 : mk_FL RX12 49 11 14 := ⟨RX12, TX12, 64, rfl, by decide, Or.inl (mk_w5 (i := 181) rfl rfl)⟩
theorem ft_11_14 : mk_FT 11 14 true (.array (.int)) := ⟨RX12, TX12, 64, rfl, rfl, by decide +kernel⟩
theorem fl_RX12_52 : mk_FL RX12 52 11 15 := ⟨RX12, TX12, 64, rfl, by decide, Or.inl (mk_w5 (i := 182) rfl rfl)⟩
theorem ft_11_15 : mk_FT 11 15 true (.array (.int)) := ⟨RX12, TX12, 64, rfl, rfl, by decide +kernel⟩
theorem fl_RX12_55 : mk_FL RX12 55 11 16 := ⟨RX12, TX12, 64, rfl, by decide, Or.inl (mk_w5 (i := 183) rfl rfl)⟩
theorem ft_11_16 : mk_FT 11 16 true (.array (.int)) := ⟨RX12, TX12, 64, rfl, rfl, by decide +kernel⟩
theorem fl_RX12_58 : mk_FL RX12 58 11 17 := ⟨RX12, TX12, 64, rfl, by decide, Or.inl (mk_w5 (i := 184) rfl rfl)⟩
theorem ft_11_17 : mk_FT 11 17 true (.array (.int)) := ⟨RX12, TX12, 64, rfl, rfl, by decide +kernel⟩
theorem fl_RX12_61 : mk_FL RX12 61 11 18 := ⟨RX12, TX12, 64, rfl, by decide, Or.inl (mk_w5 (i := 185) rfl rfl)⟩
theorem ft_11_18 : mk_FT 11 18 true (.array (.int)) := ⟨RX12, TX12, 64, rfl, rfl, by decide +kernel⟩
theorem fl_RX12_64 : mk_FL RX12 64 11 19 := ⟨RX12, TX12, 64, rfl, by decide, Or.inl (mk_w5 (i := 186) rfl rfl)⟩
theorem ft_11_19 : mk_FT 11 19 true (.array (.int)) := ⟨RX12, TX12, 64, rfl, rfl, by decide +kernel⟩
theorem fl_RX12_67 : mk_FL RX12 67 11 20 := ⟨RX12, TX12, 64, rfl, by decide, Or.inl (mk_w5 (i := 187) rfl rfl)⟩
theorem ft_11_20 : mk_FT 11 20 true (.array (.int)) := ⟨RX12, TX12, 64, rfl, rfl, by decide +kernel⟩
theorem fl_RX12_70 : mk_FL RX12 70 11 21 := ⟨RX12, TX12, 64, rfl, by decide, Or.inl (mk_w5 (i := 188) rfl rfl)⟩
theorem ft_11_21 : mk_FT 11 21 true (.array (.int)) := ⟨RX12, TX12, 64, rfl, rfl, by decide +kernel⟩
theorem fl_RX12_73 : mk_FL RX12 73 11 22 := ⟨RX12, TX12, 64, rfl, by decide, Or.inl (mk_w5 (i := 189) rfl rfl)⟩
theorem ft_11_22 : mk_FT 11 22 true (.array (.int)) := ⟨RX12, TX12, 64, rfl, rfl, by decide +kernel⟩
theorem fl_RX12_76 : mk_FL RX12 76 11 23 := ⟨RX12, TX12, 64, rfl, by decide, Or.inl (mk_w5 (i := 190) rfl rfl)⟩
theorem ft_11_23 : mk_FT 11 23 true (.array (.int)) := ⟨RX12, TX12, 64, rfl, rfl, by decide +kernel⟩
theorem fl_RX12_79 : mk_FL RX12 79 11 24 := ⟨RX12, TX12, 64, rfl, by decide, Or.inl (mk_w5 (i := 191) rfl rfl)⟩
theorem ft_11_24 : mk_FT 11 24 true (.array (.int)) := ⟨RX12, TX12, 64, rfl, rfl, by decide +kernel⟩
theorem fl_RX12_82 : mk_FL RX12 82 11 25 := ⟨RX12, TX12, 64, rfl, by decide, Or.inl (mk_w5 (i := 192) rfl rfl)⟩
theorem ft_11_25 : mk_FT 11 25 true (.array (.int)) := ⟨RX12, TX12, 64, rfl, rfl, by decide +kernel⟩
theorem fl_RX12_85 : mk_FL RX12 85 11 26 := ⟨RX12, TX12, 64, rfl, by decide, Or.inl (mk_w5 (i := 193) rfl rfl)⟩
theorem ft_11_26 : mk_FT 11 26 true (.array (.int)) := ⟨RX12, TX12, 64, rfl, rfl, by decide +kernel⟩
theorem fl_RX12_88 : mk_FL RX12 88 11 36 := ⟨RX12, TX12, 64, rfl, by decide, Or.inl (mk_w5 (i := 203) rfl rfl)⟩
theorem ft_11_36 : mk_FT 11 36 false (.int) := ⟨RX12, TX12, 64, rfl, rfl, by decide +kernel⟩
theorem fl_RX12_92 : mk_FL RX12 92 11 37 := ⟨RX12, TX12, 64, rfl, by decide, Or.inl (mk_w5 (i := 204) rfl rfl)⟩
theorem ft_11_37 : mk_FT 11 37 true (.array (.byte)) := ⟨RX12, TX12, 64, rfl, rfl, by decide +kernel⟩
theorem fl_RX12_96 : mk_FL RX12 96 11 38 := ⟨RX12, TX12, 64, rfl, by decide, Or.inl (mk_w5 (i := 205) rfl rfl)⟩
theorem ft_11_38 : mk_FT 11 38 true (.array (.int)) := ⟨RX12, TX12, 64, rfl, rfl, by decide +kernel⟩
theorem fl_RX12_99 : mk_FL RX12 99 11 39 := ⟨RX12, TX12, 64, rfl, by decide, Or.inl (mk_w5 (i := 206) rfl rfl)⟩
theorem ft_11_39 : mk_FT 11 39 true (.array (.int)) := ⟨RX12, TX12, 64, rfl, rfl, by decide +kernel⟩
theorem fl_RX12_102 : mk_FL RX12 102 11 40 := ⟨RX12, TX12, 64, rfl, by decide, Or.inl (mk_w5 (i := 207) rfl rfl)⟩
theorem ft_11_40 : mk_FT 11 40 true (.array (.int)) := ⟨RX12, TX12, 64, rfl, rfl, by decide +kernel⟩
theorem fl_RX12_105 : mk_FL RX12 105 11 41 := ⟨RX12, TX12, 64, rfl, by decide, Or.inl (mk_w5 (i := 208) rfl rfl)⟩
theorem ft_11_41 : mk_FT 11 41 true (.array (.int)) := ⟨RX12, TX12, 64, rfl, rfl, by decide +kernel⟩
theorem fl_RX12_108 : mk_FL RX12 108 11 42 := ⟨RX12, TX12, 64, rfl, by decide, Or.inl (mk_w5 (i := 209) rfl rfl)⟩
theorem ft_11_42 : mk_FT 11 42 true (.array (.int)) := ⟨RX12, TX12, 64, rfl, rfl, by decide +kernel⟩
theorem fl_RX12_111 : mk_FL RX12 111 11 43 := ⟨RX12, TX12, 64, rfl, by decide, Or.inl (mk_w5 (i := 210) rfl rfl)⟩
theorem ft_11_43 : mk_FT 11 43 true (.array (.int)) := ⟨RX12, TX12, 64, rfl, rfl, by decide +kernel⟩
theorem fl_RX12_114 : mk_FL RX12 114 11 44 := ⟨RX12, TX12, 64, rfl, by decide, Or.inl (mk_w5 (i := 211) rfl rfl)⟩
theorem ft_11_44 : mk_FT 11 44 true (.array (.int)) := ⟨RX12, TX12, 64, rfl, rfl, by decide +kernel⟩
theorem fl_RX12_117 : mk_FL RX12 117 11 45 := ⟨RX12, TX12, 64, rfl, by decide, Or.inl (mk_w5 (i := 212) rfl rfl)⟩
theorem ft_11_45 : mk_FT 11 45 true (.array (.long)) := ⟨RX12, TX12, 64, rfl, rfl, by decide +kernel⟩
theorem fl_RX12_121 : mk_FL RX12 121 11 46 := ⟨RX12, TX12, 64, rfl, by decide, Or.inl (mk_w5 (i := 213) rfl rfl)⟩
theorem ft_11_46 : mk_FT 11 46 true (.array (.long)) := ⟨RX12, TX12, 64, rfl, rfl, by decide +kernel⟩
theorem fl_RX12_124 : mk_FL RX12 124 11 47 := ⟨RX12, TX12, 64, rfl, by decide, Or.inl (mk_w5 (i := 214) rfl rfl)⟩
theorem ft_11_47 : mk_FT 11 47 false (.int) := ⟨RX12, TX12, 64, rfl, rfl, by decide +kernel⟩
theorem fl_RX12_127 : mk_FL RX12 127 11 48 := ⟨RX12, TX12, 64, rfl, by decide, Or.inl (mk_w5 (i := 215) rfl rfl)⟩
theorem ft_11_48 : mk_FT 11 48 true (.array (.int)) := ⟨RX12, TX12, 64, rfl, rfl, by decide +kernel⟩
theorem fl_RX12_130 : mk_FL RX12 130 11 49 := ⟨RX12, TX12, 64, rfl, by decide, Or.inl (mk_w5 (i := 216) rfl rfl)⟩
theorem ft_11_49 : mk_FT 11 49 true (.array (.int)) := ⟨RX12, TX12, 64, rfl, rfl, by decide +kernel⟩
theorem fl_RX12_133 : mk_FL RX12 133 11 56 := ⟨RX12, TX12, 64, rfl, by decide, Or.inl (mk_w5 (i := 223) rfl rfl)⟩
theorem ft_11_56 : mk_FT 11 56 true (.array (.int)) := ⟨RX12, TX12, 64, rfl, rfl, by decide +kernel⟩
theorem fl_RX12_136 : mk_FL RX12 136 11 57 := ⟨RX12, TX12, 64, rfl, by decide, Or.inl (mk_w5 (i := 224) rfl rfl)⟩
theorem ft_11_57 : mk_FT 11 57 true (.array (.int)) := ⟨RX12, TX12, 64, rfl, rfl, by decide +kernel⟩
theorem fl_RX12_139 : mk_FL RX12 139 11 58 := ⟨RX12, TX12, 64, rfl, by decide, Or.inl (mk_w5 (i := 225) rfl rfl)⟩
theorem ft_11_58 : mk_FT 11 58 true (.array (.int)) := ⟨RX12, TX12, 64, rfl, rfl, by decide +kernel⟩
theorem fl_RX12_142 : mk_FL RX12 142 11 59 := ⟨RX12, TX12, 64, rfl, by decide, Or.inl (mk_w5 (i := 226) rfl rfl)⟩
theorem ft_11_59 : mk_FT 11 59 true (.array (.int)) := ⟨RX12, TX12, 64, rfl, rfl, by decide +kernel⟩
theorem fl_RX12_145 : mk_FL RX12 145 11 60 := ⟨RX12, TX12, 64, rfl, by decide, Or.inl (mk_w5 (i := 227) rfl rfl)⟩
theorem ft_11_60 : mk_FT 11 60 true (.array (.int)) := ⟨RX12, TX12, 64, rfl, rfl, by decide +kernel⟩
theorem fl_RX12_148 : mk_FL RX12 148 11 61 := ⟨RX12, TX12, 64, rfl, by decide, Or.inl (mk_w5 (i := 228) rfl rfl)⟩
theorem ft_11_61 : mk_FT 11 61 true (.array (.boolean)) := ⟨RX12, TX12, 64, rfl, rfl, by decide +kernel⟩
theorem lk_RX12_155 : mk_LK RX12 155 M_X12_cells := Or.inl (mk_w7 (i := 87) rfl rfl)
theorem lk_RX12_159 : mk_LK RX12 159 M_X12_in := Or.inl (mk_w6 (i := 196) rfl rfl)
theorem fl_RX12_163 : mk_FL RX12 163 11 27 := ⟨RX12, TX12, 64, rfl, by decide, Or.inl (mk_w5 (i := 194) rfl rfl)⟩
theorem ft_11_27 : mk_FT 11 27 false (.int) := ⟨RX12, TX12, 64, rfl, rfl, by decide +kernel⟩
theorem lk_RX12_166 : mk_LK RX12 166 M_X12_put := Or.inl (mk_w6 (i := 124) rfl rfl)
theorem fl_RX12_189 : mk_FL RX12 189 11 29 := ⟨RX12, TX12, 64, rfl, by decide, Or.inl (mk_w5 (i := 196) rfl rfl)⟩
theorem ft_11_29 : mk_FT 11 29 false (.int) := ⟨RX12, TX12, 64, rfl, rfl, by decide +kernel⟩
theorem fl_RX12_192 : mk_FL RX12 192 11 28 := ⟨RX12, TX12, 64, rfl, by decide, Or.inl (mk_w5 (i := 195) rfl rfl)⟩
theorem lk_RX12_195 : mk_LK RX12 195 M_X12_sign := Or.inl (mk_w6 (i := 152) rfl rfl)
theorem ft_11_28 : mk_FT 11 28 false (.int) := ⟨RX12, TX12, 64, rfl, rfl, by decide +kernel⟩
theorem lk_RX12_211 : mk_LK RX12 211 M_X12_blanks := Or.inl (mk_w6 (i := 148) rfl rfl)
theorem lk_RX12_214 : mk_LK RX12 214 M_X12_stood := Or.inl (mk_w6 (i := 163) rfl rfl)
theorem fl_RX12_218 : mk_FL RX12 218 11 30 := ⟨RX12, TX12, 64, rfl, by decide, Or.inl (mk_w5 (i := 197) rfl rfl)⟩
theorem fl_RX12_221 : mk_FL RX12 221 11 32 := ⟨RX12, TX12, 64, rfl, by decide, Or.inl (mk_w5 (i := 199) rfl rfl)⟩
theorem ft_11_32 : mk_FT 11 32 false (.int) := ⟨RX12, TX12, 64, rfl, rfl, by decide +kernel⟩
theorem fl_RX12_224 : mk_FL RX12 224 11 34 := ⟨RX12, TX12, 64, rfl, by decide, Or.inl (mk_w5 (i := 201) rfl rfl)⟩
theorem ft_11_34 : mk_FT 11 34 false (.int) := ⟨RX12, TX12, 64, rfl, rfl, by decide +kernel⟩
theorem lk_RX12_227 : mk_LK RX12 227 M_X12_fails := Or.inl (mk_w6 (i := 169) rfl rfl)
theorem lk_RX12_231 : mk_LK RX12 231 M_X12_isDigit := Or.inl (mk_w6 (i := 190) rfl rfl)
theorem lk_RX12_240 : mk_LK RX12 240 M_X12_isCounted := Or.inl (mk_w6 (i := 231) rfl rfl)
theorem lk_RX12_246 : mk_LK RX12 246 M_X12_wordOf := Or.inl (mk_w6 (i := 239) rfl rfl)
theorem lk_RX12_243 : mk_LK RX12 243 M_X12_entry := Or.inl (mk_w6 (i := 235) rfl rfl)
theorem lk_RX12_236 : mk_LK RX12 236 M_X12_digits := Or.inl (mk_w6 (i := 186) rfl rfl)
theorem lk_RX12_250 : mk_LK RX12 250 M_X12_value := Or.inl (mk_w6 (i := 227) rfl rfl)
theorem lk_RX12_253 : mk_LK RX12 253 M_X12_term := Or.inl (mk_w6 (i := 223) rfl rfl)
theorem lk_RX12_256 : mk_LK RX12 256 M_X12_sum := Or.inl (mk_w6 (i := 219) rfl rfl)
theorem fl_RX12_259 : mk_FL RX12 259 11 35 := ⟨RX12, TX12, 64, rfl, by decide, Or.inl (mk_w5 (i := 202) rfl rfl)⟩
theorem ft_11_35 : mk_FT 11 35 false (.int) := ⟨RX12, TX12, 64, rfl, rfl, by decide +kernel⟩
theorem fl_RX12_262 : mk_FL RX12 262 11 33 := ⟨RX12, TX12, 64, rfl, by decide, Or.inl (mk_w5 (i := 200) rfl rfl)⟩
theorem ft_11_33 : mk_FT 11 33 false (.int) := ⟨RX12, TX12, 64, rfl, rfl, by decide +kernel⟩
theorem lk_RX12_265 : mk_LK RX12 265 M_X12_top := Or.inl (mk_w7 (i := 39) rfl rfl)
theorem lk_RX12_270 : mk_LK RX12 270 M_X12_opens := Or.inl (mk_w7 (i := 27) rfl rfl)
theorem lk_RX12_273 : mk_LK RX12 273 M_X12_compared := Or.inl (mk_w7 (i := 31) rfl rfl)
theorem lk_RX12_279 : mk_LK RX12 279 M_X12_answers := Or.inl (mk_w7 (i := 35) rfl rfl)
theorem lk_RX12_276 : mk_LK RX12 276 M_X12_fact := Or.inl (mk_w7 (i := 22) rfl rfl)
theorem lk_RX12_292 : mk_LK RX12 292 M_X12_amount := Or.inl (mk_w6 (i := 181) rfl rfl)
theorem lk_RX12_299 : mk_LK RX12 299 M_X12_isFull := Or.inl (mk_w6 (i := 173) rfl rfl)
theorem lk_RX12_296 : mk_LK RX12 296 M_X12_plateauWord := Or.inl (mk_w6 (i := 156) rfl rfl)
theorem lk_RX12_303 : mk_LK RX12 303 M_X12_plateauPart := Or.inl (mk_w6 (i := 177) rfl rfl)
theorem lk_RX12_309 : mk_LK RX12 309 M_X12_plateauClause := Or.inl (mk_w6 (i := 144) rfl rfl)
theorem lk_RX12_312 : mk_LK RX12 312 M_X12_goesOn := Or.inl (mk_w6 (i := 199) rfl rfl)
theorem lk_RX12_306 : mk_LK RX12 306 M_X12_starts := Or.inl (mk_w6 (i := 140) rfl rfl)
theorem lk_RX12_315 : mk_LK RX12 315 M_X12_copies := Or.inl (mk_w6 (i := 203) rfl rfl)
theorem lk_RX12_322 : mk_LK RX12 322 M_X12_begins := Or.inl (mk_w6 (i := 206) rfl rfl)
theorem fl_RX12_325 : mk_FL RX12 325 11 50 := ⟨RX12, TX12, 64, rfl, by decide, Or.inl (mk_w5 (i := 217) rfl rfl)⟩
theorem ft_11_50 : mk_FT 11 50 false (.int) := ⟨RX12, TX12, 64, rfl, rfl, by decide +kernel⟩
theorem lk_RX12_319 : mk_LK RX12 319 M_X12_readsAll := Or.inl (mk_w6 (i := 136) rfl rfl)
theorem lk_RX12_332 : mk_LK RX12 332 M_X12_isNext := Or.inl (mk_w7 (i := 14) rfl rfl)
theorem lk_RX12_335 : mk_LK RX12 335 M_X12_test := Or.inl (mk_w7 (i := 18) rfl rfl)
theorem fl_RX12_338 : mk_FL RX12 338 11 31 := ⟨RX12, TX12, 64, rfl, by decide, Or.inl (mk_w5 (i := 198) rfl rfl)⟩
theorem ft_11_31 : mk_FT 11 31 false (.int) := ⟨RX12, TX12, 64, rfl, rfl, by decide +kernel⟩
theorem lk_RX12_341 : mk_LK RX12 341 M_X12_ruleClause := Or.inl (mk_w6 (i := 214) rfl rfl)
theorem ft_11_30 : mk_FT 11 30 false (.int) := ⟨RX12, TX12, 64, rfl, rfl, by decide +kernel⟩
theorem lk_RX12_350 : mk_LK RX12 350 M_X12_truth := Or.inl (mk_w7 (i := 148) rfl rfl)
theorem lk_RX12_354 : mk_LK RX12 354 M_X12_both := Or.inl (mk_w7 (i := 145) rfl rfl)
theorem lk_RX12_346 : mk_LK RX12 346 M_X12_answer := Or.inl (mk_w7 (i := 141) rfl rfl)
theorem lk_RX12_358 : mk_LK RX12 358 M_X12_isPerson := Or.inl (mk_w7 (i := 54) rfl rfl)
theorem lk_RX12_362 : mk_LK RX12 362 M_X12_sinceOf := Or.inl (mk_w7 (i := 58) rfl rfl)
theorem lk_RX12_365 : mk_LK RX12 365 M_X12_isMill := Or.inl (mk_w7 (i := 66) rfl rfl)
theorem lk_RX12_370 : mk_LK RX12 370 M_X12_isRoof := Or.inl (mk_w7 (i := 75) rfl rfl)
theorem lk_RX12_373 : mk_LK RX12 373 M_X12_isCell := Or.inl (mk_w7 (i := 83) rfl rfl)
theorem lk_RX12_376 : mk_LK RX12 376 M_X12_before := Or.inl (mk_w7 (i := 162) rfl rfl)
theorem lk_RX12_379 : mk_LK RX12 379 M_X12_allGround := Or.inl (mk_w7 (i := 130) rfl rfl)
theorem lk_RX12_382 : mk_LK RX12 382 M_X12_bits := Or.inl (mk_w7 (i := 134) rfl rfl)
theorem lk_RX12_385 : mk_LK RX12 385 M_X12_wanted := Or.inl (mk_w7 (i := 137) rfl rfl)
theorem lk_RX12_389 : mk_LK RX12 389 M_X12_has := Or.inl (mk_w7 (i := 155) rfl rfl)
theorem lk_RX12_392 : mk_LK RX12 392 M_X12_puffIn := Or.inl (mk_w7 (i := 158) rfl rfl)
theorem lk_RX12_395 : mk_LK RX12 395 M_X12_upTo := Or.inl (mk_w7 (i := 123) rfl rfl)
theorem lk_RX12_401 : mk_LK RX12 401 M_X12_blows := Or.inl (mk_w7 (i := 151) rfl rfl)
theorem lk_RX12_404 : mk_LK RX12 404 M_X12_works := Or.inl (mk_w7 (i := 166) rfl rfl)
theorem lk_RX12_398 : mk_LK RX12 398 M_X12_givesWay := Or.inl (mk_w7 (i := 126) rfl rfl)
theorem lk_RX12_407 : mk_LK RX12 407 M_X12_goes := Or.inl (mk_w7 (i := 119) rfl rfl)
theorem fl_RX12_414 : mk_FL RX12 414 11 51 := ⟨RX12, TX12, 64, rfl, by decide, Or.inl (mk_w5 (i := 218) rfl rfl)⟩
theorem ft_11_51 : mk_FT 11 51 false (.int) := ⟨RX12, TX12, 64, rfl, rfl, by decide +kernel⟩
theorem fl_RX12_410 : mk_FL RX12 410 11 52 := ⟨RX12, TX12, 64, rfl, by decide, Or.inl (mk_w5 (i := 219) rfl rfl)⟩
theorem lk_RX12_417 : mk_LK RX12 417 M_X12_moves := Or.inl (mk_w7 (i := 99) rfl rfl)
theorem ft_11_52 : mk_FT 11 52 false (.boolean) := ⟨RX12, TX12, 64, rfl, rfl, by decide +kernel⟩
theorem lk_RX12_420 : mk_LK RX12 420 M_X12_movesRow := Or.inl (mk_w7 (i := 103) rfl rfl)
theorem lk_RX12_424 : mk_LK RX12 424 M_X12_movesAll := Or.inl (mk_w7 (i := 95) rfl rfl)
theorem lk_RX12_428 : mk_LK RX12 428 M_X12_isPlateau := Or.inl (mk_w7 (i := 111) rfl rfl)
theorem lk_RX12_431 : mk_LK RX12 431 M_X12_keepsAct := Or.inl (mk_w7 (i := 115) rfl rfl)
theorem fl_RX12_517 : mk_FL RX12 517 11 62 := ⟨RX12, TX12, 64, rfl, by decide, Or.inl (mk_w5 (i := 229) rfl rfl)⟩
theorem ft_11_62 : mk_FT 11 62 false (.int) := ⟨RX12, TX12, 64, rfl, rfl, by decide +kernel⟩
theorem fl_RX12_514 : mk_FL RX12 514 11 63 := ⟨RX12, TX12, 64, rfl, by decide, Or.inl (mk_w5 (i := 230) rfl rfl)⟩
theorem ft_11_63 : mk_FT 11 63 false (.boolean) := ⟨RX12, TX12, 64, rfl, rfl, by decide +kernel⟩
theorem lk_RX12_520 : mk_LK RX12 520 M_X12_carryRow := Or.inl (mk_w7 (i := 201) rfl rfl)
theorem lk_RX12_438 : mk_LK RX12 438 M_X12_carriesAll := Or.inl (mk_w7 (i := 197) rfl rfl)
theorem lk_RX12_449 : mk_LK RX12 449 M_X12_laysBack := Or.inl (mk_w7 (i := 209) rfl rfl)
theorem lk_RX12_443 : mk_LK RX12 443 M_X12_keepsAll := Or.inl (mk_w7 (i := 193) rfl rfl)
theorem lk_RX12_446 : mk_LK RX12 446 M_X12_goFor := Or.inl (mk_w7 (i := 205) rfl rfl)
theorem fl_RX12_454 : mk_FL RX12 454 11 53 := ⟨RX12, TX12, 64, rfl, by decide, Or.inl (mk_w5 (i := 220) rfl rfl)⟩
theorem ft_11_53 : mk_FT 11 53 false (.int) := ⟨RX12, TX12, 64, rfl, rfl, by decide +kernel⟩
theorem fl_RX12_457 : mk_FL RX12 457 11 54 := ⟨RX12, TX12, 64, rfl, by decide, Or.inl (mk_w5 (i := 221) rfl rfl)⟩
theorem ft_11_54 : mk_FT 11 54 false (.int) := ⟨RX12, TX12, 64, rfl, rfl, by decide +kernel⟩
theorem fl_RX12_460 : mk_FL RX12 460 11 55 := ⟨RX12, TX12, 64, rfl, by decide, Or.inl (mk_w5 (i := 222) rfl rfl)⟩
theorem ft_11_55 : mk_FT 11 55 false (.int) := ⟨RX12, TX12, 64, rfl, rfl, by decide +kernel⟩
theorem lk_RX12_471 : mk_LK RX12 471 M_X12_ofWays := Or.inl (mk_w7 (i := 235) rfl rfl)
theorem lk_RX12_468 : mk_LK RX12 468 M_X12_tries := Or.inl (mk_w7 (i := 231) rfl rfl)
theorem lk_RX12_465 : mk_LK RX12 465 M_X12_startsWays := Or.inl (mk_w7 (i := 227) rfl rfl)
theorem lk_RX12_478 : mk_LK RX12 478 M_X12_allWind := Or.inl (mk_w8 (i := 21) rfl rfl)
theorem lk_RX12_487 : mk_LK RX12 487 M_X12_isRest := Or.inl (mk_w8 (i := 38) rfl rfl)
theorem lk_RX12_483 : mk_LK RX12 483 M_X12_laysFaces := Or.inl (mk_w8 (i := 34) rfl rfl)
theorem lk_RX12_490 : mk_LK RX12 490 M_X12_allActed := Or.inl (mk_w8 (i := 46) rfl rfl)
theorem lk_RX12_493 : mk_LK RX12 493 M_X12_couldRule := Or.inl (mk_w8 (i := 58) rfl rfl)
theorem lk_RX12_496 : mk_LK RX12 496 M_X12_mostAlike := Or.inl (mk_w8 (i := 66) rfl rfl)
theorem lk_RX12_506 : mk_LK RX12 506 M_X12_draws := Or.inl (mk_w8 (i := 83) rfl rfl)
theorem lk_RX12_511 : mk_LK RX12 511 M_X12_drawsNotion := Or.inl (mk_w8 (i := 79) rfl rfl)
theorem lk_RL_13 : mk_LK RL 13 M_X11_feed := Or.inl (mk_w2 (i := 201) rfl rfl)
theorem lk_RL_17 : mk_LK RL 17 M_X12_feed := Or.inl (mk_w6 (i := 120) rfl rfl)
theorem lk_RL_18 : mk_LK RL 18 M_X11_end := Or.inl (mk_w2 (i := 209) rfl rfl)
theorem lk_RL_22 : mk_LK RL 22 M_X12_end := Or.inl (mk_w6 (i := 128) rfl rfl)
theorem lk_RL_23 : mk_LK RL 23 M_X11_plateau := Or.inl (mk_w2 (i := 216) rfl rfl)
theorem lk_RL_27 : mk_LK RL 27 M_X12_plateau := Or.inl (mk_w6 (i := 132) rfl rfl)
theorem lk_RL_28 : mk_LK RL 28 M_X11_rule := Or.inl (mk_w3 (i := 149) rfl rfl)
theorem lk_RL_31 : mk_LK RL 31 M_X12_rule := Or.inl (mk_w6 (i := 210) rfl rfl)
theorem lk_RL_32 : mk_LK RL 32 M_X11_force := Or.inl (mk_w3 (i := 223) rfl rfl)
theorem lk_RL_35 : mk_LK RL 35 M_X12_force := Or.inl (mk_w7 (i := 45) rfl rfl)
theorem lk_RL_36 : mk_LK RL 36 M_X11_person := Or.inl (mk_w3 (i := 227) rfl rfl)
theorem lk_RL_40 : mk_LK RL 40 M_X12_person := Or.inl (mk_w7 (i := 50) rfl rfl)
theorem lk_RL_41 : mk_LK RL 41 M_X11_mill := Or.inl (mk_w3 (i := 235) rfl rfl)
theorem lk_RL_44 : mk_LK RL 44 M_X12_mill := Or.inl (mk_w7 (i := 62) rfl rfl)
theorem lk_RL_45 : mk_LK RL 45 M_X11_roof := Or.inl (mk_w4 (i := 3) rfl rfl)
theorem lk_RL_48 : mk_LK RL 48 M_X12_roof := Or.inl (mk_w7 (i := 71) rfl rfl)
theorem lk_RL_49 : mk_LK RL 49 M_X11_wind := Or.inl (mk_w4 (i := 11) rfl rfl)
theorem lk_RL_52 : mk_LK RL 52 M_X12_wind := Or.inl (mk_w7 (i := 79) rfl rfl)
theorem lk_RL_53 : mk_LK RL 53 M_X11_hour := Or.inl (mk_w4 (i := 43) rfl rfl)
theorem lk_RL_56 : mk_LK RL 56 M_X12_hour := Or.inl (mk_w7 (i := 107) rfl rfl)
theorem lk_RL_57 : mk_LK RL 57 M_X11_wine := Or.inl (mk_w4 (i := 140) rfl rfl)
theorem lk_RL_60 : mk_LK RL 60 M_X12_wine := Or.inl (mk_w7 (i := 170) rfl rfl)
theorem lk_RL_61 : mk_LK RL 61 M_X11_place := Or.inl (mk_w4 (i := 145) rfl rfl)
theorem lk_RL_64 : mk_LK RL 64 M_X12_place := Or.inl (mk_w7 (i := 175) rfl rfl)
theorem lk_RL_65 : mk_LK RL 65 M_X11_face := Or.inl (mk_w4 (i := 149) rfl rfl)
theorem lk_RL_68 : mk_LK RL 68 M_X12_face := Or.inl (mk_w7 (i := 179) rfl rfl)
theorem lk_RL_69 : mk_LK RL 69 M_X11_mend := Or.inl (mk_w4 (i := 153) rfl rfl)
theorem lk_RL_72 : mk_LK RL 72 M_X12_mend := Or.inl (mk_w7 (i := 184) rfl rfl)
theorem lk_RL_73 : mk_LK RL 73 M_X11_undo := Or.inl (mk_w4 (i := 158) rfl rfl)
theorem lk_RL_76 : mk_LK RL 76 M_X12_undo := Or.inl (mk_w7 (i := 91) rfl rfl)
theorem lk_RL_77 : mk_LK RL 77 M_X11_ahead := Or.inl (mk_w4 (i := 166) rfl rfl)
theorem lk_RL_81 : mk_LK RL 81 M_X12_ahead := Or.inl (mk_w7 (i := 188) rfl rfl)
theorem lk_RL_82 : mk_LK RL 82 M_X11_whim := Or.inl (mk_w4 (i := 186) rfl rfl)
theorem lk_RL_85 : mk_LK RL 85 M_X12_whim := Or.inl (mk_w7 (i := 213) rfl rfl)
theorem lk_RL_86 : mk_LK RL 86 M_X11_storm := Or.inl (mk_w4 (i := 195) rfl rfl)
theorem lk_RL_89 : mk_LK RL 89 M_X12_storm := Or.inl (mk_w7 (i := 217) rfl rfl)
theorem lk_RL_90 : mk_LK RL 90 M_X11_stand := Or.inl (mk_w4 (i := 199) rfl rfl)
theorem lk_RL_93 : mk_LK RL 93 M_X12_stand := Or.inl (mk_w7 (i := 222) rfl rfl)
theorem lk_RL_94 : mk_LK RL 94 M_X11_turn := Or.inl (mk_w4 (i := 224) rfl rfl)
theorem lk_RL_97 : mk_LK RL 97 M_X12_turn := Or.inl (mk_w7 (i := 239) rfl rfl)
theorem lk_RL_98 : mk_LK RL 98 M_X11_takes := Or.inl (mk_w4 (i := 232) rfl rfl)
theorem lk_RL_102 : mk_LK RL 102 M_X12_takes := Or.inl (mk_w8 (i := 3) rfl rfl)
theorem lk_RL_103 : mk_LK RL 103 M_X11_blown := Or.inl (mk_w5 (i := 1) rfl rfl)
theorem lk_RL_106 : mk_LK RL 106 M_X12_blown := Or.inl (mk_w8 (i := 8) rfl rfl)
theorem lk_RL_107 : mk_LK RL 107 M_X11_still := Or.inl (mk_w5 (i := 15) rfl rfl)
theorem lk_RL_110 : mk_LK RL 110 M_X12_still := Or.inl (mk_w8 (i := 13) rfl rfl)
theorem lk_RL_111 : mk_LK RL 111 M_X11_lull := Or.inl (mk_w5 (i := 23) rfl rfl)
theorem lk_RL_114 : mk_LK RL 114 M_X12_lull := Or.inl (mk_w8 (i := 17) rfl rfl)
theorem lk_RL_115 : mk_LK RL 115 M_X11_harvest := Or.inl (mk_w5 (i := 32) rfl rfl)
theorem lk_RL_118 : mk_LK RL 118 M_X12_harvest := Or.inl (mk_w8 (i := 25) rfl rfl)
theorem lk_RL_119 : mk_LK RL 119 M_X11_rests := Or.inl (mk_w5 (i := 40) rfl rfl)
theorem lk_RL_122 : mk_LK RL 122 M_X12_rests := Or.inl (mk_w8 (i := 29) rfl rfl)
theorem lk_RL_123 : mk_LK RL 123 M_X11_pence := Or.inl (mk_w5 (i := 56) rfl rfl)
theorem lk_RL_126 : mk_LK RL 126 M_X12_pence := Or.inl (mk_w8 (i := 42) rfl rfl)
theorem lk_RL_127 : mk_LK RL 127 M_X11_note := Or.inl (mk_w5 (i := 65) rfl rfl)
theorem lk_RL_130 : mk_LK RL 130 M_X12_note := Or.inl (mk_w8 (i := 50) rfl rfl)
theorem lk_RL_131 : mk_LK RL 131 M_X11_ruled := Or.inl (mk_w5 (i := 73) rfl rfl)
theorem lk_RL_134 : mk_LK RL 134 M_X12_ruled := Or.inl (mk_w8 (i := 54) rfl rfl)
theorem lk_RL_135 : mk_LK RL 135 M_X11_look := Or.inl (mk_w5 (i := 98) rfl rfl)
theorem lk_RL_138 : mk_LK RL 138 M_X12_look := Or.inl (mk_w8 (i := 62) rfl rfl)
theorem lk_RL_139 : mk_LK RL 139 M_X11_seed := Or.inl (mk_w5 (i := 116) rfl rfl)
theorem lk_RL_142 : mk_LK RL 142 M_X12_seed := Or.inl (mk_w8 (i := 70) rfl rfl)
theorem lk_RL_143 : mk_LK RL 143 M_X11_notions := Or.inl (mk_w5 (i := 120) rfl rfl)
theorem lk_RL_146 : mk_LK RL 146 M_X12_notions := Or.inl (mk_w8 (i := 74) rfl rfl)
theorem lk_RL_147 : mk_LK RL 147 M_X11_count := Or.inl (mk_w4 (i := 24) rfl rfl)
theorem lk_RL_150 : mk_LK RL 150 M_X12_count := Or.inl (mk_w8 (i := 91) rfl rfl)
theorem lk_RL_151 : mk_LK RL 151 M_X11_image := Or.inl (mk_w5 (i := 140) rfl rfl)
theorem lk_RL_154 : mk_LK RL 154 M_X12_image := Or.inl (mk_w8 (i := 95) rfl rfl)
theorem lk_RL_155 : mk_LK RL 155 M_X11_back := Or.inl (mk_w5 (i := 158) rfl rfl)
theorem lk_RL_158 : mk_LK RL 158 M_X12_back := Or.inl (mk_w8 (i := 99) rfl rfl)
theorem ln_RL_7 : mk_LN RL 7 10 7 := ⟨RX11, TX11, rfl, (mk_w1 (i := 22) rfl rfl), (mk_w1 (i := 23) rfl rfl), (mk_w1 (i := 1) rfl rfl)⟩
theorem lk_RL_9 : mk_LK RL 9 M_X11_init := Or.inl (mk_w1 (i := 24) rfl rfl)
theorem ln_RL_10 : mk_LN RL 10 11 64 := ⟨RX12, TX12, rfl, (mk_w5 (i := 162) rfl rfl), (mk_w5 (i := 163) rfl rfl), (mk_w1 (i := 12) rfl rfl)⟩
theorem lk_RL_12 : mk_LK RL 12 M_X12_init := Or.inl (mk_w5 (i := 164) rfl rfl)
theorem md_X7_init : mk_MD M_X7_init 0 := ⟨(mk_w1 (i := 193) rfl rfl), (mk_w1 (i := 7) rfl rfl), by decide, by decide, by decide +kernel⟩
theorem mi_X7_init : Cond.instanceMethod M_X7_init.1 ∈ lw_gw := (mk_w1 (i := 192) rfl rfl)
theorem md_X7_copyFrom : mk_MD M_X7_copyFrom 1 := ⟨(mk_w4 (i := 58) rfl rfl), (mk_w1 (i := 7) rfl rfl), by decide, by decide, by decide +kernel⟩
theorem mv_X7_copyFrom : mk_MV M_X7_copyFrom := ⟨(mk_w4 (i := 57) rfl rfl), (mk_wp (i := 42) rfl rfl)⟩
theorem md_X7_windAt : mk_MD M_X7_windAt 1 := ⟨(mk_w4 (i := 23) rfl rfl), (mk_w1 (i := 7) rfl rfl), by decide, by decide, by decide +kernel⟩
theorem mv_X7_windAt : mk_MV M_X7_windAt := ⟨(mk_w4 (i := 22) rfl rfl), (mk_wp (i := 36) rfl rfl)⟩
theorem md_X3_init : mk_MD M_X3_init 0 := ⟨(mk_w1 (i := 101) rfl rfl), (mk_w1 (i := 4) rfl rfl), by decide, by decide, by decide +kernel⟩
theorem mi_X3_init : Cond.instanceMethod M_X3_init.1 ∈ lw_gw := (mk_w1 (i := 100) rfl rfl)
theorem md_X0_init : mk_MD M_X0_init 0 := ⟨(mk_w2 (i := 12) rfl rfl), (mk_w1 (i := 8) rfl rfl), by decide, by decide, by decide +kernel⟩
theorem mi_X0_init : Cond.instanceMethod M_X0_init.1 ∈ lw_gw := (mk_w2 (i := 11) rfl rfl)
theorem md_X1_init : mk_MD M_X1_init 0 := ⟨(mk_w2 (i := 32) rfl rfl), (mk_w1 (i := 9) rfl rfl), by decide, by decide, by decide +kernel⟩
theorem mi_X1_init : Cond.instanceMethod M_X1_init.1 ∈ lw_gw := (mk_w2 (i := 31) rfl rfl)
theorem md_X5_init : mk_MD M_X5_init 0 := ⟨(mk_w2 (i := 99) rfl rfl), (mk_w1 (i := 11) rfl rfl), by decide, by decide, by decide +kernel⟩
theorem mi_X5_init : Cond.instanceMethod M_X5_init.1 ∈ lw_gw := (mk_w2 (i := 98) rfl rfl)
theorem md_X10_init : mk_MD M_X10_init 0 := ⟨(mk_w1 (i := 185) rfl rfl), (mk_w1 (i := 6) rfl rfl), by decide, by decide, by decide +kernel⟩
theorem mi_X10_init : Cond.instanceMethod M_X10_init.1 ∈ lw_gw := (mk_w1 (i := 184) rfl rfl)
theorem md_X9_init : mk_MD M_X9_init 0 := ⟨(mk_w2 (i := 85) rfl rfl), (mk_w1 (i := 10) rfl rfl), by decide, by decide, by decide +kernel⟩
theorem mi_X9_init : Cond.instanceMethod M_X9_init.1 ∈ lw_gw := (mk_w2 (i := 84) rfl rfl)
theorem md_X2_numbered : mk_MD M_X2_numbered 1 := ⟨(mk_w4 (i := 69) rfl rfl), (mk_w1 (i := 5) rfl rfl), by decide, by decide, by decide +kernel⟩
theorem mv_X2_numbered : mk_MV M_X2_numbered := ⟨(mk_w4 (i := 68) rfl rfl), (mk_wp (i := 44) rfl rfl)⟩
theorem md_X7_sum : mk_MD M_X7_sum 1 := ⟨(mk_w4 (i := 34) rfl rfl), (mk_w1 (i := 7) rfl rfl), by decide, by decide, by decide +kernel⟩
theorem ms_X7_sum : Cond.static M_X7_sum.1 ∈ lw_gw := (mk_w4 (i := 33) rfl rfl)
theorem md_X3_rowOf : mk_MD M_X3_rowOf 1 := ⟨(mk_w4 (i := 90) rfl rfl), (mk_w1 (i := 4) rfl rfl), by decide, by decide, by decide +kernel⟩
theorem mv_X3_rowOf : mk_MV M_X3_rowOf := ⟨(mk_w4 (i := 89) rfl rfl), (mk_wp (i := 49) rfl rfl)⟩
theorem md_X3_columnOf : mk_MD M_X3_columnOf 1 := ⟨(mk_w4 (i := 94) rfl rfl), (mk_w1 (i := 4) rfl rfl), by decide, by decide, by decide +kernel⟩
theorem mv_X3_columnOf : mk_MV M_X3_columnOf := ⟨(mk_w4 (i := 93) rfl rfl), (mk_wp (i := 50) rfl rfl)⟩
theorem md_X7_groundInAll : mk_MD M_X7_groundInAll 0 := ⟨(mk_w4 (i := 31) rfl rfl), (mk_w1 (i := 7) rfl rfl), by decide, by decide, by decide +kernel⟩
theorem mv_X7_groundInAll : mk_MV M_X7_groundInAll := ⟨(mk_w4 (i := 30) rfl rfl), (mk_wp (i := 37) rfl rfl)⟩
theorem md_J6_bitCount_0f7a4 : mk_MD M_J6_bitCount_0f7a4 1 := ⟨(mk_w4 (i := 99) rfl rfl), (mk_w1 (i := 21) rfl rfl), by decide, by decide, by decide +kernel⟩
theorem ms_J6_bitCount_0f7a4 : Cond.static M_J6_bitCount_0f7a4.1 ∈ lw_gw := (mk_w4 (i := 98) rfl rfl)
theorem md_X5_isWord : mk_MD M_X5_isWord 1 := ⟨(mk_w3 (i := 179) rfl rfl), (mk_w1 (i := 11) rfl rfl), by decide, by decide, by decide +kernel⟩
theorem ms_X5_isWord : Cond.static M_X5_isWord.1 ∈ lw_gw := (mk_w3 (i := 178) rfl rfl)
theorem md_X5_joined : mk_MD M_X5_joined 3 := ⟨(mk_w4 (i := 114) rfl rfl), (mk_w1 (i := 11) rfl rfl), by decide, by decide, by decide +kernel⟩
theorem ms_X5_joined : Cond.static M_X5_joined.1 ∈ lw_gw := (mk_w4 (i := 113) rfl rfl)
theorem md_X5_worth : mk_MD M_X5_worth 3 := ⟨(mk_w4 (i := 110) rfl rfl), (mk_w1 (i := 11) rfl rfl), by decide, by decide, by decide +kernel⟩
theorem mv_X5_worth : mk_MV M_X5_worth := ⟨(mk_w4 (i := 109) rfl rfl), (mk_wp (i := 52) rfl rfl)⟩
theorem md_X9_tell : mk_MD M_X9_tell 3 := ⟨(mk_w4 (i := 86) rfl rfl), (mk_w1 (i := 10) rfl rfl), by decide, by decide, by decide +kernel⟩
theorem mv_X9_tell : mk_MV M_X9_tell := ⟨(mk_w4 (i := 85) rfl rfl), (mk_wp (i := 48) rfl rfl)⟩
theorem md_X5_says : mk_MD M_X5_says 1 := ⟨(mk_w4 (i := 106) rfl rfl), (mk_w1 (i := 11) rfl rfl), by decide, by decide, by decide +kernel⟩
theorem mv_X5_says : mk_MV M_X5_says := ⟨(mk_w4 (i := 105) rfl rfl), (mk_wp (i := 51) rfl rfl)⟩
theorem md_X3_has : mk_MD M_X3_has 2 := ⟨(mk_w4 (i := 129) rfl rfl), (mk_w1 (i := 4) rfl rfl), by decide, by decide, by decide +kernel⟩
theorem mv_X3_has : mk_MV M_X3_has := ⟨(mk_w4 (i := 128) rfl rfl), (mk_wp (i := 53) rfl rfl)⟩
theorem md_X9_puff : mk_MD M_X9_puff 4 := ⟨(mk_w4 (i := 121) rfl rfl), (mk_w1 (i := 10) rfl rfl), by decide, by decide, by decide +kernel⟩
theorem ms_X9_puff : Cond.static M_X9_puff.1 ∈ lw_gw := (mk_w4 (i := 120) rfl rfl)
theorem md_J7_fill_53178 : mk_MD M_J7_fill_53178 2 := ⟨(mk_w3 (i := 143) rfl rfl), (mk_w1 (i := 19) rfl rfl), by decide, by decide, by decide +kernel⟩
theorem ms_J7_fill_53178 : Cond.static M_J7_fill_53178.1 ∈ lw_gw := (mk_w3 (i := 142) rfl rfl)
theorem md_X7_urgeOn : mk_MD M_X7_urgeOn 2 := ⟨(mk_w4 (i := 77) rfl rfl), (mk_w1 (i := 7) rfl rfl), by decide, by decide, by decide +kernel⟩
theorem mv_X7_urgeOn : mk_MV M_X7_urgeOn := ⟨(mk_w4 (i := 76) rfl rfl), (mk_wp (i := 46) rfl rfl)⟩
theorem md_X9_giversOf : mk_MD M_X9_giversOf 4 := ⟨(mk_w4 (i := 82) rfl rfl), (mk_w1 (i := 10) rfl rfl), by decide, by decide, by decide +kernel⟩
theorem mv_X9_giversOf : mk_MV M_X9_giversOf := ⟨(mk_w4 (i := 81) rfl rfl), (mk_wp (i := 47) rfl rfl)⟩
theorem md_X9_blow : mk_MD M_X9_blow 3 := ⟨(mk_w4 (i := 117) rfl rfl), (mk_w1 (i := 10) rfl rfl), by decide, by decide, by decide +kernel⟩
theorem ms_X9_blow : Cond.static M_X9_blow.1 ∈ lw_gw := (mk_w4 (i := 116) rfl rfl)
theorem md_X9_grind : mk_MD M_X9_grind 2 := ⟨(mk_w4 (i := 133) rfl rfl), (mk_w1 (i := 10) rfl rfl), by decide, by decide, by decide +kernel⟩
theorem ms_X9_grind : Cond.static M_X9_grind.1 ∈ lw_gw := (mk_w4 (i := 132) rfl rfl)
theorem md_X9_unroof : mk_MD M_X9_unroof 2 := ⟨(mk_w4 (i := 136) rfl rfl), (mk_w1 (i := 10) rfl rfl), by decide, by decide, by decide +kernel⟩
theorem ms_X9_unroof : Cond.static M_X9_unroof.1 ∈ lw_gw := (mk_w4 (i := 135) rfl rfl)
theorem md_X9_spread : mk_MD M_X9_spread 2 := ⟨(mk_w4 (i := 139) rfl rfl), (mk_w1 (i := 10) rfl rfl), by decide, by decide, by decide +kernel⟩
theorem ms_X9_spread : Cond.static M_X9_spread.1 ∈ lw_gw := (mk_w4 (i := 138) rfl rfl)
theorem md_X9_pass : mk_MD M_X9_pass 4 := ⟨(mk_w4 (i := 73) rfl rfl), (mk_w1 (i := 10) rfl rfl), by decide, by decide, by decide +kernel⟩
theorem mv_X9_pass : mk_MV M_X9_pass := ⟨(mk_w4 (i := 72) rfl rfl), (mk_wp (i := 45) rfl rfl)⟩
theorem md_X2_inForce : mk_MD M_X2_inForce 0 := ⟨(mk_w4 (i := 65) rfl rfl), (mk_w1 (i := 5) rfl rfl), by decide, by decide, by decide +kernel⟩
theorem mv_X2_inForce : mk_MV M_X2_inForce := ⟨(mk_w4 (i := 64) rfl rfl), (mk_wp (i := 43) rfl rfl)⟩
theorem md_X2_goOn : mk_MD M_X2_goOn 2 := ⟨(mk_w4 (i := 182) rfl rfl), (mk_w1 (i := 5) rfl rfl), by decide, by decide, by decide +kernel⟩
theorem mv_X2_goOn : mk_MV M_X2_goOn := ⟨(mk_w4 (i := 181) rfl rfl), (mk_wp (i := 57) rfl rfl)⟩
theorem md_X3_cells : mk_MD M_X3_cells 0 := ⟨(mk_w3 (i := 114) rfl rfl), (mk_w1 (i := 4) rfl rfl), by decide, by decide, by decide +kernel⟩
theorem mv_X3_cells : mk_MV M_X3_cells := ⟨(mk_w3 (i := 113) rfl rfl), (mk_wp (i := 11) rfl rfl)⟩
theorem md_X2_best : mk_MD M_X2_best 1 := ⟨(mk_w4 (i := 223) rfl rfl), (mk_w1 (i := 5) rfl rfl), by decide, by decide, by decide +kernel⟩
theorem mv_X2_best : mk_MV M_X2_best := ⟨(mk_w4 (i := 222) rfl rfl), (mk_wp (i := 62) rfl rfl)⟩
theorem md_X2_offer : mk_MD M_X2_offer 1 := ⟨(mk_w4 (i := 218) rfl rfl), (mk_w1 (i := 5) rfl rfl), by decide, by decide, by decide +kernel⟩
theorem mv_X2_offer : mk_MV M_X2_offer := ⟨(mk_w4 (i := 217) rfl rfl), (mk_wp (i := 61) rfl rfl)⟩
theorem md_X2_forgetWays : mk_MD M_X2_forgetWays 0 := ⟨(mk_w4 (i := 213) rfl rfl), (mk_w1 (i := 5) rfl rfl), by decide, by decide, by decide +kernel⟩
theorem mv_X2_forgetWays : mk_MV M_X2_forgetWays := ⟨(mk_w4 (i := 212) rfl rfl), (mk_wp (i := 60) rfl rfl)⟩
theorem md_X2_sharesOf : mk_MD M_X2_sharesOf 1 := ⟨(mk_w5 (i := 14) rfl rfl), (mk_w1 (i := 5) rfl rfl), by decide, by decide, by decide +kernel⟩
theorem mv_X2_sharesOf : mk_MV M_X2_sharesOf := ⟨(mk_w5 (i := 13) rfl rfl), (mk_wp (i := 66) rfl rfl)⟩
theorem md_X7_windInAll : mk_MD M_X7_windInAll 0 := ⟨(mk_w4 (i := 38) rfl rfl), (mk_w1 (i := 7) rfl rfl), by decide, by decide, by decide +kernel⟩
theorem mv_X7_windInAll : mk_MV M_X7_windInAll := ⟨(mk_w4 (i := 37) rfl rfl), (mk_wp (i := 38) rfl rfl)⟩
theorem md_X2_isRest : mk_MD M_X2_isRest 1 := ⟨(mk_w5 (i := 55) rfl rfl), (mk_w1 (i := 5) rfl rfl), by decide, by decide, by decide +kernel⟩
theorem mv_X2_isRest : mk_MV M_X2_isRest := ⟨(mk_w5 (i := 54) rfl rfl), (mk_wp (i := 72) rfl rfl)⟩
theorem md_X2_playTwo : mk_MD M_X2_playTwo 4 := ⟨(mk_w5 (i := 51) rfl rfl), (mk_w1 (i := 5) rfl rfl), by decide, by decide, by decide +kernel⟩
theorem mv_X2_playTwo : mk_MV M_X2_playTwo := ⟨(mk_w5 (i := 50) rfl rfl), (mk_wp (i := 71) rfl rfl)⟩
theorem md_X1_areSo : mk_MD M_X1_areSo 2 := ⟨(mk_w5 (i := 96) rfl rfl), (mk_w1 (i := 9) rfl rfl), by decide, by decide, by decide +kernel⟩
theorem mv_X1_areSo : mk_MV M_X1_areSo := ⟨(mk_w5 (i := 95) rfl rfl), (mk_wp (i := 78) rfl rfl)⟩
theorem md_X7_begin : mk_MD M_X7_begin 1 := ⟨(mk_w3 (i := 139) rfl rfl), (mk_w1 (i := 7) rfl rfl), by decide, by decide, by decide +kernel⟩
theorem mv_X7_begin : mk_MV M_X7_begin := ⟨(mk_w3 (i := 138) rfl rfl), (mk_wp (i := 15) rfl rfl)⟩
theorem md_X1_lastHour : mk_MD M_X1_lastHour 0 := ⟨(mk_w5 (i := 89) rfl rfl), (mk_w1 (i := 9) rfl rfl), by decide, by decide, by decide +kernel⟩
theorem mv_X1_lastHour : mk_MV M_X1_lastHour := ⟨(mk_w5 (i := 88) rfl rfl), (mk_wp (i := 77) rfl rfl)⟩
theorem md_X2_isFitting : mk_MD M_X2_isFitting 1 := ⟨(mk_w5 (i := 84) rfl rfl), (mk_w1 (i := 5) rfl rfl), by decide, by decide, by decide +kernel⟩
theorem mv_X2_isFitting : mk_MV M_X2_isFitting := ⟨(mk_w5 (i := 83) rfl rfl), (mk_wp (i := 76) rfl rfl)⟩
theorem md_X2_mostAlike : mk_MD M_X2_mostAlike 2 := ⟨(mk_w5 (i := 114) rfl rfl), (mk_w1 (i := 5) rfl rfl), by decide, by decide, by decide +kernel⟩
theorem mv_X2_mostAlike : mk_MV M_X2_mostAlike := ⟨(mk_w5 (i := 113) rfl rfl), (mk_wp (i := 81) rfl rfl)⟩
theorem md_X2_fillWinds : mk_MD M_X2_fillWinds 2 := ⟨(mk_w5 (i := 109) rfl rfl), (mk_w1 (i := 5) rfl rfl), by decide, by decide, by decide +kernel⟩
theorem mv_X2_fillWinds : mk_MV M_X2_fillWinds := ⟨(mk_w5 (i := 108) rfl rfl), (mk_wp (i := 80) rfl rfl)⟩
theorem md_X2_draw : mk_MD M_X2_draw 0 := ⟨(mk_w5 (i := 135) rfl rfl), (mk_w1 (i := 5) rfl rfl), by decide, by decide, by decide +kernel⟩
theorem mv_X2_draw : mk_MV M_X2_draw := ⟨(mk_w5 (i := 134) rfl rfl), (mk_wp (i := 84) rfl rfl)⟩
theorem md_X2_goThroughNotions : mk_MD M_X2_goThroughNotions 2 := ⟨(mk_w5 (i := 131) rfl rfl), (mk_w1 (i := 5) rfl rfl), by decide, by decide, by decide +kernel⟩
theorem mv_X2_goThroughNotions : mk_MV M_X2_goThroughNotions := ⟨(mk_w5 (i := 130) rfl rfl), (mk_wp (i := 83) rfl rfl)⟩
theorem md_X8_byteAt : mk_MD M_X8_byteAt 1 := ⟨(mk_w2 (i := 238) rfl rfl), (mk_w1 (i := 2) rfl rfl), by decide, by decide, by decide +kernel⟩
theorem mv_X8_byteAt : mk_MV M_X8_byteAt := ⟨(mk_w2 (i := 237) rfl rfl), (mk_wp (i := 4) rfl rfl)⟩
theorem md_X8_named : mk_MD M_X8_named 1 := ⟨(mk_w3 (i := 9) rfl rfl), (mk_w1 (i := 2) rfl rfl), by decide, by decide, by decide +kernel⟩
theorem ms_X8_named : Cond.static M_X8_named.1 ∈ lw_gw := (mk_w3 (i := 8) rfl rfl)
theorem md_X8_isHere : mk_MD M_X8_isHere 1 := ⟨(mk_w3 (i := 34) rfl rfl), (mk_w1 (i := 2) rfl rfl), by decide, by decide, by decide +kernel⟩
theorem mv_X8_isHere : mk_MV M_X8_isHere := ⟨(mk_w3 (i := 33) rfl rfl), (mk_wp (i := 7) rfl rfl)⟩
theorem md_X8_readSign : mk_MD M_X8_readSign 1 := ⟨(mk_w3 (i := 86) rfl rfl), (mk_w1 (i := 2) rfl rfl), by decide, by decide, by decide +kernel⟩
theorem mv_X8_readSign : mk_MV M_X8_readSign := ⟨(mk_w3 (i := 85) rfl rfl), (mk_wp (i := 8) rfl rfl)⟩
theorem md_X8_readWord : mk_MD M_X8_readWord 0 := ⟨(mk_w3 (i := 6) rfl rfl), (mk_w1 (i := 2) rfl rfl), by decide, by decide, by decide +kernel⟩
theorem mv_X8_readWord : mk_MV M_X8_readWord := ⟨(mk_w3 (i := 5) rfl rfl), (mk_wp (i := 6) rfl rfl)⟩
theorem md_X8_readNumber : mk_MD M_X8_readNumber 0 := ⟨(mk_w3 (i := 2) rfl rfl), (mk_w1 (i := 2) rfl rfl), by decide, by decide, by decide +kernel⟩
theorem mv_X8_readNumber : mk_MV M_X8_readNumber := ⟨(mk_w3 (i := 1) rfl rfl), (mk_wp (i := 5) rfl rfl)⟩
theorem md_X8_isSound : mk_MD M_X8_isSound 0 := ⟨(mk_w3 (i := 106) rfl rfl), (mk_w1 (i := 2) rfl rfl), by decide, by decide, by decide +kernel⟩
theorem mv_X8_isSound : mk_MV M_X8_isSound := ⟨(mk_w3 (i := 105) rfl rfl), (mk_wp (i := 10) rfl rfl)⟩
theorem md_X8_advance : mk_MD M_X8_advance 0 := ⟨(mk_w2 (i := 234) rfl rfl), (mk_w1 (i := 2) rfl rfl), by decide, by decide, by decide +kernel⟩
theorem mv_X8_advance : mk_MV M_X8_advance := ⟨(mk_w2 (i := 233) rfl rfl), (mk_wp (i := 3) rfl rfl)⟩
theorem md_X11_within : mk_MD M_X11_within 3 := ⟨(mk_w2 (i := 215) rfl rfl), (mk_w1 (i := 1) rfl rfl), by decide, by decide, by decide +kernel⟩
theorem ms_X11_within : Cond.static M_X11_within.1 ∈ lw_gw := (mk_w2 (i := 214) rfl rfl)
theorem md_X8_fail : mk_MD M_X8_fail 1 := ⟨(mk_w3 (i := 93) rfl rfl), (mk_w1 (i := 2) rfl rfl), by decide, by decide, by decide +kernel⟩
theorem mv_X8_fail : mk_MV M_X8_fail := ⟨(mk_w3 (i := 92) rfl rfl), (mk_wp (i := 9) rfl rfl)⟩
theorem md_X4_next : mk_MD M_X4_next 3 := ⟨(mk_w3 (i := 102) rfl rfl), (mk_w1 (i := 13) rfl rfl), by decide, by decide, by decide +kernel⟩
theorem ms_X4_next : Cond.static M_X4_next.1 ∈ lw_gw := (mk_w3 (i := 101) rfl rfl)
theorem md_X4_mayStand : mk_MD M_X4_mayStand 3 := ⟨(mk_w3 (i := 96) rfl rfl), (mk_w1 (i := 13) rfl rfl), by decide, by decide, by decide +kernel⟩
theorem ms_X4_mayStand : Cond.static M_X4_mayStand.1 ∈ lw_gw := (mk_w3 (i := 95) rfl rfl)
theorem md_X4_readPlateau : mk_MD M_X4_readPlateau 2 := ⟨(mk_w3 (i := 99) rfl rfl), (mk_w1 (i := 13) rfl rfl), by decide, by decide, by decide +kernel⟩
theorem ms_X4_readPlateau : Cond.static M_X4_readPlateau.1 ∈ lw_gw := (mk_w3 (i := 98) rfl rfl)
theorem md_X4_readPerson : mk_MD M_X4_readPerson 2 := ⟨(mk_w3 (i := 110) rfl rfl), (mk_w1 (i := 13) rfl rfl), by decide, by decide, by decide +kernel⟩
theorem ms_X4_readPerson : Cond.static M_X4_readPerson.1 ∈ lw_gw := (mk_w3 (i := 109) rfl rfl)
theorem md_X4_readMill : mk_MD M_X4_readMill 2 := ⟨(mk_w3 (i := 117) rfl rfl), (mk_w1 (i := 13) rfl rfl), by decide, by decide, by decide +kernel⟩
theorem ms_X4_readMill : Cond.static M_X4_readMill.1 ∈ lw_gw := (mk_w3 (i := 116) rfl rfl)
theorem md_X4_readRoof : mk_MD M_X4_readRoof 2 := ⟨(mk_w3 (i := 120) rfl rfl), (mk_w1 (i := 13) rfl rfl), by decide, by decide, by decide +kernel⟩
theorem ms_X4_readRoof : Cond.static M_X4_readRoof.1 ∈ lw_gw := (mk_w3 (i := 119) rfl rfl)
theorem md_X4_readClause : mk_MD M_X4_readClause 3 := ⟨(mk_w3 (i := 89) rfl rfl), (mk_w1 (i := 13) rfl rfl), by decide, by decide, by decide +kernel⟩
theorem ms_X4_readClause : Cond.static M_X4_readClause.1 ∈ lw_gw := (mk_w3 (i := 88) rfl rfl)
theorem md_X8_open : mk_MD M_X8_open 0 := ⟨(mk_w2 (i := 226) rfl rfl), (mk_w1 (i := 2) rfl rfl), by decide, by decide, by decide +kernel⟩
theorem mv_X8_open : mk_MV M_X8_open := ⟨(mk_w2 (i := 225) rfl rfl), (mk_wp (i := 1) rfl rfl)⟩
theorem md_X3_clear : mk_MD M_X3_clear 0 := ⟨(mk_w2 (i := 230) rfl rfl), (mk_w1 (i := 4) rfl rfl), by decide, by decide, by decide +kernel⟩
theorem mv_X3_clear : mk_MV M_X3_clear := ⟨(mk_w2 (i := 229) rfl rfl), (mk_wp (i := 2) rfl rfl)⟩
theorem md_X6_countItem : mk_MD M_X6_countItem 1 := ⟨(mk_w3 (i := 183) rfl rfl), (mk_w1 (i := 3) rfl rfl), by decide, by decide, by decide +kernel⟩
theorem mv_X6_countItem : mk_MV M_X6_countItem := ⟨(mk_w3 (i := 182) rfl rfl), (mk_wp (i := 22) rfl rfl)⟩
theorem md_X5_add : mk_MD M_X5_add 2 := ⟨(mk_w3 (i := 187) rfl rfl), (mk_w1 (i := 11) rfl rfl), by decide, by decide, by decide +kernel⟩
theorem mv_X5_add : mk_MV M_X5_add := ⟨(mk_w3 (i := 186) rfl rfl), (mk_wp (i := 23) rfl rfl)⟩
theorem md_X6_push : mk_MD M_X6_push 1 := ⟨(mk_w3 (i := 195) rfl rfl), (mk_w1 (i := 3) rfl rfl), by decide, by decide, by decide +kernel⟩
theorem mv_X6_push : mk_MV M_X6_push := ⟨(mk_w3 (i := 194) rfl rfl), (mk_wp (i := 25) rfl rfl)⟩
theorem md_X6_readValue : mk_MD M_X6_readValue 2 := ⟨(mk_w3 (i := 176) rfl rfl), (mk_w1 (i := 3) rfl rfl), by decide, by decide, by decide +kernel⟩
theorem mv_X6_readValue : mk_MV M_X6_readValue := ⟨(mk_w3 (i := 175) rfl rfl), (mk_wp (i := 21) rfl rfl)⟩
theorem md_X6_bindingOf : mk_MD M_X6_bindingOf 1 := ⟨(mk_w3 (i := 202) rfl rfl), (mk_w1 (i := 3) rfl rfl), by decide, by decide, by decide +kernel⟩
theorem ms_X6_bindingOf : Cond.static M_X6_bindingOf.1 ∈ lw_gw := (mk_w3 (i := 201) rfl rfl)
theorem md_X6_release : mk_MD M_X6_release 2 := ⟨(mk_w3 (i := 210) rfl rfl), (mk_w1 (i := 3) rfl rfl), by decide, by decide, by decide +kernel⟩
theorem mv_X6_release : mk_MV M_X6_release := ⟨(mk_w3 (i := 209) rfl rfl), (mk_wp (i := 28) rfl rfl)⟩
theorem md_X5_addClause : mk_MD M_X5_addClause 2 := ⟨(mk_w3 (i := 222) rfl rfl), (mk_w1 (i := 11) rfl rfl), by decide, by decide, by decide +kernel⟩
theorem mv_X5_addClause : mk_MV M_X5_addClause := ⟨(mk_w3 (i := 221) rfl rfl), (mk_wp (i := 31) rfl rfl)⟩
theorem md_X6_closeClause : mk_MD M_X6_closeClause 2 := ⟨(mk_w3 (i := 218) rfl rfl), (mk_w1 (i := 3) rfl rfl), by decide, by decide, by decide +kernel⟩
theorem mv_X6_closeClause : mk_MV M_X6_closeClause := ⟨(mk_w3 (i := 217) rfl rfl), (mk_wp (i := 30) rfl rfl)⟩
theorem md_X6_closeBracket : mk_MD M_X6_closeBracket 2 := ⟨(mk_w3 (i := 214) rfl rfl), (mk_w1 (i := 3) rfl rfl), by decide, by decide, by decide +kernel⟩
theorem mv_X6_closeBracket : mk_MV M_X6_closeBracket := ⟨(mk_w3 (i := 213) rfl rfl), (mk_wp (i := 29) rfl rfl)⟩
theorem md_X6_join : mk_MD M_X6_join 2 := ⟨(mk_w3 (i := 206) rfl rfl), (mk_w1 (i := 3) rfl rfl), by decide, by decide, by decide +kernel⟩
theorem mv_X6_join : mk_MV M_X6_join := ⟨(mk_w3 (i := 205) rfl rfl), (mk_wp (i := 27) rfl rfl)⟩
theorem md_X6_readClause : mk_MD M_X6_readClause 2 := ⟨(mk_w3 (i := 171) rfl rfl), (mk_w1 (i := 3) rfl rfl), by decide, by decide, by decide +kernel⟩
theorem mv_X6_readClause : mk_MV M_X6_readClause := ⟨(mk_w3 (i := 170) rfl rfl), (mk_wp (i := 20) rfl rfl)⟩
theorem md_X6_readFact : mk_MD M_X6_readFact 2 := ⟨(mk_w3 (i := 191) rfl rfl), (mk_w1 (i := 3) rfl rfl), by decide, by decide, by decide +kernel⟩
theorem mv_X6_readFact : mk_MV M_X6_readFact := ⟨(mk_w3 (i := 190) rfl rfl), (mk_wp (i := 24) rfl rfl)⟩
theorem md_X6_readBehind : mk_MD M_X6_readBehind 2 := ⟨(mk_w3 (i := 199) rfl rfl), (mk_w1 (i := 3) rfl rfl), by decide, by decide, by decide +kernel⟩
theorem mv_X6_readBehind : mk_MV M_X6_readBehind := ⟨(mk_w3 (i := 198) rfl rfl), (mk_wp (i := 26) rfl rfl)⟩
theorem md_X6_readOn : mk_MD M_X6_readOn 2 := ⟨(mk_w3 (i := 167) rfl rfl), (mk_w1 (i := 3) rfl rfl), by decide, by decide, by decide +kernel⟩
theorem mv_X6_readOn : mk_MV M_X6_readOn := ⟨(mk_w3 (i := 166) rfl rfl), (mk_wp (i := 19) rfl rfl)⟩
theorem md_X5_clear : mk_MD M_X5_clear 0 := ⟨(mk_w3 (i := 161) rfl rfl), (mk_w1 (i := 11) rfl rfl), by decide, by decide, by decide +kernel⟩
theorem mv_X5_clear : mk_MV M_X5_clear := ⟨(mk_w3 (i := 160) rfl rfl), (mk_wp (i := 18) rfl rfl)⟩
theorem md_X7_actedInAll : mk_MD M_X7_actedInAll 0 := ⟨(mk_w4 (i := 42) rfl rfl), (mk_w1 (i := 7) rfl rfl), by decide, by decide, by decide +kernel⟩
theorem mv_X7_actedInAll : mk_MV M_X7_actedInAll := ⟨(mk_w4 (i := 41) rfl rfl), (mk_wp (i := 39) rfl rfl)⟩
theorem md_X3_copyFrom : mk_MD M_X3_copyFrom 1 := ⟨(mk_w3 (i := 132) rfl rfl), (mk_w1 (i := 4) rfl rfl), by decide, by decide, by decide +kernel⟩
theorem mv_X3_copyFrom : mk_MV M_X3_copyFrom := ⟨(mk_w3 (i := 131) rfl rfl), (mk_wp (i := 14) rfl rfl)⟩
theorem md_X0_clear : mk_MD M_X0_clear 0 := ⟨(mk_w3 (i := 147) rfl rfl), (mk_w1 (i := 8) rfl rfl), by decide, by decide, by decide +kernel⟩
theorem mv_X0_clear : mk_MV M_X0_clear := ⟨(mk_w3 (i := 146) rfl rfl), (mk_wp (i := 16) rfl rfl)⟩
theorem md_X0_copyFrom : mk_MD M_X0_copyFrom 1 := ⟨(mk_w5 (i := 152) rfl rfl), (mk_w1 (i := 8) rfl rfl), by decide, by decide, by decide +kernel⟩
theorem mv_X0_copyFrom : mk_MV M_X0_copyFrom := ⟨(mk_w5 (i := 151) rfl rfl), (mk_wp (i := 86) rfl rfl)⟩
theorem md_X1_copyFrom : mk_MD M_X1_copyFrom 1 := ⟨(mk_w5 (i := 156) rfl rfl), (mk_w1 (i := 9) rfl rfl), by decide, by decide, by decide +kernel⟩
theorem mv_X1_copyFrom : mk_MV M_X1_copyFrom := ⟨(mk_w5 (i := 155) rfl rfl), (mk_wp (i := 87) rfl rfl)⟩
theorem md_X8_init : mk_MD M_X8_init 0 := ⟨(mk_w1 (i := 34) rfl rfl), (mk_w1 (i := 2) rfl rfl), by decide, by decide, by decide +kernel⟩
theorem mi_X8_init : Cond.instanceMethod M_X8_init.1 ∈ lw_gw := (mk_w1 (i := 33) rfl rfl)
theorem md_X6_init : mk_MD M_X6_init 0 := ⟨(mk_w1 (i := 70) rfl rfl), (mk_w1 (i := 3) rfl rfl), by decide, by decide, by decide +kernel⟩
theorem mi_X6_init : Cond.instanceMethod M_X6_init.1 ∈ lw_gw := (mk_w1 (i := 69) rfl rfl)
theorem md_X2_init : mk_MD M_X2_init 0 := ⟨(mk_w1 (i := 179) rfl rfl), (mk_w1 (i := 5) rfl rfl), by decide, by decide, by decide +kernel⟩
theorem mi_X2_init : Cond.instanceMethod M_X2_init.1 ∈ lw_gw := (mk_w1 (i := 178) rfl rfl)
theorem md_X8_add : mk_MD M_X8_add 1 := ⟨(mk_w2 (i := 208) rfl rfl), (mk_w1 (i := 2) rfl rfl), by decide, by decide, by decide +kernel⟩
theorem mv_X8_add : mk_MV M_X8_add := ⟨(mk_w2 (i := 207) rfl rfl), (mk_wp (i := 0) rfl rfl)⟩
theorem md_X4_read : mk_MD M_X4_read 2 := ⟨(mk_w2 (i := 222) rfl rfl), (mk_w1 (i := 13) rfl rfl), by decide, by decide, by decide +kernel⟩
theorem ms_X4_read : Cond.static M_X4_read.1 ∈ lw_gw := (mk_w2 (i := 221) rfl rfl)
theorem md_X8_clear : mk_MD M_X8_clear 0 := ⟨(mk_w3 (i := 124) rfl rfl), (mk_w1 (i := 2) rfl rfl), by decide, by decide, by decide +kernel⟩
theorem mv_X8_clear : mk_MV M_X8_clear := ⟨(mk_w3 (i := 123) rfl rfl), (mk_wp (i := 12) rfl rfl)⟩
theorem md_X10_begin : mk_MD M_X10_begin 1 := ⟨(mk_w3 (i := 128) rfl rfl), (mk_w1 (i := 6) rfl rfl), by decide, by decide, by decide +kernel⟩
theorem mv_X10_begin : mk_MV M_X10_begin := ⟨(mk_w3 (i := 127) rfl rfl), (mk_wp (i := 13) rfl rfl)⟩
theorem md_X6_read : mk_MD M_X6_read 2 := ⟨(mk_w3 (i := 156) rfl rfl), (mk_w1 (i := 3) rfl rfl), by decide, by decide, by decide +kernel⟩
theorem mv_X6_read : mk_MV M_X6_read := ⟨(mk_w3 (i := 155) rfl rfl), (mk_wp (i := 17) rfl rfl)⟩
theorem md_X11_isPerson : mk_MD M_X11_isPerson 1 := ⟨(mk_w3 (i := 234) rfl rfl), (mk_w1 (i := 1) rfl rfl), by decide, by decide, by decide +kernel⟩
theorem mv_X11_isPerson : mk_MV M_X11_isPerson := ⟨(mk_w3 (i := 233) rfl rfl), (mk_wp (i := 32) rfl rfl)⟩
theorem md_X11_isMill : mk_MD M_X11_isMill 1 := ⟨(mk_w4 (i := 2) rfl rfl), (mk_w1 (i := 1) rfl rfl), by decide, by decide, by decide +kernel⟩
theorem mv_X11_isMill : mk_MV M_X11_isMill := ⟨(mk_w4 (i := 1) rfl rfl), (mk_wp (i := 33) rfl rfl)⟩
theorem md_X11_isRoof : mk_MD M_X11_isRoof 1 := ⟨(mk_w4 (i := 10) rfl rfl), (mk_w1 (i := 1) rfl rfl), by decide, by decide, by decide +kernel⟩
theorem mv_X11_isRoof : mk_MV M_X11_isRoof := ⟨(mk_w4 (i := 9) rfl rfl), (mk_wp (i := 34) rfl rfl)⟩
theorem md_X11_isCell : mk_MD M_X11_isCell 1 := ⟨(mk_w4 (i := 18) rfl rfl), (mk_w1 (i := 1) rfl rfl), by decide, by decide, by decide +kernel⟩
theorem mv_X11_isCell : mk_MV M_X11_isCell := ⟨(mk_w4 (i := 17) rfl rfl), (mk_wp (i := 35) rfl rfl)⟩
theorem md_X3_isThere : mk_MD M_X3_isThere 0 := ⟨(mk_w4 (i := 50) rfl rfl), (mk_w1 (i := 4) rfl rfl), by decide, by decide, by decide +kernel⟩
theorem mv_X3_isThere : mk_MV M_X3_isThere := ⟨(mk_w4 (i := 49) rfl rfl), (mk_wp (i := 40) rfl rfl)⟩
theorem md_X0_keep : mk_MD M_X0_keep 1 := ⟨(mk_w4 (i := 54) rfl rfl), (mk_w1 (i := 8) rfl rfl), by decide, by decide, by decide +kernel⟩
theorem mv_X0_keep : mk_MV M_X0_keep := ⟨(mk_w4 (i := 53) rfl rfl), (mk_wp (i := 41) rfl rfl)⟩
theorem md_X0_goBack : mk_MD M_X0_goBack 1 := ⟨(mk_w4 (i := 165) rfl rfl), (mk_w1 (i := 8) rfl rfl), by decide, by decide, by decide +kernel⟩
theorem mv_X0_goBack : mk_MV M_X0_goBack := ⟨(mk_w4 (i := 164) rfl rfl), (mk_wp (i := 54) rfl rfl)⟩
theorem md_X11_isAhead : mk_MD M_X11_isAhead 2 := ⟨(mk_w4 (i := 173) rfl rfl), (mk_w1 (i := 1) rfl rfl), by decide, by decide, by decide +kernel⟩
theorem mv_X11_isAhead : mk_MV M_X11_isAhead := ⟨(mk_w4 (i := 172) rfl rfl), (mk_wp (i := 55) rfl rfl)⟩
theorem md_X2_aheadBy : mk_MD M_X2_aheadBy 3 := ⟨(mk_w4 (i := 177) rfl rfl), (mk_w1 (i := 5) rfl rfl), by decide, by decide, by decide +kernel⟩
theorem mv_X2_aheadBy : mk_MV M_X2_aheadBy := ⟨(mk_w4 (i := 176) rfl rfl), (mk_wp (i := 56) rfl rfl)⟩
theorem md_X2_firstHour : mk_MD M_X2_firstHour 2 := ⟨(mk_w4 (i := 193) rfl rfl), (mk_w1 (i := 5) rfl rfl), by decide, by decide, by decide +kernel⟩
theorem mv_X2_firstHour : mk_MV M_X2_firstHour := ⟨(mk_w4 (i := 192) rfl rfl), (mk_wp (i := 58) rfl rfl)⟩
theorem md_X11_isWayAsked : mk_MD M_X11_isWayAsked 2 := ⟨(mk_w4 (i := 205) rfl rfl), (mk_w1 (i := 1) rfl rfl), by decide, by decide, by decide +kernel⟩
theorem ms_X11_isWayAsked : Cond.static M_X11_isWayAsked.1 ∈ lw_gw := (mk_w4 (i := 204) rfl rfl)
theorem md_X2_bestCell : mk_MD M_X2_bestCell 3 := ⟨(mk_w4 (i := 209) rfl rfl), (mk_w1 (i := 5) rfl rfl), by decide, by decide, by decide +kernel⟩
theorem mv_X2_bestCell : mk_MV M_X2_bestCell := ⟨(mk_w4 (i := 208) rfl rfl), (mk_wp (i := 59) rfl rfl)⟩
theorem md_X2_bestFace : mk_MD M_X2_bestFace 3 := ⟨(mk_w4 (i := 231) rfl rfl), (mk_w1 (i := 5) rfl rfl), by decide, by decide, by decide +kernel⟩
theorem mv_X2_bestFace : mk_MV M_X2_bestFace := ⟨(mk_w4 (i := 230) rfl rfl), (mk_wp (i := 63) rfl rfl)⟩
theorem md_X2_leastWine : mk_MD M_X2_leastWine 4 := ⟨(mk_w4 (i := 239) rfl rfl), (mk_w1 (i := 5) rfl rfl), by decide, by decide, by decide +kernel⟩
theorem mv_X2_leastWine : mk_MV M_X2_leastWine := ⟨(mk_w4 (i := 238) rfl rfl), (mk_wp (i := 64) rfl rfl)⟩
theorem md_X2_blowers : mk_MD M_X2_blowers 3 := ⟨(mk_w5 (i := 8) rfl rfl), (mk_w1 (i := 5) rfl rfl), by decide, by decide, by decide +kernel⟩
theorem mv_X2_blowers : mk_MV M_X2_blowers := ⟨(mk_w5 (i := 7) rfl rfl), (mk_wp (i := 65) rfl rfl)⟩
theorem md_X2_bestStill : mk_MD M_X2_bestStill 2 := ⟨(mk_w5 (i := 22) rfl rfl), (mk_w1 (i := 5) rfl rfl), by decide, by decide, by decide +kernel⟩
theorem mv_X2_bestStill : mk_MV M_X2_bestStill := ⟨(mk_w5 (i := 21) rfl rfl), (mk_wp (i := 67) rfl rfl)⟩
theorem md_X2_longestLull : mk_MD M_X2_longestLull 2 := ⟨(mk_w5 (i := 30) rfl rfl), (mk_w1 (i := 5) rfl rfl), by decide, by decide, by decide +kernel⟩
theorem mv_X2_longestLull : mk_MV M_X2_longestLull := ⟨(mk_w5 (i := 29) rfl rfl), (mk_wp (i := 68) rfl rfl)⟩
theorem md_X2_windiest : mk_MD M_X2_windiest 2 := ⟨(mk_w5 (i := 39) rfl rfl), (mk_w1 (i := 5) rfl rfl), by decide, by decide, by decide +kernel⟩
theorem mv_X2_windiest : mk_MV M_X2_windiest := ⟨(mk_w5 (i := 38) rfl rfl), (mk_wp (i := 69) rfl rfl)⟩
theorem md_X2_restsOf : mk_MD M_X2_restsOf 4 := ⟨(mk_w5 (i := 47) rfl rfl), (mk_w1 (i := 5) rfl rfl), by decide, by decide, by decide +kernel⟩
theorem mv_X2_restsOf : mk_MV M_X2_restsOf := ⟨(mk_w5 (i := 46) rfl rfl), (mk_wp (i := 70) rfl rfl)⟩
theorem md_X7_share : mk_MD M_X7_share 2 := ⟨(mk_w5 (i := 63) rfl rfl), (mk_w1 (i := 7) rfl rfl), by decide, by decide, by decide +kernel⟩
theorem mv_X7_share : mk_MV M_X7_share := ⟨(mk_w5 (i := 62) rfl rfl), (mk_wp (i := 73) rfl rfl)⟩
theorem md_X1_add : mk_MD M_X1_add 3 := ⟨(mk_w5 (i := 72) rfl rfl), (mk_w1 (i := 9) rfl rfl), by decide, by decide, by decide +kernel⟩
theorem mv_X1_add : mk_MV M_X1_add := ⟨(mk_w5 (i := 71) rfl rfl), (mk_wp (i := 74) rfl rfl)⟩
theorem md_X2_fitting : mk_MD M_X2_fitting 0 := ⟨(mk_w5 (i := 80) rfl rfl), (mk_w1 (i := 5) rfl rfl), by decide, by decide, by decide +kernel⟩
theorem mv_X2_fitting : mk_MV M_X2_fitting := ⟨(mk_w5 (i := 79) rfl rfl), (mk_wp (i := 75) rfl rfl)⟩
theorem md_X2_bestLook : mk_MD M_X2_bestLook 3 := ⟨(mk_w5 (i := 105) rfl rfl), (mk_w1 (i := 5) rfl rfl), by decide, by decide, by decide +kernel⟩
theorem mv_X2_bestLook : mk_MV M_X2_bestLook := ⟨(mk_w5 (i := 104) rfl rfl), (mk_wp (i := 79) rfl rfl)⟩
theorem md_X2_yearsOfNotions : mk_MD M_X2_yearsOfNotions 4 := ⟨(mk_w5 (i := 127) rfl rfl), (mk_w1 (i := 5) rfl rfl), by decide, by decide, by decide +kernel⟩
theorem mv_X2_yearsOfNotions : mk_MV M_X2_yearsOfNotions := ⟨(mk_w5 (i := 126) rfl rfl), (mk_wp (i := 82) rfl rfl)⟩
theorem md_X10_copyFrom : mk_MD M_X10_copyFrom 1 := ⟨(mk_w5 (i := 147) rfl rfl), (mk_w1 (i := 6) rfl rfl), by decide, by decide, by decide +kernel⟩
theorem mv_X10_copyFrom : mk_MV M_X10_copyFrom := ⟨(mk_w5 (i := 146) rfl rfl), (mk_wp (i := 85) rfl rfl)⟩
theorem md_X12_cells : mk_MD M_X12_cells 0 := ⟨(mk_w7 (i := 90) rfl rfl), (mk_w1 (i := 12) rfl rfl), by decide, by decide, by decide +kernel⟩
theorem mv_X12_cells : mk_MV M_X12_cells := ⟨(mk_w7 (i := 89) rfl rfl), (mk_wp (i := 121) rfl rfl)⟩
theorem md_X12_in : mk_MD M_X12_in 3 := ⟨(mk_w6 (i := 198) rfl rfl), (mk_w1 (i := 12) rfl rfl), by decide, by decide, by decide +kernel⟩
theorem ms_X12_in : Cond.static M_X12_in.1 ∈ lw_gw := (mk_w6 (i := 197) rfl rfl)
theorem md_X12_put : mk_MD M_X12_put 1 := ⟨(mk_w6 (i := 127) rfl rfl), (mk_w1 (i := 12) rfl rfl), by decide, by decide, by decide +kernel⟩
theorem mv_X12_put : mk_MV M_X12_put := ⟨(mk_w6 (i := 126) rfl rfl), (mk_wp (i := 88) rfl rfl)⟩
theorem md_X12_sign : mk_MD M_X12_sign 0 := ⟨(mk_w6 (i := 155) rfl rfl), (mk_w1 (i := 12) rfl rfl), by decide, by decide, by decide +kernel⟩
theorem mv_X12_sign : mk_MV M_X12_sign := ⟨(mk_w6 (i := 154) rfl rfl), (mk_wp (i := 93) rfl rfl)⟩
theorem md_X12_blanks : mk_MD M_X12_blanks 0 := ⟨(mk_w6 (i := 151) rfl rfl), (mk_w1 (i := 12) rfl rfl), by decide, by decide, by decide +kernel⟩
theorem mv_X12_blanks : mk_MV M_X12_blanks := ⟨(mk_w6 (i := 150) rfl rfl), (mk_wp (i := 92) rfl rfl)⟩
theorem md_X12_stood : mk_MD M_X12_stood 1 := ⟨(mk_w6 (i := 166) rfl rfl), (mk_w1 (i := 12) rfl rfl), by decide, by decide, by decide +kernel⟩
theorem mv_X12_stood : mk_MV M_X12_stood := ⟨(mk_w6 (i := 165) rfl rfl), (mk_wp (i := 94) rfl rfl)⟩
theorem md_X12_fails : mk_MD M_X12_fails 2 := ⟨(mk_w6 (i := 172) rfl rfl), (mk_w1 (i := 12) rfl rfl), by decide, by decide, by decide +kernel⟩
theorem mv_X12_fails : mk_MV M_X12_fails := ⟨(mk_w6 (i := 171) rfl rfl), (mk_wp (i := 95) rfl rfl)⟩
theorem md_X12_isDigit : mk_MD M_X12_isDigit 0 := ⟨(mk_w6 (i := 193) rfl rfl), (mk_w1 (i := 12) rfl rfl), by decide, by decide, by decide +kernel⟩
theorem mv_X12_isDigit : mk_MV M_X12_isDigit := ⟨(mk_w6 (i := 192) rfl rfl), (mk_wp (i := 100) rfl rfl)⟩
theorem md_X12_isCounted : mk_MD M_X12_isCounted 1 := ⟨(mk_w6 (i := 234) rfl rfl), (mk_w1 (i := 12) rfl rfl), by decide, by decide, by decide +kernel⟩
theorem mv_X12_isCounted : mk_MV M_X12_isCounted := ⟨(mk_w6 (i := 233) rfl rfl), (mk_wp (i := 107) rfl rfl)⟩
theorem md_X12_wordOf : mk_MD M_X12_wordOf 1 := ⟨(mk_w7 (i := 1) rfl rfl), (mk_w1 (i := 12) rfl rfl), by decide, by decide, by decide +kernel⟩
theorem ms_X12_wordOf : Cond.static M_X12_wordOf.1 ∈ lw_gw := (mk_w7 (i := 0) rfl rfl)
theorem md_X12_entry : mk_MD M_X12_entry 2 := ⟨(mk_w6 (i := 238) rfl rfl), (mk_w1 (i := 12) rfl rfl), by decide, by decide, by decide +kernel⟩
theorem mv_X12_entry : mk_MV M_X12_entry := ⟨(mk_w6 (i := 237) rfl rfl), (mk_wp (i := 108) rfl rfl)⟩
theorem md_X12_digits : mk_MD M_X12_digits 1 := ⟨(mk_w6 (i := 189) rfl rfl), (mk_w1 (i := 12) rfl rfl), by decide, by decide, by decide +kernel⟩
theorem mv_X12_digits : mk_MV M_X12_digits := ⟨(mk_w6 (i := 188) rfl rfl), (mk_wp (i := 99) rfl rfl)⟩
theorem md_X12_value : mk_MD M_X12_value 0 := ⟨(mk_w6 (i := 230) rfl rfl), (mk_w1 (i := 12) rfl rfl), by decide, by decide, by decide +kernel⟩
theorem mv_X12_value : mk_MV M_X12_value := ⟨(mk_w6 (i := 229) rfl rfl), (mk_wp (i := 106) rfl rfl)⟩
theorem md_X12_term : mk_MD M_X12_term 0 := ⟨(mk_w6 (i := 226) rfl rfl), (mk_w1 (i := 12) rfl rfl), by decide, by decide, by decide +kernel⟩
theorem mv_X12_term : mk_MV M_X12_term := ⟨(mk_w6 (i := 225) rfl rfl), (mk_wp (i := 105) rfl rfl)⟩
theorem md_X12_sum : mk_MD M_X12_sum 0 := ⟨(mk_w6 (i := 222) rfl rfl), (mk_w1 (i := 12) rfl rfl), by decide, by decide, by decide +kernel⟩
theorem mv_X12_sum : mk_MV M_X12_sum := ⟨(mk_w6 (i := 221) rfl rfl), (mk_wp (i := 104) rfl rfl)⟩
theorem md_X12_top : mk_MD M_X12_top 0 := ⟨(mk_w7 (i := 42) rfl rfl), (mk_w1 (i := 12) rfl rfl), by decide, by decide, by decide +kernel⟩
theorem mv_X12_top : mk_MV M_X12_top := ⟨(mk_w7 (i := 41) rfl rfl), (mk_wp (i := 115) rfl rfl)⟩
theorem md_X12_opens : mk_MD M_X12_opens 1 := ⟨(mk_w7 (i := 30) rfl rfl), (mk_w1 (i := 12) rfl rfl), by decide, by decide, by decide +kernel⟩
theorem mv_X12_opens : mk_MV M_X12_opens := ⟨(mk_w7 (i := 29) rfl rfl), (mk_wp (i := 112) rfl rfl)⟩
theorem md_X12_compared : mk_MD M_X12_compared 0 := ⟨(mk_w7 (i := 34) rfl rfl), (mk_w1 (i := 12) rfl rfl), by decide, by decide, by decide +kernel⟩
theorem mv_X12_compared : mk_MV M_X12_compared := ⟨(mk_w7 (i := 33) rfl rfl), (mk_wp (i := 113) rfl rfl)⟩
theorem md_X12_answers : mk_MD M_X12_answers 1 := ⟨(mk_w7 (i := 38) rfl rfl), (mk_w1 (i := 12) rfl rfl), by decide, by decide, by decide +kernel⟩
theorem mv_X12_answers : mk_MV M_X12_answers := ⟨(mk_w7 (i := 37) rfl rfl), (mk_wp (i := 114) rfl rfl)⟩
theorem md_X12_fact : mk_MD M_X12_fact 0 := ⟨(mk_w7 (i := 25) rfl rfl), (mk_w1 (i := 12) rfl rfl), by decide, by decide, by decide +kernel⟩
theorem mv_X12_fact : mk_MV M_X12_fact := ⟨(mk_w7 (i := 24) rfl rfl), (mk_wp (i := 111) rfl rfl)⟩
theorem md_X12_amount : mk_MD M_X12_amount 2 := ⟨(mk_w6 (i := 184) rfl rfl), (mk_w1 (i := 12) rfl rfl), by decide, by decide, by decide +kernel⟩
theorem mv_X12_amount : mk_MV M_X12_amount := ⟨(mk_w6 (i := 183) rfl rfl), (mk_wp (i := 98) rfl rfl)⟩
theorem md_X12_isFull : mk_MD M_X12_isFull 2 := ⟨(mk_w6 (i := 176) rfl rfl), (mk_w1 (i := 12) rfl rfl), by decide, by decide, by decide +kernel⟩
theorem mv_X12_isFull : mk_MV M_X12_isFull := ⟨(mk_w6 (i := 175) rfl rfl), (mk_wp (i := 96) rfl rfl)⟩
theorem md_X12_plateauWord : mk_MD M_X12_plateauWord 1 := ⟨(mk_w6 (i := 158) rfl rfl), (mk_w1 (i := 12) rfl rfl), by decide, by decide, by decide +kernel⟩
theorem ms_X12_plateauWord : Cond.static M_X12_plateauWord.1 ∈ lw_gw := (mk_w6 (i := 157) rfl rfl)
theorem md_X12_plateauPart : mk_MD M_X12_plateauPart 1 := ⟨(mk_w6 (i := 180) rfl rfl), (mk_w1 (i := 12) rfl rfl), by decide, by decide, by decide +kernel⟩
theorem mv_X12_plateauPart : mk_MV M_X12_plateauPart := ⟨(mk_w6 (i := 179) rfl rfl), (mk_wp (i := 97) rfl rfl)⟩
theorem md_X12_plateauClause : mk_MD M_X12_plateauClause 1 := ⟨(mk_w6 (i := 147) rfl rfl), (mk_w1 (i := 12) rfl rfl), by decide, by decide, by decide +kernel⟩
theorem mv_X12_plateauClause : mk_MV M_X12_plateauClause := ⟨(mk_w6 (i := 146) rfl rfl), (mk_wp (i := 91) rfl rfl)⟩
theorem md_X12_goesOn : mk_MD M_X12_goesOn 0 := ⟨(mk_w6 (i := 202) rfl rfl), (mk_w1 (i := 12) rfl rfl), by decide, by decide, by decide +kernel⟩
theorem mv_X12_goesOn : mk_MV M_X12_goesOn := ⟨(mk_w6 (i := 201) rfl rfl), (mk_wp (i := 101) rfl rfl)⟩
theorem md_X12_starts : mk_MD M_X12_starts 0 := ⟨(mk_w6 (i := 143) rfl rfl), (mk_w1 (i := 12) rfl rfl), by decide, by decide, by decide +kernel⟩
theorem mv_X12_starts : mk_MV M_X12_starts := ⟨(mk_w6 (i := 142) rfl rfl), (mk_wp (i := 90) rfl rfl)⟩
theorem md_X12_copies : mk_MD M_X12_copies 2 := ⟨(mk_w6 (i := 205) rfl rfl), (mk_w1 (i := 12) rfl rfl), by decide, by decide, by decide +kernel⟩
theorem ms_X12_copies : Cond.static M_X12_copies.1 ∈ lw_gw := (mk_w6 (i := 204) rfl rfl)
theorem md_X12_begins : mk_MD M_X12_begins 0 := ⟨(mk_w6 (i := 209) rfl rfl), (mk_w1 (i := 12) rfl rfl), by decide, by decide, by decide +kernel⟩
theorem mv_X12_begins : mk_MV M_X12_begins := ⟨(mk_w6 (i := 208) rfl rfl), (mk_wp (i := 102) rfl rfl)⟩
theorem md_X12_readsAll : mk_MD M_X12_readsAll 0 := ⟨(mk_w6 (i := 139) rfl rfl), (mk_w1 (i := 12) rfl rfl), by decide, by decide, by decide +kernel⟩
theorem mv_X12_readsAll : mk_MV M_X12_readsAll := ⟨(mk_w6 (i := 138) rfl rfl), (mk_wp (i := 89) rfl rfl)⟩
theorem md_X12_isNext : mk_MD M_X12_isNext 1 := ⟨(mk_w7 (i := 17) rfl rfl), (mk_w1 (i := 12) rfl rfl), by decide, by decide, by decide +kernel⟩
theorem mv_X12_isNext : mk_MV M_X12_isNext := ⟨(mk_w7 (i := 16) rfl rfl), (mk_wp (i := 109) rfl rfl)⟩
theorem md_X12_test : mk_MD M_X12_test 0 := ⟨(mk_w7 (i := 21) rfl rfl), (mk_w1 (i := 12) rfl rfl), by decide, by decide, by decide +kernel⟩
theorem mv_X12_test : mk_MV M_X12_test := ⟨(mk_w7 (i := 20) rfl rfl), (mk_wp (i := 110) rfl rfl)⟩
theorem md_X12_ruleClause : mk_MD M_X12_ruleClause 1 := ⟨(mk_w6 (i := 217) rfl rfl), (mk_w1 (i := 12) rfl rfl), by decide, by decide, by decide +kernel⟩
theorem mv_X12_ruleClause : mk_MV M_X12_ruleClause := ⟨(mk_w6 (i := 216) rfl rfl), (mk_wp (i := 103) rfl rfl)⟩
theorem md_X12_truth : mk_MD M_X12_truth 1 := ⟨(mk_w7 (i := 150) rfl rfl), (mk_w1 (i := 12) rfl rfl), by decide, by decide, by decide +kernel⟩
theorem ms_X12_truth : Cond.static M_X12_truth.1 ∈ lw_gw := (mk_w7 (i := 149) rfl rfl)
theorem md_X12_both : mk_MD M_X12_both 3 := ⟨(mk_w7 (i := 147) rfl rfl), (mk_w1 (i := 12) rfl rfl), by decide, by decide, by decide +kernel⟩
theorem ms_X12_both : Cond.static M_X12_both.1 ∈ lw_gw := (mk_w7 (i := 146) rfl rfl)
theorem md_X12_answer : mk_MD M_X12_answer 3 := ⟨(mk_w7 (i := 144) rfl rfl), (mk_w1 (i := 12) rfl rfl), by decide, by decide, by decide +kernel⟩
theorem mv_X12_answer : mk_MV M_X12_answer := ⟨(mk_w7 (i := 143) rfl rfl), (mk_wp (i := 131) rfl rfl)⟩
theorem md_X12_isPerson : mk_MD M_X12_isPerson 1 := ⟨(mk_w7 (i := 57) rfl rfl), (mk_w1 (i := 12) rfl rfl), by decide, by decide, by decide +kernel⟩
theorem mv_X12_isPerson : mk_MV M_X12_isPerson := ⟨(mk_w7 (i := 56) rfl rfl), (mk_wp (i := 116) rfl rfl)⟩
theorem md_X12_sinceOf : mk_MD M_X12_sinceOf 1 := ⟨(mk_w7 (i := 61) rfl rfl), (mk_w1 (i := 12) rfl rfl), by decide, by decide, by decide +kernel⟩
theorem mv_X12_sinceOf : mk_MV M_X12_sinceOf := ⟨(mk_w7 (i := 60) rfl rfl), (mk_wp (i := 117) rfl rfl)⟩
theorem md_X12_isMill : mk_MD M_X12_isMill 1 := ⟨(mk_w7 (i := 69) rfl rfl), (mk_w1 (i := 12) rfl rfl), by decide, by decide, by decide +kernel⟩
theorem mv_X12_isMill : mk_MV M_X12_isMill := ⟨(mk_w7 (i := 68) rfl rfl), (mk_wp (i := 118) rfl rfl)⟩
theorem md_X12_isRoof : mk_MD M_X12_isRoof 1 := ⟨(mk_w7 (i := 78) rfl rfl), (mk_w1 (i := 12) rfl rfl), by decide, by decide, by decide +kernel⟩
theorem mv_X12_isRoof : mk_MV M_X12_isRoof := ⟨(mk_w7 (i := 77) rfl rfl), (mk_wp (i := 119) rfl rfl)⟩
theorem md_X12_isCell : mk_MD M_X12_isCell 1 := ⟨(mk_w7 (i := 86) rfl rfl), (mk_w1 (i := 12) rfl rfl), by decide, by decide, by decide +kernel⟩
theorem mv_X12_isCell : mk_MV M_X12_isCell := ⟨(mk_w7 (i := 85) rfl rfl), (mk_wp (i := 120) rfl rfl)⟩
theorem md_X12_before : mk_MD M_X12_before 2 := ⟨(mk_w7 (i := 165) rfl rfl), (mk_w1 (i := 12) rfl rfl), by decide, by decide, by decide +kernel⟩
theorem mv_X12_before : mk_MV M_X12_before := ⟨(mk_w7 (i := 164) rfl rfl), (mk_wp (i := 134) rfl rfl)⟩
theorem md_X12_allGround : mk_MD M_X12_allGround 0 := ⟨(mk_w7 (i := 133) rfl rfl), (mk_w1 (i := 12) rfl rfl), by decide, by decide, by decide +kernel⟩
theorem mv_X12_allGround : mk_MV M_X12_allGround := ⟨(mk_w7 (i := 132) rfl rfl), (mk_wp (i := 129) rfl rfl)⟩
theorem md_X12_bits : mk_MD M_X12_bits 1 := ⟨(mk_w7 (i := 136) rfl rfl), (mk_w1 (i := 12) rfl rfl), by decide, by decide, by decide +kernel⟩
theorem ms_X12_bits : Cond.static M_X12_bits.1 ∈ lw_gw := (mk_w7 (i := 135) rfl rfl)
theorem md_X12_wanted : mk_MD M_X12_wanted 0 := ⟨(mk_w7 (i := 140) rfl rfl), (mk_w1 (i := 12) rfl rfl), by decide, by decide, by decide +kernel⟩
theorem mv_X12_wanted : mk_MV M_X12_wanted := ⟨(mk_w7 (i := 139) rfl rfl), (mk_wp (i := 130) rfl rfl)⟩
theorem md_X12_has : mk_MD M_X12_has 2 := ⟨(mk_w7 (i := 157) rfl rfl), (mk_w1 (i := 12) rfl rfl), by decide, by decide, by decide +kernel⟩
theorem ms_X12_has : Cond.static M_X12_has.1 ∈ lw_gw := (mk_w7 (i := 156) rfl rfl)
theorem md_X12_puffIn : mk_MD M_X12_puffIn 2 := ⟨(mk_w7 (i := 161) rfl rfl), (mk_w1 (i := 12) rfl rfl), by decide, by decide, by decide +kernel⟩
theorem mv_X12_puffIn : mk_MV M_X12_puffIn := ⟨(mk_w7 (i := 160) rfl rfl), (mk_wp (i := 133) rfl rfl)⟩
theorem md_X12_upTo : mk_MD M_X12_upTo 2 := ⟨(mk_w7 (i := 125) rfl rfl), (mk_w1 (i := 12) rfl rfl), by decide, by decide, by decide +kernel⟩
theorem ms_X12_upTo : Cond.static M_X12_upTo.1 ∈ lw_gw := (mk_w7 (i := 124) rfl rfl)
theorem md_X12_blows : mk_MD M_X12_blows 1 := ⟨(mk_w7 (i := 154) rfl rfl), (mk_w1 (i := 12) rfl rfl), by decide, by decide, by decide +kernel⟩
theorem mv_X12_blows : mk_MV M_X12_blows := ⟨(mk_w7 (i := 153) rfl rfl), (mk_wp (i := 132) rfl rfl)⟩
theorem md_X12_works : mk_MD M_X12_works 0 := ⟨(mk_w7 (i := 169) rfl rfl), (mk_w1 (i := 12) rfl rfl), by decide, by decide, by decide +kernel⟩
theorem mv_X12_works : mk_MV M_X12_works := ⟨(mk_w7 (i := 168) rfl rfl), (mk_wp (i := 135) rfl rfl)⟩
theorem md_X12_givesWay : mk_MD M_X12_givesWay 1 := ⟨(mk_w7 (i := 129) rfl rfl), (mk_w1 (i := 12) rfl rfl), by decide, by decide, by decide +kernel⟩
theorem mv_X12_givesWay : mk_MV M_X12_givesWay := ⟨(mk_w7 (i := 128) rfl rfl), (mk_wp (i := 128) rfl rfl)⟩
theorem md_X12_goes : mk_MD M_X12_goes 0 := ⟨(mk_w7 (i := 122) rfl rfl), (mk_w1 (i := 12) rfl rfl), by decide, by decide, by decide +kernel⟩
theorem mv_X12_goes : mk_MV M_X12_goes := ⟨(mk_w7 (i := 121) rfl rfl), (mk_wp (i := 127) rfl rfl)⟩
theorem md_X12_moves : mk_MD M_X12_moves 1 := ⟨(mk_w7 (i := 102) rfl rfl), (mk_w1 (i := 12) rfl rfl), by decide, by decide, by decide +kernel⟩
theorem mv_X12_moves : mk_MV M_X12_moves := ⟨(mk_w7 (i := 101) rfl rfl), (mk_wp (i := 123) rfl rfl)⟩
theorem md_X12_movesRow : mk_MD M_X12_movesRow 1 := ⟨(mk_w7 (i := 106) rfl rfl), (mk_w1 (i := 12) rfl rfl), by decide, by decide, by decide +kernel⟩
theorem mv_X12_movesRow : mk_MV M_X12_movesRow := ⟨(mk_w7 (i := 105) rfl rfl), (mk_wp (i := 124) rfl rfl)⟩
theorem md_X12_movesAll : mk_MD M_X12_movesAll 2 := ⟨(mk_w7 (i := 98) rfl rfl), (mk_w1 (i := 12) rfl rfl), by decide, by decide, by decide +kernel⟩
theorem mv_X12_movesAll : mk_MV M_X12_movesAll := ⟨(mk_w7 (i := 97) rfl rfl), (mk_wp (i := 122) rfl rfl)⟩
theorem md_X12_isPlateau : mk_MD M_X12_isPlateau 0 := ⟨(mk_w7 (i := 114) rfl rfl), (mk_w1 (i := 12) rfl rfl), by decide, by decide, by decide +kernel⟩
theorem mv_X12_isPlateau : mk_MV M_X12_isPlateau := ⟨(mk_w7 (i := 113) rfl rfl), (mk_wp (i := 125) rfl rfl)⟩
theorem md_X12_keepsAct : mk_MD M_X12_keepsAct 0 := ⟨(mk_w7 (i := 118) rfl rfl), (mk_w1 (i := 12) rfl rfl), by decide, by decide, by decide +kernel⟩
theorem mv_X12_keepsAct : mk_MV M_X12_keepsAct := ⟨(mk_w7 (i := 117) rfl rfl), (mk_wp (i := 126) rfl rfl)⟩
theorem md_X12_carryRow : mk_MD M_X12_carryRow 1 := ⟨(mk_w7 (i := 204) rfl rfl), (mk_w1 (i := 12) rfl rfl), by decide, by decide, by decide +kernel⟩
theorem mv_X12_carryRow : mk_MV M_X12_carryRow := ⟨(mk_w7 (i := 203) rfl rfl), (mk_wp (i := 138) rfl rfl)⟩
theorem md_X12_carriesAll : mk_MD M_X12_carriesAll 2 := ⟨(mk_w7 (i := 200) rfl rfl), (mk_w1 (i := 12) rfl rfl), by decide, by decide, by decide +kernel⟩
theorem mv_X12_carriesAll : mk_MV M_X12_carriesAll := ⟨(mk_w7 (i := 199) rfl rfl), (mk_wp (i := 137) rfl rfl)⟩
theorem md_X12_laysBack : mk_MD M_X12_laysBack 0 := ⟨(mk_w7 (i := 212) rfl rfl), (mk_w1 (i := 12) rfl rfl), by decide, by decide, by decide +kernel⟩
theorem mv_X12_laysBack : mk_MV M_X12_laysBack := ⟨(mk_w7 (i := 211) rfl rfl), (mk_wp (i := 140) rfl rfl)⟩
theorem md_X12_keepsAll : mk_MD M_X12_keepsAll 0 := ⟨(mk_w7 (i := 196) rfl rfl), (mk_w1 (i := 12) rfl rfl), by decide, by decide, by decide +kernel⟩
theorem mv_X12_keepsAll : mk_MV M_X12_keepsAll := ⟨(mk_w7 (i := 195) rfl rfl), (mk_wp (i := 136) rfl rfl)⟩
theorem md_X12_goFor : mk_MD M_X12_goFor 1 := ⟨(mk_w7 (i := 208) rfl rfl), (mk_w1 (i := 12) rfl rfl), by decide, by decide, by decide +kernel⟩
theorem mv_X12_goFor : mk_MV M_X12_goFor := ⟨(mk_w7 (i := 207) rfl rfl), (mk_wp (i := 139) rfl rfl)⟩
theorem md_X12_ofWays : mk_MD M_X12_ofWays 1 := ⟨(mk_w7 (i := 238) rfl rfl), (mk_w1 (i := 12) rfl rfl), by decide, by decide, by decide +kernel⟩
theorem mv_X12_ofWays : mk_MV M_X12_ofWays := ⟨(mk_w7 (i := 237) rfl rfl), (mk_wp (i := 143) rfl rfl)⟩
theorem md_X12_tries : mk_MD M_X12_tries 2 := ⟨(mk_w7 (i := 234) rfl rfl), (mk_w1 (i := 12) rfl rfl), by decide, by decide, by decide +kernel⟩
theorem mv_X12_tries : mk_MV M_X12_tries := ⟨(mk_w7 (i := 233) rfl rfl), (mk_wp (i := 142) rfl rfl)⟩
theorem md_X12_startsWays : mk_MD M_X12_startsWays 0 := ⟨(mk_w7 (i := 230) rfl rfl), (mk_w1 (i := 12) rfl rfl), by decide, by decide, by decide +kernel⟩
theorem mv_X12_startsWays : mk_MV M_X12_startsWays := ⟨(mk_w7 (i := 229) rfl rfl), (mk_wp (i := 141) rfl rfl)⟩
theorem md_X12_allWind : mk_MD M_X12_allWind 0 := ⟨(mk_w8 (i := 24) rfl rfl), (mk_w1 (i := 12) rfl rfl), by decide, by decide, by decide +kernel⟩
theorem mv_X12_allWind : mk_MV M_X12_allWind := ⟨(mk_w8 (i := 23) rfl rfl), (mk_wp (i := 144) rfl rfl)⟩
theorem md_X12_isRest : mk_MD M_X12_isRest 1 := ⟨(mk_w8 (i := 41) rfl rfl), (mk_w1 (i := 12) rfl rfl), by decide, by decide, by decide +kernel⟩
theorem mv_X12_isRest : mk_MV M_X12_isRest := ⟨(mk_w8 (i := 40) rfl rfl), (mk_wp (i := 146) rfl rfl)⟩
theorem md_X12_laysFaces : mk_MD M_X12_laysFaces 3 := ⟨(mk_w8 (i := 37) rfl rfl), (mk_w1 (i := 12) rfl rfl), by decide, by decide, by decide +kernel⟩
theorem mv_X12_laysFaces : mk_MV M_X12_laysFaces := ⟨(mk_w8 (i := 36) rfl rfl), (mk_wp (i := 145) rfl rfl)⟩
theorem md_X12_allActed : mk_MD M_X12_allActed 0 := ⟨(mk_w8 (i := 49) rfl rfl), (mk_w1 (i := 12) rfl rfl), by decide, by decide, by decide +kernel⟩
theorem mv_X12_allActed : mk_MV M_X12_allActed := ⟨(mk_w8 (i := 48) rfl rfl), (mk_wp (i := 147) rfl rfl)⟩
theorem md_X12_couldRule : mk_MD M_X12_couldRule 1 := ⟨(mk_w8 (i := 61) rfl rfl), (mk_w1 (i := 12) rfl rfl), by decide, by decide, by decide +kernel⟩
theorem mv_X12_couldRule : mk_MV M_X12_couldRule := ⟨(mk_w8 (i := 60) rfl rfl), (mk_wp (i := 148) rfl rfl)⟩
theorem md_X12_mostAlike : mk_MD M_X12_mostAlike 2 := ⟨(mk_w8 (i := 69) rfl rfl), (mk_w1 (i := 12) rfl rfl), by decide, by decide, by decide +kernel⟩
theorem mv_X12_mostAlike : mk_MV M_X12_mostAlike := ⟨(mk_w8 (i := 68) rfl rfl), (mk_wp (i := 149) rfl rfl)⟩
theorem md_X12_draws : mk_MD M_X12_draws 1 := ⟨(mk_w8 (i := 86) rfl rfl), (mk_w1 (i := 12) rfl rfl), by decide, by decide, by decide +kernel⟩
theorem mv_X12_draws : mk_MV M_X12_draws := ⟨(mk_w8 (i := 85) rfl rfl), (mk_wp (i := 151) rfl rfl)⟩
theorem md_X12_drawsNotion : mk_MD M_X12_drawsNotion 1 := ⟨(mk_w8 (i := 82) rfl rfl), (mk_w1 (i := 12) rfl rfl), by decide, by decide, by decide +kernel⟩
theorem mv_X12_drawsNotion : mk_MV M_X12_drawsNotion := ⟨(mk_w8 (i := 81) rfl rfl), (mk_wp (i := 150) rfl rfl)⟩
theorem md_X11_feed : mk_MD M_X11_feed 5 := ⟨(mk_w2 (i := 204) rfl rfl), (mk_w1 (i := 1) rfl rfl), by decide, by decide, by decide +kernel⟩
theorem mv_X11_feed : mk_MV M_X11_feed := ⟨(mk_w2 (i := 202) rfl rfl), (mk_w2 (i := 203) rfl rfl)⟩
theorem md_X12_feed : mk_MD M_X12_feed 5 := ⟨(mk_w6 (i := 123) rfl rfl), (mk_w1 (i := 12) rfl rfl), by decide, by decide, by decide +kernel⟩
theorem mv_X12_feed : mk_MV M_X12_feed := ⟨(mk_w6 (i := 121) rfl rfl), (mk_w6 (i := 122) rfl rfl)⟩
theorem md_X11_end : mk_MD M_X11_end 1 := ⟨(mk_w2 (i := 212) rfl rfl), (mk_w1 (i := 1) rfl rfl), by decide, by decide, by decide +kernel⟩
theorem mv_X11_end : mk_MV M_X11_end := ⟨(mk_w2 (i := 210) rfl rfl), (mk_w2 (i := 211) rfl rfl)⟩
theorem md_X12_end : mk_MD M_X12_end 1 := ⟨(mk_w6 (i := 131) rfl rfl), (mk_w1 (i := 12) rfl rfl), by decide, by decide, by decide +kernel⟩
theorem mv_X12_end : mk_MV M_X12_end := ⟨(mk_w6 (i := 129) rfl rfl), (mk_w6 (i := 130) rfl rfl)⟩
theorem md_X11_plateau : mk_MD M_X11_plateau 0 := ⟨(mk_w2 (i := 219) rfl rfl), (mk_w1 (i := 1) rfl rfl), by decide, by decide, by decide +kernel⟩
theorem mv_X11_plateau : mk_MV M_X11_plateau := ⟨(mk_w2 (i := 217) rfl rfl), (mk_w2 (i := 218) rfl rfl)⟩
theorem md_X12_plateau : mk_MD M_X12_plateau 0 := ⟨(mk_w6 (i := 135) rfl rfl), (mk_w1 (i := 12) rfl rfl), by decide, by decide, by decide +kernel⟩
theorem mv_X12_plateau : mk_MV M_X12_plateau := ⟨(mk_w6 (i := 133) rfl rfl), (mk_w6 (i := 134) rfl rfl)⟩
theorem md_X11_rule : mk_MD M_X11_rule 0 := ⟨(mk_w3 (i := 152) rfl rfl), (mk_w1 (i := 1) rfl rfl), by decide, by decide, by decide +kernel⟩
theorem mv_X11_rule : mk_MV M_X11_rule := ⟨(mk_w3 (i := 150) rfl rfl), (mk_w3 (i := 151) rfl rfl)⟩
theorem md_X12_rule : mk_MD M_X12_rule 0 := ⟨(mk_w6 (i := 213) rfl rfl), (mk_w1 (i := 12) rfl rfl), by decide, by decide, by decide +kernel⟩
theorem mv_X12_rule : mk_MV M_X12_rule := ⟨(mk_w6 (i := 211) rfl rfl), (mk_w6 (i := 212) rfl rfl)⟩
theorem md_X11_force : mk_MD M_X11_force 1 := ⟨(mk_w3 (i := 226) rfl rfl), (mk_w1 (i := 1) rfl rfl), by decide, by decide, by decide +kernel⟩
theorem mv_X11_force : mk_MV M_X11_force := ⟨(mk_w3 (i := 224) rfl rfl), (mk_w3 (i := 225) rfl rfl)⟩
theorem md_X12_force : mk_MD M_X12_force 1 := ⟨(mk_w7 (i := 48) rfl rfl), (mk_w1 (i := 12) rfl rfl), by decide, by decide, by decide +kernel⟩
theorem mv_X12_force : mk_MV M_X12_force := ⟨(mk_w7 (i := 46) rfl rfl), (mk_w7 (i := 47) rfl rfl)⟩
theorem md_X11_person : mk_MD M_X11_person 2 := ⟨(mk_w3 (i := 230) rfl rfl), (mk_w1 (i := 1) rfl rfl), by decide, by decide, by decide +kernel⟩
theorem mv_X11_person : mk_MV M_X11_person := ⟨(mk_w3 (i := 228) rfl rfl), (mk_w3 (i := 229) rfl rfl)⟩
theorem md_X12_person : mk_MD M_X12_person 2 := ⟨(mk_w7 (i := 53) rfl rfl), (mk_w1 (i := 12) rfl rfl), by decide, by decide, by decide +kernel⟩
theorem mv_X12_person : mk_MV M_X12_person := ⟨(mk_w7 (i := 51) rfl rfl), (mk_w7 (i := 52) rfl rfl)⟩
theorem md_X11_mill : mk_MD M_X11_mill 2 := ⟨(mk_w3 (i := 238) rfl rfl), (mk_w1 (i := 1) rfl rfl), by decide, by decide, by decide +kernel⟩
theorem mv_X11_mill : mk_MV M_X11_mill := ⟨(mk_w3 (i := 236) rfl rfl), (mk_w3 (i := 237) rfl rfl)⟩
theorem md_X12_mill : mk_MD M_X12_mill 2 := ⟨(mk_w7 (i := 65) rfl rfl), (mk_w1 (i := 12) rfl rfl), by decide, by decide, by decide +kernel⟩
theorem mv_X12_mill : mk_MV M_X12_mill := ⟨(mk_w7 (i := 63) rfl rfl), (mk_w7 (i := 64) rfl rfl)⟩
theorem md_X11_roof : mk_MD M_X11_roof 2 := ⟨(mk_w4 (i := 6) rfl rfl), (mk_w1 (i := 1) rfl rfl), by decide, by decide, by decide +kernel⟩
theorem mv_X11_roof : mk_MV M_X11_roof := ⟨(mk_w4 (i := 4) rfl rfl), (mk_w4 (i := 5) rfl rfl)⟩
theorem md_X12_roof : mk_MD M_X12_roof 2 := ⟨(mk_w7 (i := 74) rfl rfl), (mk_w1 (i := 12) rfl rfl), by decide, by decide, by decide +kernel⟩
theorem mv_X12_roof : mk_MV M_X12_roof := ⟨(mk_w7 (i := 72) rfl rfl), (mk_w7 (i := 73) rfl rfl)⟩
theorem md_X11_wind : mk_MD M_X11_wind 1 := ⟨(mk_w4 (i := 14) rfl rfl), (mk_w1 (i := 1) rfl rfl), by decide, by decide, by decide +kernel⟩
theorem mv_X11_wind : mk_MV M_X11_wind := ⟨(mk_w4 (i := 12) rfl rfl), (mk_w4 (i := 13) rfl rfl)⟩
theorem md_X12_wind : mk_MD M_X12_wind 1 := ⟨(mk_w7 (i := 82) rfl rfl), (mk_w1 (i := 12) rfl rfl), by decide, by decide, by decide +kernel⟩
theorem mv_X12_wind : mk_MV M_X12_wind := ⟨(mk_w7 (i := 80) rfl rfl), (mk_w7 (i := 81) rfl rfl)⟩
theorem md_X11_hour : mk_MD M_X11_hour 0 := ⟨(mk_w4 (i := 46) rfl rfl), (mk_w1 (i := 1) rfl rfl), by decide, by decide, by decide +kernel⟩
theorem mv_X11_hour : mk_MV M_X11_hour := ⟨(mk_w4 (i := 44) rfl rfl), (mk_w4 (i := 45) rfl rfl)⟩
theorem md_X12_hour : mk_MD M_X12_hour 0 := ⟨(mk_w7 (i := 110) rfl rfl), (mk_w1 (i := 12) rfl rfl), by decide, by decide, by decide +kernel⟩
theorem mv_X12_hour : mk_MV M_X12_hour := ⟨(mk_w7 (i := 108) rfl rfl), (mk_w7 (i := 109) rfl rfl)⟩
theorem md_X11_wine : mk_MD M_X11_wine 2 := ⟨(mk_w4 (i := 143) rfl rfl), (mk_w1 (i := 1) rfl rfl), by decide, by decide, by decide +kernel⟩
theorem mv_X11_wine : mk_MV M_X11_wine := ⟨(mk_w4 (i := 141) rfl rfl), (mk_w4 (i := 142) rfl rfl)⟩
theorem md_X12_wine : mk_MD M_X12_wine 2 := ⟨(mk_w7 (i := 173) rfl rfl), (mk_w1 (i := 12) rfl rfl), by decide, by decide, by decide +kernel⟩
theorem mv_X12_wine : mk_MV M_X12_wine := ⟨(mk_w7 (i := 171) rfl rfl), (mk_w7 (i := 172) rfl rfl)⟩
theorem md_X11_place : mk_MD M_X11_place 2 := ⟨(mk_w4 (i := 148) rfl rfl), (mk_w1 (i := 1) rfl rfl), by decide, by decide, by decide +kernel⟩
theorem mv_X11_place : mk_MV M_X11_place := ⟨(mk_w4 (i := 146) rfl rfl), (mk_w4 (i := 147) rfl rfl)⟩
theorem md_X12_place : mk_MD M_X12_place 2 := ⟨(mk_w7 (i := 178) rfl rfl), (mk_w1 (i := 12) rfl rfl), by decide, by decide, by decide +kernel⟩
theorem mv_X12_place : mk_MV M_X12_place := ⟨(mk_w7 (i := 176) rfl rfl), (mk_w7 (i := 177) rfl rfl)⟩
theorem md_X11_face : mk_MD M_X11_face 2 := ⟨(mk_w4 (i := 152) rfl rfl), (mk_w1 (i := 1) rfl rfl), by decide, by decide, by decide +kernel⟩
theorem mv_X11_face : mk_MV M_X11_face := ⟨(mk_w4 (i := 150) rfl rfl), (mk_w4 (i := 151) rfl rfl)⟩
theorem md_X12_face : mk_MD M_X12_face 2 := ⟨(mk_w7 (i := 182) rfl rfl), (mk_w1 (i := 12) rfl rfl), by decide, by decide, by decide +kernel⟩
theorem mv_X12_face : mk_MV M_X12_face := ⟨(mk_w7 (i := 180) rfl rfl), (mk_w7 (i := 181) rfl rfl)⟩
theorem md_X11_mend : mk_MD M_X11_mend 1 := ⟨(mk_w4 (i := 156) rfl rfl), (mk_w1 (i := 1) rfl rfl), by decide, by decide, by decide +kernel⟩
theorem mv_X11_mend : mk_MV M_X11_mend := ⟨(mk_w4 (i := 154) rfl rfl), (mk_w4 (i := 155) rfl rfl)⟩
theorem md_X12_mend : mk_MD M_X12_mend 1 := ⟨(mk_w7 (i := 187) rfl rfl), (mk_w1 (i := 12) rfl rfl), by decide, by decide, by decide +kernel⟩
theorem mv_X12_mend : mk_MV M_X12_mend := ⟨(mk_w7 (i := 185) rfl rfl), (mk_w7 (i := 186) rfl rfl)⟩
theorem md_X11_undo : mk_MD M_X11_undo 0 := ⟨(mk_w4 (i := 161) rfl rfl), (mk_w1 (i := 1) rfl rfl), by decide, by decide, by decide +kernel⟩
theorem mv_X11_undo : mk_MV M_X11_undo := ⟨(mk_w4 (i := 159) rfl rfl), (mk_w4 (i := 160) rfl rfl)⟩
theorem md_X12_undo : mk_MD M_X12_undo 0 := ⟨(mk_w7 (i := 94) rfl rfl), (mk_w1 (i := 12) rfl rfl), by decide, by decide, by decide +kernel⟩
theorem mv_X12_undo : mk_MV M_X12_undo := ⟨(mk_w7 (i := 92) rfl rfl), (mk_w7 (i := 93) rfl rfl)⟩
theorem md_X11_ahead : mk_MD M_X11_ahead 3 := ⟨(mk_w4 (i := 169) rfl rfl), (mk_w1 (i := 1) rfl rfl), by decide, by decide, by decide +kernel⟩
theorem mv_X11_ahead : mk_MV M_X11_ahead := ⟨(mk_w4 (i := 167) rfl rfl), (mk_w4 (i := 168) rfl rfl)⟩
theorem md_X12_ahead : mk_MD M_X12_ahead 3 := ⟨(mk_w7 (i := 191) rfl rfl), (mk_w1 (i := 12) rfl rfl), by decide, by decide, by decide +kernel⟩
theorem mv_X12_ahead : mk_MV M_X12_ahead := ⟨(mk_w7 (i := 189) rfl rfl), (mk_w7 (i := 190) rfl rfl)⟩
theorem md_X11_whim : mk_MD M_X11_whim 1 := ⟨(mk_w4 (i := 189) rfl rfl), (mk_w1 (i := 1) rfl rfl), by decide, by decide, by decide +kernel⟩
theorem mv_X11_whim : mk_MV M_X11_whim := ⟨(mk_w4 (i := 187) rfl rfl), (mk_w4 (i := 188) rfl rfl)⟩
theorem md_X12_whim : mk_MD M_X12_whim 1 := ⟨(mk_w7 (i := 216) rfl rfl), (mk_w1 (i := 12) rfl rfl), by decide, by decide, by decide +kernel⟩
theorem mv_X12_whim : mk_MV M_X12_whim := ⟨(mk_w7 (i := 214) rfl rfl), (mk_w7 (i := 215) rfl rfl)⟩
theorem md_X11_storm : mk_MD M_X11_storm 1 := ⟨(mk_w4 (i := 198) rfl rfl), (mk_w1 (i := 1) rfl rfl), by decide, by decide, by decide +kernel⟩
theorem mv_X11_storm : mk_MV M_X11_storm := ⟨(mk_w4 (i := 196) rfl rfl), (mk_w4 (i := 197) rfl rfl)⟩
theorem md_X12_storm : mk_MD M_X12_storm 1 := ⟨(mk_w7 (i := 220) rfl rfl), (mk_w1 (i := 12) rfl rfl), by decide, by decide, by decide +kernel⟩
theorem mv_X12_storm : mk_MV M_X12_storm := ⟨(mk_w7 (i := 218) rfl rfl), (mk_w7 (i := 219) rfl rfl)⟩
theorem md_X11_stand : mk_MD M_X11_stand 3 := ⟨(mk_w4 (i := 202) rfl rfl), (mk_w1 (i := 1) rfl rfl), by decide, by decide, by decide +kernel⟩
theorem mv_X11_stand : mk_MV M_X11_stand := ⟨(mk_w4 (i := 200) rfl rfl), (mk_w4 (i := 201) rfl rfl)⟩
theorem md_X12_stand : mk_MD M_X12_stand 3 := ⟨(mk_w7 (i := 225) rfl rfl), (mk_w1 (i := 12) rfl rfl), by decide, by decide, by decide +kernel⟩
theorem mv_X12_stand : mk_MV M_X12_stand := ⟨(mk_w7 (i := 223) rfl rfl), (mk_w7 (i := 224) rfl rfl)⟩
theorem md_X11_turn : mk_MD M_X11_turn 3 := ⟨(mk_w4 (i := 227) rfl rfl), (mk_w1 (i := 1) rfl rfl), by decide, by decide, by decide +kernel⟩
theorem mv_X11_turn : mk_MV M_X11_turn := ⟨(mk_w4 (i := 225) rfl rfl), (mk_w4 (i := 226) rfl rfl)⟩
theorem md_X12_turn : mk_MD M_X12_turn 3 := ⟨(mk_w8 (i := 2) rfl rfl), (mk_w1 (i := 12) rfl rfl), by decide, by decide, by decide +kernel⟩
theorem mv_X12_turn : mk_MV M_X12_turn := ⟨(mk_w8 (i := 0) rfl rfl), (mk_w8 (i := 1) rfl rfl)⟩
theorem md_X11_takes : mk_MD M_X11_takes 4 := ⟨(mk_w4 (i := 235) rfl rfl), (mk_w1 (i := 1) rfl rfl), by decide, by decide, by decide +kernel⟩
theorem mv_X11_takes : mk_MV M_X11_takes := ⟨(mk_w4 (i := 233) rfl rfl), (mk_w4 (i := 234) rfl rfl)⟩
theorem md_X12_takes : mk_MD M_X12_takes 4 := ⟨(mk_w8 (i := 6) rfl rfl), (mk_w1 (i := 12) rfl rfl), by decide, by decide, by decide +kernel⟩
theorem mv_X12_takes : mk_MV M_X12_takes := ⟨(mk_w8 (i := 4) rfl rfl), (mk_w8 (i := 5) rfl rfl)⟩
theorem md_X11_blown : mk_MD M_X11_blown 3 := ⟨(mk_w5 (i := 4) rfl rfl), (mk_w1 (i := 1) rfl rfl), by decide, by decide, by decide +kernel⟩
theorem mv_X11_blown : mk_MV M_X11_blown := ⟨(mk_w5 (i := 2) rfl rfl), (mk_w5 (i := 3) rfl rfl)⟩
theorem md_X12_blown : mk_MD M_X12_blown 3 := ⟨(mk_w8 (i := 11) rfl rfl), (mk_w1 (i := 12) rfl rfl), by decide, by decide, by decide +kernel⟩
theorem mv_X12_blown : mk_MV M_X12_blown := ⟨(mk_w8 (i := 9) rfl rfl), (mk_w8 (i := 10) rfl rfl)⟩
theorem md_X11_still : mk_MD M_X11_still 2 := ⟨(mk_w5 (i := 18) rfl rfl), (mk_w1 (i := 1) rfl rfl), by decide, by decide, by decide +kernel⟩
theorem mv_X11_still : mk_MV M_X11_still := ⟨(mk_w5 (i := 16) rfl rfl), (mk_w5 (i := 17) rfl rfl)⟩
theorem md_X12_still : mk_MD M_X12_still 2 := ⟨(mk_w8 (i := 16) rfl rfl), (mk_w1 (i := 12) rfl rfl), by decide, by decide, by decide +kernel⟩
theorem mv_X12_still : mk_MV M_X12_still := ⟨(mk_w8 (i := 14) rfl rfl), (mk_w8 (i := 15) rfl rfl)⟩
theorem md_X11_lull : mk_MD M_X11_lull 2 := ⟨(mk_w5 (i := 26) rfl rfl), (mk_w1 (i := 1) rfl rfl), by decide, by decide, by decide +kernel⟩
theorem mv_X11_lull : mk_MV M_X11_lull := ⟨(mk_w5 (i := 24) rfl rfl), (mk_w5 (i := 25) rfl rfl)⟩
theorem md_X12_lull : mk_MD M_X12_lull 2 := ⟨(mk_w8 (i := 20) rfl rfl), (mk_w1 (i := 12) rfl rfl), by decide, by decide, by decide +kernel⟩
theorem mv_X12_lull : mk_MV M_X12_lull := ⟨(mk_w8 (i := 18) rfl rfl), (mk_w8 (i := 19) rfl rfl)⟩
theorem md_X11_harvest : mk_MD M_X11_harvest 2 := ⟨(mk_w5 (i := 35) rfl rfl), (mk_w1 (i := 1) rfl rfl), by decide, by decide, by decide +kernel⟩
theorem mv_X11_harvest : mk_MV M_X11_harvest := ⟨(mk_w5 (i := 33) rfl rfl), (mk_w5 (i := 34) rfl rfl)⟩
theorem md_X12_harvest : mk_MD M_X12_harvest 2 := ⟨(mk_w8 (i := 28) rfl rfl), (mk_w1 (i := 12) rfl rfl), by decide, by decide, by decide +kernel⟩
theorem mv_X12_harvest : mk_MV M_X12_harvest := ⟨(mk_w8 (i := 26) rfl rfl), (mk_w8 (i := 27) rfl rfl)⟩
theorem md_X11_rests : mk_MD M_X11_rests 4 := ⟨(mk_w5 (i := 43) rfl rfl), (mk_w1 (i := 1) rfl rfl), by decide, by decide, by decide +kernel⟩
theorem mv_X11_rests : mk_MV M_X11_rests := ⟨(mk_w5 (i := 41) rfl rfl), (mk_w5 (i := 42) rfl rfl)⟩
theorem md_X12_rests : mk_MD M_X12_rests 4 := ⟨(mk_w8 (i := 32) rfl rfl), (mk_w1 (i := 12) rfl rfl), by decide, by decide, by decide +kernel⟩
theorem mv_X12_rests : mk_MV M_X12_rests := ⟨(mk_w8 (i := 30) rfl rfl), (mk_w8 (i := 31) rfl rfl)⟩
theorem md_X11_pence : mk_MD M_X11_pence 2 := ⟨(mk_w5 (i := 59) rfl rfl), (mk_w1 (i := 1) rfl rfl), by decide, by decide, by decide +kernel⟩
theorem mv_X11_pence : mk_MV M_X11_pence := ⟨(mk_w5 (i := 57) rfl rfl), (mk_w5 (i := 58) rfl rfl)⟩
theorem md_X12_pence : mk_MD M_X12_pence 2 := ⟨(mk_w8 (i := 45) rfl rfl), (mk_w1 (i := 12) rfl rfl), by decide, by decide, by decide +kernel⟩
theorem mv_X12_pence : mk_MV M_X12_pence := ⟨(mk_w8 (i := 43) rfl rfl), (mk_w8 (i := 44) rfl rfl)⟩
theorem md_X11_note : mk_MD M_X11_note 3 := ⟨(mk_w5 (i := 68) rfl rfl), (mk_w1 (i := 1) rfl rfl), by decide, by decide, by decide +kernel⟩
theorem mv_X11_note : mk_MV M_X11_note := ⟨(mk_w5 (i := 66) rfl rfl), (mk_w5 (i := 67) rfl rfl)⟩
theorem md_X12_note : mk_MD M_X12_note 3 := ⟨(mk_w8 (i := 53) rfl rfl), (mk_w1 (i := 12) rfl rfl), by decide, by decide, by decide +kernel⟩
theorem mv_X12_note : mk_MV M_X12_note := ⟨(mk_w8 (i := 51) rfl rfl), (mk_w8 (i := 52) rfl rfl)⟩
theorem md_X11_ruled : mk_MD M_X11_ruled 1 := ⟨(mk_w5 (i := 76) rfl rfl), (mk_w1 (i := 1) rfl rfl), by decide, by decide, by decide +kernel⟩
theorem mv_X11_ruled : mk_MV M_X11_ruled := ⟨(mk_w5 (i := 74) rfl rfl), (mk_w5 (i := 75) rfl rfl)⟩
theorem md_X12_ruled : mk_MD M_X12_ruled 1 := ⟨(mk_w8 (i := 57) rfl rfl), (mk_w1 (i := 12) rfl rfl), by decide, by decide, by decide +kernel⟩
theorem mv_X12_ruled : mk_MV M_X12_ruled := ⟨(mk_w8 (i := 55) rfl rfl), (mk_w8 (i := 56) rfl rfl)⟩
theorem md_X11_look : mk_MD M_X11_look 2 := ⟨(mk_w5 (i := 101) rfl rfl), (mk_w1 (i := 1) rfl rfl), by decide, by decide, by decide +kernel⟩
theorem mv_X11_look : mk_MV M_X11_look := ⟨(mk_w5 (i := 99) rfl rfl), (mk_w5 (i := 100) rfl rfl)⟩
theorem md_X12_look : mk_MD M_X12_look 2 := ⟨(mk_w8 (i := 65) rfl rfl), (mk_w1 (i := 12) rfl rfl), by decide, by decide, by decide +kernel⟩
theorem mv_X12_look : mk_MV M_X12_look := ⟨(mk_w8 (i := 63) rfl rfl), (mk_w8 (i := 64) rfl rfl)⟩
theorem md_X11_seed : mk_MD M_X11_seed 1 := ⟨(mk_w5 (i := 119) rfl rfl), (mk_w1 (i := 1) rfl rfl), by decide, by decide, by decide +kernel⟩
theorem mv_X11_seed : mk_MV M_X11_seed := ⟨(mk_w5 (i := 117) rfl rfl), (mk_w5 (i := 118) rfl rfl)⟩
theorem md_X12_seed : mk_MD M_X12_seed 1 := ⟨(mk_w8 (i := 73) rfl rfl), (mk_w1 (i := 12) rfl rfl), by decide, by decide, by decide +kernel⟩
theorem mv_X12_seed : mk_MV M_X12_seed := ⟨(mk_w8 (i := 71) rfl rfl), (mk_w8 (i := 72) rfl rfl)⟩
theorem md_X11_notions : mk_MD M_X11_notions 4 := ⟨(mk_w5 (i := 123) rfl rfl), (mk_w1 (i := 1) rfl rfl), by decide, by decide, by decide +kernel⟩
theorem mv_X11_notions : mk_MV M_X11_notions := ⟨(mk_w5 (i := 121) rfl rfl), (mk_w5 (i := 122) rfl rfl)⟩
theorem md_X12_notions : mk_MD M_X12_notions 4 := ⟨(mk_w8 (i := 77) rfl rfl), (mk_w1 (i := 12) rfl rfl), by decide, by decide, by decide +kernel⟩
theorem mv_X12_notions : mk_MV M_X12_notions := ⟨(mk_w8 (i := 75) rfl rfl), (mk_w8 (i := 76) rfl rfl)⟩
theorem md_X11_count : mk_MD M_X11_count 1 := ⟨(mk_w4 (i := 27) rfl rfl), (mk_w1 (i := 1) rfl rfl), by decide, by decide, by decide +kernel⟩
theorem mv_X11_count : mk_MV M_X11_count := ⟨(mk_w4 (i := 25) rfl rfl), (mk_w4 (i := 26) rfl rfl)⟩
theorem md_X12_count : mk_MD M_X12_count 1 := ⟨(mk_w8 (i := 94) rfl rfl), (mk_w1 (i := 12) rfl rfl), by decide, by decide, by decide +kernel⟩
theorem mv_X12_count : mk_MV M_X12_count := ⟨(mk_w8 (i := 92) rfl rfl), (mk_w8 (i := 93) rfl rfl)⟩
theorem md_X11_image : mk_MD M_X11_image 1 := ⟨(mk_w5 (i := 143) rfl rfl), (mk_w1 (i := 1) rfl rfl), by decide, by decide, by decide +kernel⟩
theorem mv_X11_image : mk_MV M_X11_image := ⟨(mk_w5 (i := 141) rfl rfl), (mk_w5 (i := 142) rfl rfl)⟩
theorem md_X12_image : mk_MD M_X12_image 1 := ⟨(mk_w8 (i := 98) rfl rfl), (mk_w1 (i := 12) rfl rfl), by decide, by decide, by decide +kernel⟩
theorem mv_X12_image : mk_MV M_X12_image := ⟨(mk_w8 (i := 96) rfl rfl), (mk_w8 (i := 97) rfl rfl)⟩
theorem md_X11_back : mk_MD M_X11_back 1 := ⟨(mk_w5 (i := 161) rfl rfl), (mk_w1 (i := 1) rfl rfl), by decide, by decide, by decide +kernel⟩
theorem mv_X11_back : mk_MV M_X11_back := ⟨(mk_w5 (i := 159) rfl rfl), (mk_w5 (i := 160) rfl rfl)⟩
theorem md_X12_back : mk_MD M_X12_back 1 := ⟨(mk_w8 (i := 102) rfl rfl), (mk_w1 (i := 12) rfl rfl), by decide, by decide, by decide +kernel⟩
theorem mv_X12_back : mk_MV M_X12_back := ⟨(mk_w8 (i := 100) rfl rfl), (mk_w8 (i := 101) rfl rfl)⟩
theorem md_X11_init : mk_MD M_X11_init 0 := ⟨(mk_w1 (i := 26) rfl rfl), (mk_w1 (i := 1) rfl rfl), by decide, by decide, by decide +kernel⟩
theorem mi_X11_init : Cond.instanceMethod M_X11_init.1 ∈ lw_gw := (mk_w1 (i := 25) rfl rfl)
theorem md_X12_init : mk_MD M_X12_init 0 := ⟨(mk_w5 (i := 166) rfl rfl), (mk_w1 (i := 12) rfl rfl), by decide, by decide, by decide +kernel⟩
theorem mi_X12_init : Cond.instanceMethod M_X12_init.1 ∈ lw_gw := (mk_w5 (i := 165) rfl rfl)
