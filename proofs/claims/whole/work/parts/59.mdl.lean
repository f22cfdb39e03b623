theorem ldl_ok {m : Nat → Nat → Int32} {q : Nat → Nat → Int64} {a n j : Nat} {R : List (Option Nat)} (h : KS[a]? = some (101, n, R)) (hj : j < n) (hn2 : n ≤ 100000) : mk_ldl (KS, m, q) a (nI j) = some (q a j) := by
  unfold mk_ldl
  simp only [h]
  rw [if_pos ⟨trivial, nI_in hj (by omega)⟩, nI_clamp (by omega)]
theorem stl_ok {m : Nat → Nat → Int32} {q : Nat → Nat → Int64} {a n j : Nat} {R : List (Option Nat)} {x : Int64} (h : KS[a]? = some (101, n, R)) (hj : j < n) (hn2 : n ≤ 100000) : mk_stl (KS, m, q) a (nI j) x = some (KS, m, mk_u2 q a j x) := by
  unfold mk_stl
  simp only [h]
  rw [if_pos ⟨trivial, nI_in hj (by omega)⟩, nI_clamp (by omega)]
theorem ldm_997 {m : Nat → Nat → Int32} {q : Nat → Nat → Int64} {j : Nat} (h : j < 10) : mk_ld 100 (KS, m, q) 997 (nI j) = some (m 997 j) := ld_ok kk_997 (by omega) h (by omega)
theorem stm_997 {m : Nat → Nat → Int32} {q : Nat → Nat → Int64} {j : Nat} {x : Int32} (h : j < 10) : mk_st 100 (KS, m, q) 997 (nI j) x = some (KS, mk_u2 m 997 j x, q) := st_ok kk_997 h (by omega)
theorem lnm_997 {m : Nat → Nat → Int32} {q : Nat → Nat → Int64} : mk_len (KS, m, q) 997 = some (nI 10) := len_ok kk_997 (by omega) (by omega)
theorem ldm_998 {m : Nat → Nat → Int32} {q : Nat → Nat → Int64} {j : Nat} (h : j < 6) : mk_ld 100 (KS, m, q) 998 (nI j) = some (m 998 j) := ld_ok kk_998 (by omega) h (by omega)
theorem stm_998 {m : Nat → Nat → Int32} {q : Nat → Nat → Int64} {j : Nat} {x : Int32} (h : j < 6) : mk_st 100 (KS, m, q) 998 (nI j) x = some (KS, mk_u2 m 998 j x, q) := st_ok kk_998 h (by omega)
theorem lnm_998 {m : Nat → Nat → Int32} {q : Nat → Nat → Int64} : mk_len (KS, m, q) 998 = some (nI 6) := len_ok kk_998 (by omega) (by omega)
theorem ldm_999 {m : Nat → Nat → Int32} {q : Nat → Nat → Int64} {j : Nat} (h : j < 6) : mk_ld 100 (KS, m, q) 999 (nI j) = some (m 999 j) := ld_ok kk_999 (by omega) h (by omega)
theorem stm_999 {m : Nat → Nat → Int32} {q : Nat → Nat → Int64} {j : Nat} {x : Int32} (h : j < 6) : mk_st 100 (KS, m, q) 999 (nI j) x = some (KS, mk_u2 m 999 j x, q) := st_ok kk_999 h (by omega)
theorem lnm_999 {m : Nat → Nat → Int32} {q : Nat → Nat → Int64} : mk_len (KS, m, q) 999 = some (nI 6) := len_ok kk_999 (by omega) (by omega)
theorem ldm_1000 {m : Nat → Nat → Int32} {q : Nat → Nat → Int64} {j : Nat} (h : j < 6) : mk_ld 100 (KS, m, q) 1000 (nI j) = some (m 1000 j) := ld_ok kk_1000 (by omega) h (by omega)
theorem stm_1000 {m : Nat → Nat → Int32} {q : Nat → Nat → Int64} {j : Nat} {x : Int32} (h : j < 6) : mk_st 100 (KS, m, q) 1000 (nI j) x = some (KS, mk_u2 m 1000 j x, q) := st_ok kk_1000 h (by omega)
theorem lnm_1000 {m : Nat → Nat → Int32} {q : Nat → Nat → Int64} : mk_len (KS, m, q) 1000 = some (nI 6) := len_ok kk_1000 (by omega) (by omega)
theorem ldm_1001 {m : Nat → Nat → Int32} {q : Nat → Nat → Int64} {j : Nat} (h : j < 6) : mk_ld 100 (KS, m, q) 1001 (nI j) = some (m 1001 j) := ld_ok kk_1001 (by omega) h (by omega)
theorem stm_1001 {m : Nat → Nat → Int32} {q : Nat → Nat → Int64} {j : Nat} {x : Int32} (h : j < 6) : mk_st 100 (KS, m, q) 1001 (nI j) x = some (KS, mk_u2 m 1001 j x, q) := st_ok kk_1001 h (by omega)
theorem lnm_1001 {m : Nat → Nat → Int32} {q : Nat → Nat → Int64} : mk_len (KS, m, q) 1001 = some (nI 6) := len_ok kk_1001 (by omega) (by omega)
theorem ldm_1002 {m : Nat → Nat → Int32} {q : Nat → Nat → Int64} {j : Nat} (h : j < 6) : mk_ld 100 (KS, m, q) 1002 (nI j) = some (m 1002 j) := ld_ok kk_1002 (by omega) h (by omega)
theorem stm_1002 {m : Nat → Nat → Int32} {q : Nat → Nat → Int64} {j : Nat} {x : Int32} (h : j < 6) : mk_st 100 (KS, m, q) 1002 (nI j) x = some (KS, mk_u2 m 1002 j x, q) := st_ok kk_1002 h (by omega)
theorem lnm_1002 {m : Nat → Nat → Int32} {q : Nat → Nat → Int64} : mk_len (KS, m, q) 1002 = some (nI 6) := len_ok kk_1002 (by omega) (by omega)
theorem ldm_1003 {m : Nat → Nat → Int32} {q : Nat → Nat → Int64} {j : Nat} (h : j < 4) : mk_ld 100 (KS, m, q) 1003 (nI j) = some (m 1003 j) := ld_ok kk_1003 (by omega) h (by omega)
theorem stm_1003 {m : Nat → Nat → Int32} {q : Nat → Nat → Int64} {j : Nat} {x : Int32} (h : j < 4) : mk_st 100 (KS, m, q) 1003 (nI j) x = some (KS, mk_u2 m 1003 j x, q) := st_ok kk_1003 h (by omega)
theorem lnm_1003 {m : Nat → Nat → Int32} {q : Nat → Nat → Int64} : mk_len (KS, m, q) 1003 = some (nI 4) := len_ok kk_1003 (by omega) (by omega)
theorem ldm_1004 {m : Nat → Nat → Int32} {q : Nat → Nat → Int64} {j : Nat} (h : j < 36) : mk_ld 100 (KS, m, q) 1004 (nI j) = some (m 1004 j) := ld_ok kk_1004 (by omega) h (by omega)
theorem stm_1004 {m : Nat → Nat → Int32} {q : Nat → Nat → Int64} {j : Nat} {x : Int32} (h : j < 36) : mk_st 100 (KS, m, q) 1004 (nI j) x = some (KS, mk_u2 m 1004 j x, q) := st_ok kk_1004 h (by omega)
theorem lnm_1004 {m : Nat → Nat → Int32} {q : Nat → Nat → Int64} : mk_len (KS, m, q) 1004 = some (nI 36) := len_ok kk_1004 (by omega) (by omega)
theorem ldm_1005 {m : Nat → Nat → Int32} {q : Nat → Nat → Int64} {j : Nat} (h : j < 6) : mk_ld 100 (KS, m, q) 1005 (nI j) = some (m 1005 j) := ld_ok kk_1005 (by omega) h (by omega)
theorem stm_1005 {m : Nat → Nat → Int32} {q : Nat → Nat → Int64} {j : Nat} {x : Int32} (h : j < 6) : mk_st 100 (KS, m, q) 1005 (nI j) x = some (KS, mk_u2 m 1005 j x, q) := st_ok kk_1005 h (by omega)
theorem lnm_1005 {m : Nat → Nat → Int32} {q : Nat → Nat → Int64} : mk_len (KS, m, q) 1005 = some (nI 6) := len_ok kk_1005 (by omega) (by omega)
theorem ldm_1006 {m : Nat → Nat → Int32} {q : Nat → Nat → Int64} {j : Nat} (h : j < 4) : mk_ld 100 (KS, m, q) 1006 (nI j) = some (m 1006 j) := ld_ok kk_1006 (by omega) h (by omega)
theorem stm_1006 {m : Nat → Nat → Int32} {q : Nat → Nat → Int64} {j : Nat} {x : Int32} (h : j < 4) : mk_st 100 (KS, m, q) 1006 (nI j) x = some (KS, mk_u2 m 1006 j x, q) := st_ok kk_1006 h (by omega)
theorem lnm_1006 {m : Nat → Nat → Int32} {q : Nat → Nat → Int64} : mk_len (KS, m, q) 1006 = some (nI 4) := len_ok kk_1006 (by omega) (by omega)
theorem ldm_1007 {m : Nat → Nat → Int32} {q : Nat → Nat → Int64} {j : Nat} (h : j < 4) : mk_ld 100 (KS, m, q) 1007 (nI j) = some (m 1007 j) := ld_ok kk_1007 (by omega) h (by omega)
theorem stm_1007 {m : Nat → Nat → Int32} {q : Nat → Nat → Int64} {j : Nat} {x : Int32} (h : j < 4) : mk_st 100 (KS, m, q) 1007 (nI j) x = some (KS, mk_u2 m 1007 j x, q) := st_ok kk_1007 h (by omega)
theorem lnm_1007 {m : Nat → Nat → Int32} {q : Nat → Nat → Int64} : mk_len (KS, m, q) 1007 = some (nI 4) := len_ok kk_1007 (by omega) (by omega)
theorem ldm_1008 {m : Nat → Nat → Int32} {q : Nat → Nat → Int64} {j : Nat} (h : j < 4) : mk_ld 100 (KS, m, q) 1008 (nI j) = some (m 1008 j) := ld_ok kk_1008 (by omega) h (by omega)
theorem stm_1008 {m : Nat → Nat → Int32} {q : Nat → Nat → Int64} {j : Nat} {x : Int32} (h : j < 4) : mk_st 100 (KS, m, q) 1008 (nI j) x = some (KS, mk_u2 m 1008 j x, q) := st_ok kk_1008 h (by omega)
theorem lnm_1008 {m : Nat → Nat → Int32} {q : Nat → Nat → Int64} : mk_len (KS, m, q) 1008 = some (nI 4) := len_ok kk_1008 (by omega) (by omega)
theorem ldm_1009 {m : Nat → Nat → Int32} {q : Nat → Nat → Int64} {j : Nat} (h : j < 4) : mk_ld 100 (KS, m, q) 1009 (nI j) = some (m 1009 j) := ld_ok kk_1009 (by omega) h (by omega)
theorem stm_1009 {m : Nat → Nat → Int32} {q : Nat → Nat → Int64} {j : Nat} {x : Int32} (h : j < 4) : mk_st 100 (KS, m, q) 1009 (nI j) x = some (KS, mk_u2 m 1009 j x, q) := st_ok kk_1009 h (by omega)
theorem lnm_1009 {m : Nat → Nat → Int32} {q : Nat → Nat → Int64} : mk_len (KS, m, q) 1009 = some (nI 4) := len_ok kk_1009 (by omega) (by omega)
theorem ldm_1010 {m : Nat → Nat → Int32} {q : Nat → Nat → Int64} {j : Nat} (h : j < 10) : mk_ld 100 (KS, m, q) 1010 (nI j) = some (m 1010 j) := ld_ok kk_1010 (by omega) h (by omega)
theorem stm_1010 {m : Nat → Nat → Int32} {q : Nat → Nat → Int64} {j : Nat} {x : Int32} (h : j < 10) : mk_st 100 (KS, m, q) 1010 (nI j) x = some (KS, mk_u2 m 1010 j x, q) := st_ok kk_1010 h (by omega)
theorem lnm_1010 {m : Nat → Nat → Int32} {q : Nat → Nat → Int64} : mk_len (KS, m, q) 1010 = some (nI 10) := len_ok kk_1010 (by omega) (by omega)
theorem ldm_1011 {m : Nat → Nat → Int32} {q : Nat → Nat → Int64} {j : Nat} (h : j < 10) : mk_ld 100 (KS, m, q) 1011 (nI j) = some (m 1011 j) := ld_ok kk_1011 (by omega) h (by omega)
theorem stm_1011 {m : Nat → Nat → Int32} {q : Nat → Nat → Int64} {j : Nat} {x : Int32} (h : j < 10) : mk_st 100 (KS, m, q) 1011 (nI j) x = some (KS, mk_u2 m 1011 j x, q) := st_ok kk_1011 h (by omega)
theorem lnm_1011 {m : Nat → Nat → Int32} {q : Nat → Nat → Int64} : mk_len (KS, m, q) 1011 = some (nI 10) := len_ok kk_1011 (by omega) (by omega)
theorem ldm_1012 {m : Nat → Nat → Int32} {q : Nat → Nat → Int64} {j : Nat} (h : j < 10) : mk_ld 100 (KS, m, q) 1012 (nI j) = some (m 1012 j) := ld_ok kk_1012 (by omega) h (by omega)
theorem stm_1012 {m : Nat → Nat → Int32} {q : Nat → Nat → Int64} {j : Nat} {x : Int32} (h : j < 10) : mk_st 100 (KS, m, q) 1012 (nI j) x = some (KS, mk_u2 m 1012 j x, q) := st_ok kk_1012 h (by omega)
theorem lnm_1012 {m : Nat → Nat → Int32} {q : Nat → Nat → Int64} : mk_len (KS, m, q) 1012 = some (nI 10) := len_ok kk_1012 (by omega) (by omega)
theorem ldm_1013 {m : Nat → Nat → Int32} {q : Nat → Nat → Int64} {j : Nat} (h : j < 6) : mk_ld 100 (KS, m, q) 1013 (nI j) = some (m 1013 j) := ld_ok kk_1013 (by omega) h (by omega)
theorem stm_1013 {m : Nat → Nat → Int32} {q : Nat → Nat → Int64} {j : Nat} {x : Int32} (h : j < 6) : mk_st 100 (KS, m, q) 1013 (nI j) x = some (KS, mk_u2 m 1013 j x, q) := st_ok kk_1013 h (by omega)
theorem lnm_1013 {m : Nat → Nat → Int32} {q : Nat → Nat → Int64} : mk_len (KS, m, q) 1013 = some (nI 6) := len_ok kk_1013 (by omega) (by omega)
theorem ldm_1014 {m : Nat → Nat → Int32} {q : Nat → Nat → Int64} {j : Nat} (h : j < 6) : mk_ld 100 (KS, m, q) 1014 (nI j) = some (m 1014 j) := ld_ok kk_1014 (by omega) h (by omega)
theorem stm_1014 {m : Nat → Nat → Int32} {q : Nat → Nat → Int64} {j : Nat} {x : Int32} (h : j < 6) : mk_st 100 (KS, m, q) 1014 (nI j) x = some (KS, mk_u2 m 1014 j x, q) := st_ok kk_1014 h (by omega)
theorem lnm_1014 {m : Nat → Nat → Int32} {q : Nat → Nat → Int64} : mk_len (KS, m, q) 1014 = some (nI 6) := len_ok kk_1014 (by omega) (by omega)
theorem ldm_1015 {m : Nat → Nat → Int32} {q : Nat → Nat → Int64} {j : Nat} (h : j < 5) : mk_ld 100 (KS, m, q) 1015 (nI j) = some (m 1015 j) := ld_ok kk_1015 (by omega) h (by omega)
theorem stm_1015 {m : Nat → Nat → Int32} {q : Nat → Nat → Int64} {j : Nat} {x : Int32} (h : j < 5) : mk_st 100 (KS, m, q) 1015 (nI j) x = some (KS, mk_u2 m 1015 j x, q) := st_ok kk_1015 h (by omega)
theorem lnm_1015 {m : Nat → Nat → Int32} {q : Nat → Nat → Int64} : mk_len (KS, m, q) 1015 = some (nI 5) := len_ok kk_1015 (by omega) (by omega)
theorem ldm_1016 {m : Nat → Nat → Int32} {q : Nat → Nat → Int64} {j : Nat} (h : j < 6) : mk_ld 100 (KS, m, q) 1016 (nI j) = some (m 1016 j) := ld_ok kk_1016 (by omega) h (by omega)
theorem stm_1016 {m : Nat → Nat → Int32} {q : Nat → Nat → Int64} {j : Nat} {x : Int32} (h : j < 6) : mk_st 100 (KS, m, q) 1016 (nI j) x = some (KS, mk_u2 m 1016 j x, q) := st_ok kk_1016 h (by omega)
theorem lnm_1016 {m : Nat → Nat → Int32} {q : Nat → Nat → Int64} : mk_len (KS, m, q) 1016 = some (nI 6) := len_ok kk_1016 (by omega) (by omega)
theorem ldm_1017 {m : Nat → Nat → Int32} {q : Nat → Nat → Int64} {j : Nat} (h : j < 6) : mk_ld 100 (KS, m, q) 1017 (nI j) = some (m 1017 j) := ld_ok kk_1017 (by omega) h (by omega)
theorem stm_1017 {m : Nat → Nat → Int32} {q : Nat → Nat → Int64} {j : Nat} {x : Int32} (h : j < 6) : mk_st 100 (KS, m, q) 1017 (nI j) x = some (KS, mk_u2 m 1017 j x, q) := st_ok kk_1017 h (by omega)
theorem lnm_1017 {m : Nat → Nat → Int32} {q : Nat → Nat → Int64} : mk_len (KS, m, q) 1017 = some (nI 6) := len_ok kk_1017 (by omega) (by omega)
theorem ldm_1018 {m : Nat → Nat → Int32} {q : Nat → Nat → Int64} {j : Nat} (h : j < 6) : mk_ld 100 (KS, m, q) 1018 (nI j) = some (m 1018 j) := ld_ok kk_1018 (by omega) h (by omega)
theorem stm_1018 {m : Nat → Nat → Int32} {q : Nat → Nat → Int64} {j : Nat} {x : Int32} (h : j < 6) : mk_st 100 (KS, m, q) 1018 (nI j) x = some (KS, mk_u2 m 1018 j x, q) := st_ok kk_1018 h (by omega)
theorem lnm_1018 {m : Nat → Nat → Int32} {q : Nat → Nat → Int64} : mk_len (KS, m, q) 1018 = some (nI 6) := len_ok kk_1018 (by omega) (by omega)
theorem ldm_1019 {m : Nat → Nat → Int32} {q : Nat → Nat → Int64} {j : Nat} (h : j < 4) : mk_ld 100 (KS, m, q) 1019 (nI j) = some (m 1019 j) := ld_ok kk_1019 (by omega) h (by omega)
theorem stm_1019 {m : Nat → Nat → Int32} {q : Nat → Nat → Int64} {j : Nat} {x : Int32} (h : j < 4) : mk_st 100 (KS, m, q) 1019 (nI j) x = some (KS, mk_u2 m 1019 j x, q) := st_ok kk_1019 h (by omega)
theorem lnm_1019 {m : Nat → Nat → Int32} {q : Nat → Nat → Int64} : mk_len (KS, m, q) 1019 = some (nI 4) := len_ok kk_1019 (by omega) (by omega)
theorem ldm_1020 {m : Nat → Nat → Int32} {q : Nat → Nat → Int64} {j : Nat} (h : j < 4) : mk_ld 100 (KS, m, q) 1020 (nI j) = some (m 1020 j) := ld_ok kk_1020 (by omega) h (by omega)
theorem stm_1020 {m : Nat → Nat → Int32} {q : Nat → Nat → Int64} {j : Nat} {x : Int32} (h : j < 4) : mk_st 100 (KS, m, q) 1020 (nI j) x = some (KS, mk_u2 m 1020 j x, q) := st_ok kk_1020 h (by omega)
theorem lnm_1020 {m : Nat → Nat → Int32} {q : Nat → Nat → Int64} : mk_len (KS, m, q) 1020 = some (nI 4) := len_ok kk_1020 (by omega) (by omega)
theorem ldm_1021 {m : Nat → Nat → Int32} {q : Nat → Nat → Int64} {j : Nat} (h : j < 4) : mk_ld 100 (KS, m, q) 1021 (nI j) = some (m 1021 j) := ld_ok kk_1021 (by omega) h (by omega)
theorem stm_1021 {m : Nat → Nat → Int32} {q : Nat → Nat → Int64} {j : Nat} {x : Int32} (h : j < 4) : mk_st 100 (KS, m, q) 1021 (nI j) x = some (KS, mk_u2 m 1021 j x, q) := st_ok kk_1021 h (by omega)
theorem lnm_1021 {m : Nat → Nat → Int32} {q : Nat → Nat → Int64} : mk_len (KS, m, q) 1021 = some (nI 4) := len_ok kk_1021 (by omega) (by omega)
theorem ldm_1022 {m : Nat → Nat → Int32} {q : Nat → Nat → Int64} {j : Nat} (h : j < 4) : mk_ld 100 (KS, m, q) 1022 (nI j) = some (m 1022 j) := ld_ok kk_1022 (by omega) h (by omega)
theorem stm_1022 {m : Nat → Nat → Int32} {q : Nat → Nat → Int64} {j : Nat} {x : Int32} (h : j < 4) : mk_st 100 (KS, m, q) 1022 (nI j) x = some (KS, mk_u2 m 1022 j x, q) := st_ok kk_1022 h (by omega)
theorem lnm_1022 {m : Nat → Nat → Int32} {q : Nat → Nat → Int64} : mk_len (KS, m, q) 1022 = some (nI 4) := len_ok kk_1022 (by omega) (by omega)
theorem ldm_1023 {m : Nat → Nat → Int32} {q : Nat → Nat → Int64} {j : Nat} (h : j < 400) : mk_ld 102 (KS, m, q) 1023 (nI j) = some (m 1023 j) := ld_ok kk_1023 (by omega) h (by omega)
theorem stm_1023 {m : Nat → Nat → Int32} {q : Nat → Nat → Int64} {j : Nat} {x : Int32} (h : j < 400) : mk_st 102 (KS, m, q) 1023 (nI j) x = some (KS, mk_u2 m 1023 j (mk_nar 102 x), q) := st_ok kk_1023 h (by omega)
theorem ldm_1024 {m : Nat → Nat → Int32} {q : Nat → Nat → Int64} {j : Nat} (h : j < 1800) : mk_ld 100 (KS, m, q) 1024 (nI j) = some (m 1024 j) := ld_ok kk_1024 (by omega) h (by omega)
theorem stm_1024 {m : Nat → Nat → Int32} {q : Nat → Nat → Int64} {j : Nat} {x : Int32} (h : j < 1800) : mk_st 100 (KS, m, q) 1024 (nI j) x = some (KS, mk_u2 m 1024 j x, q) := st_ok kk_1024 h (by omega)
theorem lnm_1024 {m : Nat → Nat → Int32} {q : Nat → Nat → Int64} : mk_len (KS, m, q) 1024 = some (nI 1800) := len_ok kk_1024 (by omega) (by omega)
theorem ldm_1025 {m : Nat → Nat → Int32} {q : Nat → Nat → Int64} {j : Nat} (h : j < 1800) : mk_ld 100 (KS, m, q) 1025 (nI j) = some (m 1025 j) := ld_ok kk_1025 (by omega) h (by omega)
theorem stm_1025 {m : Nat → Nat → Int32} {q : Nat → Nat → Int64} {j : Nat} {x : Int32} (h : j < 1800) : mk_st 100 (KS, m, q) 1025 (nI j) x = some (KS, mk_u2 m 1025 j x, q) := st_ok kk_1025 h (by omega)
theorem lnm_1025 {m : Nat → Nat → Int32} {q : Nat → Nat → Int64} : mk_len (KS, m, q) 1025 = some (nI 1800) := len_ok kk_1025 (by omega) (by omega)
theorem ldm_1026 {m : Nat → Nat → Int32} {q : Nat → Nat → Int64} {j : Nat} (h : j < 6) : mk_ld 100 (KS, m, q) 1026 (nI j) = some (m 1026 j) := ld_ok kk_1026 (by omega) h (by omega)
theorem stm_1026 {m : Nat → Nat → Int32} {q : Nat → Nat → Int64} {j : Nat} {x : Int32} (h : j < 6) : mk_st 100 (KS, m, q) 1026 (nI j) x = some (KS, mk_u2 m 1026 j x, q) := st_ok kk_1026 h (by omega)
theorem lnm_1026 {m : Nat → Nat → Int32} {q : Nat → Nat → Int64} : mk_len (KS, m, q) 1026 = some (nI 6) := len_ok kk_1026 (by omega) (by omega)
theorem ldm_1027 {m : Nat → Nat → Int32} {q : Nat → Nat → Int64} {j : Nat} (h : j < 72) : mk_ld 100 (KS, m, q) 1027 (nI j) = some (m 1027 j) := ld_ok kk_1027 (by omega) h (by omega)
theorem stm_1027 {m : Nat → Nat → Int32} {q : Nat → Nat → Int64} {j : Nat} {x : Int32} (h : j < 72) : mk_st 100 (KS, m, q) 1027 (nI j) x = some (KS, mk_u2 m 1027 j x, q) := st_ok kk_1027 h (by omega)
theorem lnm_1027 {m : Nat → Nat → Int32} {q : Nat → Nat → Int64} : mk_len (KS, m, q) 1027 = some (nI 72) := len_ok kk_1027 (by omega) (by omega)
theorem ldm_1028 {m : Nat → Nat → Int32} {q : Nat → Nat → Int64} {j : Nat} (h : j < 72) : mk_ld 100 (KS, m, q) 1028 (nI j) = some (m 1028 j) := ld_ok kk_1028 (by omega) h (by omega)
theorem stm_1028 {m : Nat → Nat → Int32} {q : Nat → Nat → Int64} {j : Nat} {x : Int32} (h : j < 72) : mk_st 100 (KS, m, q) 1028 (nI j) x = some (KS, mk_u2 m 1028 j x, q) := st_ok kk_1028 h (by omega)
theorem lnm_1028 {m : Nat → Nat → Int32} {q : Nat → Nat → Int64} : mk_len (KS, m, q) 1028 = some (nI 72) := len_ok kk_1028 (by omega) (by omega)
theorem ldm_1029 {m : Nat → Nat → Int32} {q : Nat → Nat → Int64} {j : Nat} (h : j < 72) : mk_ld 100 (KS, m, q) 1029 (nI j) = some (m 1029 j) := ld_ok kk_1029 (by omega) h (by omega)
theorem stm_1029 {m : Nat → Nat → Int32} {q : Nat → Nat → Int64} {j : Nat} {x : Int32} (h : j < 72) : mk_st 100 (KS, m, q) 1029 (nI j) x = some (KS, mk_u2 m 1029 j x, q) := st_ok kk_1029 h (by omega)
theorem lnm_1029 {m : Nat → Nat → Int32} {q : Nat → Nat → Int64} : mk_len (KS, m, q) 1029 = some (nI 72) := len_ok kk_1029 (by omega) (by omega)
theorem ldm_1030 {m : Nat → Nat → Int32} {q : Nat → Nat → Int64} {j : Nat} (h : j < 402) : mk_ld 100 (KS, m, q) 1030 (nI j) = some (m 1030 j) := ld_ok kk_1030 (by omega) h (by omega)
theorem stm_1030 {m : Nat → Nat → Int32} {q : Nat → Nat → Int64} {j : Nat} {x : Int32} (h : j < 402) : mk_st 100 (KS, m, q) 1030 (nI j) x = some (KS, mk_u2 m 1030 j x, q) := st_ok kk_1030 h (by omega)
theorem lnm_1030 {m : Nat → Nat → Int32} {q : Nat → Nat → Int64} : mk_len (KS, m, q) 1030 = some (nI 402) := len_ok kk_1030 (by omega) (by omega)
theorem ldm_1031 {m : Nat → Nat → Int32} {q : Nat → Nat → Int64} {j : Nat} (h : j < 12) : mk_ldl (KS, m, q) 1031 (nI j) = some (q 1031 j) := ldl_ok kk_1031 h (by omega)
theorem stm_1031 {m : Nat → Nat → Int32} {q : Nat → Nat → Int64} {j : Nat} {x : Int64} (h : j < 12) : mk_stl (KS, m, q) 1031 (nI j) x = some (KS, m, mk_u2 q 1031 j x) := stl_ok kk_1031 h (by omega)
theorem ldm_1032 {m : Nat → Nat → Int32} {q : Nat → Nat → Int64} {j : Nat} (h : j < 300) : mk_ldl (KS, m, q) 1032 (nI j) = some (q 1032 j) := ldl_ok kk_1032 h (by omega)
theorem stm_1032 {m : Nat → Nat → Int32} {q : Nat → Nat → Int64} {j : Nat} {x : Int64} (h : j < 300) : mk_stl (KS, m, q) 1032 (nI j) x = some (KS, m, mk_u2 q 1032 j x) := stl_ok kk_1032 h (by omega)
theorem ldm_1033 {m : Nat → Nat → Int32} {q : Nat → Nat → Int64} {j : Nat} (h : j < 1440) : mk_ld 100 (KS, m, q) 1033 (nI j) = some (m 1033 j) := ld_ok kk_1033 (by omega) h (by omega)
theorem stm_1033 {m : Nat → Nat → Int32} {q : Nat → Nat → Int64} {j : Nat} {x : Int32} (h : j < 1440) : mk_st 100 (KS, m, q) 1033 (nI j) x = some (KS, mk_u2 m 1033 j x, q) := st_ok kk_1033 h (by omega)
theorem lnm_1033 {m : Nat → Nat → Int32} {q : Nat → Nat → Int64} : mk_len (KS, m, q) 1033 = some (nI 1440) := len_ok kk_1033 (by omega) (by omega)
theorem ldm_1034 {m : Nat → Nat → Int32} {q : Nat → Nat → Int64} {j : Nat} (h : j < 1) : mk_ld 100 (KS, m, q) 1034 (nI j) = some (m 1034 j) := ld_ok kk_1034 (by omega) h (by omega)
theorem stm_1034 {m : Nat → Nat → Int32} {q : Nat → Nat → Int64} {j : Nat} {x : Int32} (h : j < 1) : mk_st 100 (KS, m, q) 1034 (nI j) x = some (KS, mk_u2 m 1034 j x, q) := st_ok kk_1034 h (by omega)
theorem lnm_1034 {m : Nat → Nat → Int32} {q : Nat → Nat → Int64} : mk_len (KS, m, q) 1034 = some (nI 1) := len_ok kk_1034 (by omega) (by omega)
theorem ldm_1035 {m : Nat → Nat → Int32} {q : Nat → Nat → Int64} {j : Nat} (h : j < 16) : mk_ld 100 (KS, m, q) 1035 (nI j) = some (m 1035 j) := ld_ok kk_1035 (by omega) h (by omega)
theorem stm_1035 {m : Nat → Nat → Int32} {q : Nat → Nat → Int64} {j : Nat} {x : Int32} (h : j < 16) : mk_st 100 (KS, m, q) 1035 (nI j) x = some (KS, mk_u2 m 1035 j x, q) := st_ok kk_1035 h (by omega)
theorem lnm_1035 {m : Nat → Nat → Int32} {q : Nat → Nat → Int64} : mk_len (KS, m, q) 1035 = some (nI 16) := len_ok kk_1035 (by omega) (by omega)
theorem ldm_1036 {m : Nat → Nat → Int32} {q : Nat → Nat → Int64} {j : Nat} (h : j < 16) : mk_ld 100 (KS, m, q) 1036 (nI j) = some (m 1036 j) := ld_ok kk_1036 (by omega) h (by omega)
theorem stm_1036 {m : Nat → Nat → Int32} {q : Nat → Nat → Int64} {j : Nat} {x : Int32} (h : j < 16) : mk_st 100 (KS, m, q) 1036 (nI j) x = some (KS, mk_u2 m 1036 j x, q) := st_ok kk_1036 h (by omega)
theorem lnm_1036 {m : Nat → Nat → Int32} {q : Nat → Nat → Int64} : mk_len (KS, m, q) 1036 = some (nI 16) := len_ok kk_1036 (by omega) (by omega)
theorem ldm_1037 {m : Nat → Nat → Int32} {q : Nat → Nat → Int64} {j : Nat} (h : j < 2196) : mk_ld 100 (KS, m, q) 1037 (nI j) = some (m 1037 j) := ld_ok kk_1037 (by omega) h (by omega)
theorem stm_1037 {m : Nat → Nat → Int32} {q : Nat → Nat → Int64} {j : Nat} {x : Int32} (h : j < 2196) : mk_st 100 (KS, m, q) 1037 (nI j) x = some (KS, mk_u2 m 1037 j x, q) := st_ok kk_1037 h (by omega)
theorem lnm_1037 {m : Nat → Nat → Int32} {q : Nat → Nat → Int64} : mk_len (KS, m, q) 1037 = some (nI 2196) := len_ok kk_1037 (by omega) (by omega)
theorem ldm_1038 {m : Nat → Nat → Int32} {q : Nat → Nat → Int64} {j : Nat} (h : j < 252) : mk_ld 100 (KS, m, q) 1038 (nI j) = some (m 1038 j) := ld_ok kk_1038 (by omega) h (by omega)
theorem stm_1038 {m : Nat → Nat → Int32} {q : Nat → Nat → Int64} {j : Nat} {x : Int32} (h : j < 252) : mk_st 100 (KS, m, q) 1038 (nI j) x = some (KS, mk_u2 m 1038 j x, q) := st_ok kk_1038 h (by omega)
theorem lnm_1038 {m : Nat → Nat → Int32} {q : Nat → Nat → Int64} : mk_len (KS, m, q) 1038 = some (nI 252) := len_ok kk_1038 (by omega) (by omega)
theorem ldm_1039 {m : Nat → Nat → Int32} {q : Nat → Nat → Int64} {j : Nat} (h : j < 8500) : mk_ld 100 (KS, m, q) 1039 (nI j) = some (m 1039 j) := ld_ok kk_1039 (by omega) h (by omega)
theorem stm_1039 {m : Nat → Nat → Int32} {q : Nat → Nat → Int64} {j : Nat} {x : Int32} (h : j < 8500) : mk_st 100 (KS, m, q) 1039 (nI j) x = some (KS, mk_u2 m 1039 j x, q) := st_ok kk_1039 h (by omega)
theorem lnm_1039 {m : Nat → Nat → Int32} {q : Nat → Nat → Int64} : mk_len (KS, m, q) 1039 = some (nI 8500) := len_ok kk_1039 (by omega) (by omega)
theorem ldm_1040 {m : Nat → Nat → Int32} {q : Nat → Nat → Int64} {j : Nat} (h : j < 4) : mk_ld 103 (KS, m, q) 1040 (nI j) = some (m 1040 j) := ld_ok kk_1040 (by omega) h (by omega)
theorem stm_1040 {m : Nat → Nat → Int32} {q : Nat → Nat → Int64} {j : Nat} {x : Int32} (h : j < 4) : mk_st 103 (KS, m, q) 1040 (nI j) x = some (KS, mk_u2 m 1040 j (mk_nar 103 x), q) := st_ok kk_1040 h (by omega)
theorem ldc_2 {m : Nat → Nat → Int32} {q : Nat → Nat → Int64} {j : Nat} (h : j < 400) : mk_ld 100 (KS, m, q) 2 (nI j) = some (m 2 j) := ld_ok kk_2 (by omega) h (by omega)
theorem stc_2 {m : Nat → Nat → Int32} {q : Nat → Nat → Int64} {j : Nat} {x : Int32} (h : j < 400) : mk_st 100 (KS, m, q) 2 (nI j) x = some (KS, mk_u2 m 2 j x, q) := st_ok kk_2 h (by omega)
theorem lnc_2 {m : Nat → Nat → Int32} {q : Nat → Nat → Int64} : mk_len (KS, m, q) 2 = some (nI 400) := len_ok kk_2 (by omega) (by omega)
theorem ldc_4 {m : Nat → Nat → Int32} {q : Nat → Nat → Int64} {j : Nat} (h : j < 400) : mk_ld 100 (KS, m, q) 4 (nI j) = some (m 4 j) := ld_ok kk_4 (by omega) h (by omega)
theorem stc_4 {m : Nat → Nat → Int32} {q : Nat → Nat → Int64} {j : Nat} {x : Int32} (h : j < 400) : mk_st 100 (KS, m, q) 4 (nI j) x = some (KS, mk_u2 m 4 j x, q) := st_ok kk_4 h (by omega)
theorem lnc_4 {m : Nat → Nat → Int32} {q : Nat → Nat → Int64} : mk_len (KS, m, q) 4 = some (nI 400) := len_ok kk_4 (by omega) (by omega)
theorem ldc_6 {m : Nat → Nat → Int32} {q : Nat → Nat → Int64} {j : Nat} (h : j < 6) : mk_ld 100 (KS, m, q) 6 (nI j) = some (m 6 j) := ld_ok kk_6 (by omega) h (by omega)
theorem stc_6 {m : Nat → Nat → Int32} {q : Nat → Nat → Int64} {j : Nat} {x : Int32} (h : j < 6) : mk_st 100 (KS, m, q) 6 (nI j) x = some (KS, mk_u2 m 6 j x, q) := st_ok kk_6 h (by omega)
theorem lnc_6 {m : Nat → Nat → Int32} {q : Nat → Nat → Int64} : mk_len (KS, m, q) 6 = some (nI 6) := len_ok kk_6 (by omega) (by omega)
theorem ldc_7 {m : Nat → Nat → Int32} {q : Nat → Nat → Int64} {j : Nat} (h : j < 6) : mk_ld 100 (KS, m, q) 7 (nI j) = some (m 7 j) := ld_ok kk_7 (by omega) h (by omega)
theorem stc_7 {m : Nat → Nat → Int32} {q : Nat → Nat → Int64} {j : Nat} {x : Int32} (h : j < 6) : mk_st 100 (KS, m, q) 7 (nI j) x = some (KS, mk_u2 m 7 j x, q) := st_ok kk_7 h (by omega)
theorem lnc_7 {m : Nat → Nat → Int32} {q : Nat → Nat → Int64} : mk_len (KS, m, q) 7 = some (nI 6) := len_ok kk_7 (by omega) (by omega)
theorem ldc_8 {m : Nat → Nat → Int32} {q : Nat → Nat → Int64} {j : Nat} (h : j < 6) : mk_ld 100 (KS, m, q) 8 (nI j) = some (m 8 j) := ld_ok kk_8 (by omega) h (by omega)
theorem stc_8 {m : Nat → Nat → Int32} {q : Nat → Nat → Int64} {j : Nat} {x : Int32} (h : j < 6) : mk_st 100 (KS, m, q) 8 (nI j) x = some (KS, mk_u2 m 8 j x, q) := st_ok kk_8 h (by omega)
theorem lnc_8 {m : Nat → Nat → Int32} {q : Nat → Nat → Int64} : mk_len (KS, m, q) 8 = some (nI 6) := len_ok kk_8 (by omega) (by omega)
theorem ldc_9 {m : Nat → Nat → Int32} {q : Nat → Nat → Int64} {j : Nat} (h : j < 4) : mk_ld 100 (KS, m, q) 9 (nI j) = some (m 9 j) := ld_ok kk_9 (by omega) h (by omega)
theorem stc_9 {m : Nat → Nat → Int32} {q : Nat → Nat → Int64} {j : Nat} {x : Int32} (h : j < 4) : mk_st 100 (KS, m, q) 9 (nI j) x = some (KS, mk_u2 m 9 j x, q) := st_ok kk_9 h (by omega)
theorem lnc_9 {m : Nat → Nat → Int32} {q : Nat → Nat → Int64} : mk_len (KS, m, q) 9 = some (nI 4) := len_ok kk_9 (by omega) (by omega)
theorem ldc_10 {m : Nat → Nat → Int32} {q : Nat → Nat → Int64} {j : Nat} (h : j < 4) : mk_ld 100 (KS, m, q) 10 (nI j) = some (m 10 j) := ld_ok kk_10 (by omega) h (by omega)
theorem stc_10 {m : Nat → Nat → Int32} {q : Nat → Nat → Int64} {j : Nat} {x : Int32} (h : j < 4) : mk_st 100 (KS, m, q) 10 (nI j) x = some (KS, mk_u2 m 10 j x, q) := st_ok kk_10 h (by omega)
theorem lnc_10 {m : Nat → Nat → Int32} {q : Nat → Nat → Int64} : mk_len (KS, m, q) 10 = some (nI 4) := len_ok kk_10 (by omega) (by omega)
theorem ldc_11 {m : Nat → Nat → Int32} {q : Nat → Nat → Int64} {j : Nat} (h : j < 4) : mk_ld 100 (KS, m, q) 11 (nI j) = some (m 11 j) := ld_ok kk_11 (by omega) h (by omega)
theorem stc_11 {m : Nat → Nat → Int32} {q : Nat → Nat → Int64} {j : Nat} {x : Int32} (h : j < 4) : mk_st 100 (KS, m, q) 11 (nI j) x = some (KS, mk_u2 m 11 j x, q) := st_ok kk_11 h (by omega)
theorem lnc_11 {m : Nat → Nat → Int32} {q : Nat → Nat → Int64} : mk_len (KS, m, q) 11 = some (nI 4) := len_ok kk_11 (by omega) (by omega)
theorem ldc_12 {m : Nat → Nat → Int32} {q : Nat → Nat → Int64} {j : Nat} (h : j < 4) : mk_ld 100 (KS, m, q) 12 (nI j) = some (m 12 j) := ld_ok kk_12 (by omega) h (by omega)
theorem stc_12 {m : Nat → Nat → Int32} {q : Nat → Nat → Int64} {j : Nat} {x : Int32} (h : j < 4) : mk_st 100 (KS, m, q) 12 (nI j) x = some (KS, mk_u2 m 12 j x, q) := st_ok kk_12 h (by omega)
theorem lnc_12 {m : Nat → Nat → Int32} {q : Nat → Nat → Int64} : mk_len (KS, m, q) 12 = some (nI 4) := len_ok kk_12 (by omega) (by omega)
theorem ldc_199 {m : Nat → Nat → Int32} {q : Nat → Nat → Int64} {j : Nat} (h : j < 12) : mk_ldl (KS, m, q) 199 (nI j) = some (q 199 j) := ldl_ok kk_199 h (by omega)
theorem stc_199 {m : Nat → Nat → Int32} {q : Nat → Nat → Int64} {j : Nat} {x : Int64} (h : j < 12) : mk_stl (KS, m, q) 199 (nI j) x = some (KS, m, mk_u2 q 199 j x) := stl_ok kk_199 h (by omega)
theorem ldc_208 {m : Nat → Nat → Int32} {q : Nat → Nat → Int64} {j : Nat} (h : j < 36) : mk_ld 100 (KS, m, q) 208 (nI j) = some (m 208 j) := ld_ok kk_208 (by omega) h (by omega)
theorem stc_208 {m : Nat → Nat → Int32} {q : Nat → Nat → Int64} {j : Nat} {x : Int32} (h : j < 36) : mk_st 100 (KS, m, q) 208 (nI j) x = some (KS, mk_u2 m 208 j x, q) := st_ok kk_208 h (by omega)
theorem lnc_208 {m : Nat → Nat → Int32} {q : Nat → Nat → Int64} : mk_len (KS, m, q) 208 = some (nI 36) := len_ok kk_208 (by omega) (by omega)
theorem ldc_209 {m : Nat → Nat → Int32} {q : Nat → Nat → Int64} {j : Nat} (h : j < 6) : mk_ld 100 (KS, m, q) 209 (nI j) = some (m 209 j) := ld_ok kk_209 (by omega) h (by omega)
theorem stc_209 {m : Nat → Nat → Int32} {q : Nat → Nat → Int64} {j : Nat} {x : Int32} (h : j < 6) : mk_st 100 (KS, m, q) 209 (nI j) x = some (KS, mk_u2 m 209 j x, q) := st_ok kk_209 h (by omega)
theorem lnc_209 {m : Nat → Nat → Int32} {q : Nat → Nat → Int64} : mk_len (KS, m, q) 209 = some (nI 6) := len_ok kk_209 (by omega) (by omega)
theorem ldc_210 {m : Nat → Nat → Int32} {q : Nat → Nat → Int64} {j : Nat} (h : j < 16) : mk_ld 100 (KS, m, q) 210 (nI j) = some (m 210 j) := ld_ok kk_210 (by omega) h (by omega)
theorem stc_210 {m : Nat → Nat → Int32} {q : Nat → Nat → Int64} {j : Nat} {x : Int32} (h : j < 16) : mk_st 100 (KS, m, q) 210 (nI j) x = some (KS, mk_u2 m 210 j x, q) := st_ok kk_210 h (by omega)
theorem lnc_210 {m : Nat → Nat → Int32} {q : Nat → Nat → Int64} : mk_len (KS, m, q) 210 = some (nI 16) := len_ok kk_210 (by omega) (by omega)
theorem ldc_211 {m : Nat → Nat → Int32} {q : Nat → Nat → Int64} {j : Nat} (h : j < 16) : mk_ld 100 (KS, m, q) 211 (nI j) = some (m 211 j) := ld_ok kk_211 (by omega) h (by omega)
theorem stc_211 {m : Nat → Nat → Int32} {q : Nat → Nat → Int64} {j : Nat} {x : Int32} (h : j < 16) : mk_st 100 (KS, m, q) 211 (nI j) x = some (KS, mk_u2 m 211 j x, q) := st_ok kk_211 h (by omega)
theorem lnc_211 {m : Nat → Nat → Int32} {q : Nat → Nat → Int64} : mk_len (KS, m, q) 211 = some (nI 16) := len_ok kk_211 (by omega) (by omega)
theorem ldc_263 {m : Nat → Nat → Int32} {q : Nat → Nat → Int64} {j : Nat} (h : j < 4) : mk_ld 103 (KS, m, q) 263 (nI j) = some (m 263 j) := ld_ok kk_263 (by omega) h (by omega)
theorem stc_263 {m : Nat → Nat → Int32} {q : Nat → Nat → Int64} {j : Nat} {x : Int32} (h : j < 4) : mk_st 103 (KS, m, q) 263 (nI j) x = some (KS, mk_u2 m 263 j (mk_nar 103 x), q) := st_ok kk_263 h (by omega)
theorem pim_27 {m : Nat → Nat → Int32} {q : Nat → Nat → Int64} {v : Int32} : mk_pi (KS, m, q) 996 11 27 v = some (KS, mk_u2 m 996 27 v, q) := pi_ok kk_996 rfl (Nat.le_of_ble_eq_true rfl)
theorem pim_28 {m : Nat → Nat → Int32} {q : Nat → Nat → Int64} {v : Int32} : mk_pi (KS, m, q) 996 11 28 v = some (KS, mk_u2 m 996 28 v, q) := pi_ok kk_996 rfl (Nat.le_of_ble_eq_true rfl)
theorem pim_29 {m : Nat → Nat → Int32} {q : Nat → Nat → Int64} {v : Int32} : mk_pi (KS, m, q) 996 11 29 v = some (KS, mk_u2 m 996 29 v, q) := pi_ok kk_996 rfl (Nat.le_of_ble_eq_true rfl)
theorem pim_30 {m : Nat → Nat → Int32} {q : Nat → Nat → Int64} {v : Int32} : mk_pi (KS, m, q) 996 11 30 v = some (KS, mk_u2 m 996 30 v, q) := pi_ok kk_996 rfl (Nat.le_of_ble_eq_true rfl)
theorem pim_31 {m : Nat → Nat → Int32} {q : Nat → Nat → Int64} {v : Int32} : mk_pi (KS, m, q) 996 11 31 v = some (KS, mk_u2 m 996 31 v, q) := pi_ok kk_996 rfl (Nat.le_of_ble_eq_true rfl)
theorem pim_32 {m : Nat → Nat → Int32} {q : Nat → Nat → Int64} {v : Int32} : mk_pi (KS, m, q) 996 11 32 v = some (KS, mk_u2 m 996 32 v, q) := pi_ok kk_996 rfl (Nat.le_of_ble_eq_true rfl)
theorem pim_33 {m : Nat → Nat → Int32} {q : Nat → Nat → Int64} {v : Int32} : mk_pi (KS, m, q) 996 11 33 v = some (KS, mk_u2 m 996 33 v, q) := pi_ok kk_996 rfl (Nat.le_of_ble_eq_true rfl)
theorem pim_34 {m : Nat → Nat → Int32} {q : Nat → Nat → Int64} {v : Int32} : mk_pi (KS, m, q) 996 11 34 v = some (KS, mk_u2 m 996 34 v, q) := pi_ok kk_996 rfl (Nat.le_of_ble_eq_true rfl)
theorem pim_35 {m : Nat → Nat → Int32} {q : Nat → Nat → Int64} {v : Int32} : mk_pi (KS, m, q) 996 11 35 v = some (KS, mk_u2 m 996 35 v, q) := pi_ok kk_996 rfl (Nat.le_of_ble_eq_true rfl)
theorem pim_36 {m : Nat → Nat → Int32} {q : Nat → Nat → Int64} {v : Int32} : mk_pi (KS, m, q) 996 11 36 v = some (KS, mk_u2 m 996 36 v, q) := pi_ok kk_996 rfl (Nat.le_of_ble_eq_true rfl)
theorem pim_47 {m : Nat → Nat → Int32} {q : Nat → Nat → Int64} {v : Int32} : mk_pi (KS, m, q) 996 11 47 v = some (KS, mk_u2 m 996 47 v, q) := pi_ok kk_996 rfl (Nat.le_of_ble_eq_true rfl)
theorem pim_50 {m : Nat → Nat → Int32} {q : Nat → Nat → Int64} {v : Int32} : mk_pi (KS, m, q) 996 11 50 v = some (KS, mk_u2 m 996 50 v, q) := pi_ok kk_996 rfl (Nat.le_of_ble_eq_true rfl)
theorem pim_51 {m : Nat → Nat → Int32} {q : Nat → Nat → Int64} {v : Int32} : mk_pi (KS, m, q) 996 11 51 v = some (KS, mk_u2 m 996 51 v, q) := pi_ok kk_996 rfl (Nat.le_of_ble_eq_true rfl)
theorem pim_52 {m : Nat → Nat → Int32} {q : Nat → Nat → Int64} {v : Int32} : mk_pi (KS, m, q) 996 11 52 v = some (KS, mk_u2 m 996 52 v, q) := pi_ok kk_996 rfl (Nat.le_of_ble_eq_true rfl)
theorem pim_53 {m : Nat → Nat → Int32} {q : Nat → Nat → Int64} {v : Int32} : mk_pi (KS, m, q) 996 11 53 v = some (KS, mk_u2 m 996 53 v, q) := pi_ok kk_996 rfl (Nat.le_of_ble_eq_true rfl)
theorem pim_54 {m : Nat → Nat → Int32} {q : Nat → Nat → Int64} {v : Int32} : mk_pi (KS, m, q) 996 11 54 v = some (KS, mk_u2 m 996 54 v, q) := pi_ok kk_996 rfl (Nat.le_of_ble_eq_true rfl)
theorem pim_55 {m : Nat → Nat → Int32} {q : Nat → Nat → Int64} {v : Int32} : mk_pi (KS, m, q) 996 11 55 v = some (KS, mk_u2 m 996 55 v, q) := pi_ok kk_996 rfl (Nat.le_of_ble_eq_true rfl)
theorem pim_62 {m : Nat → Nat → Int32} {q : Nat → Nat → Int64} {v : Int32} : mk_pi (KS, m, q) 996 11 62 v = some (KS, mk_u2 m 996 62 v, q) := pi_ok kk_996 rfl (Nat.le_of_ble_eq_true rfl)
theorem pim_63 {m : Nat → Nat → Int32} {q : Nat → Nat → Int64} {v : Int32} : mk_pi (KS, m, q) 996 11 63 v = some (KS, mk_u2 m 996 63 v, q) := pi_ok kk_996 rfl (Nat.le_of_ble_eq_true rfl)
theorem gam_1 {m : Nat → Nat → Int32} {q : Nat → Nat → Int64} : mk_ga (KS, m, q) 996 11 1 = some 997 := ga_ok kk_996 rfl (Nat.le_of_ble_eq_true rfl) rfl
theorem gam_2 {m : Nat → Nat → Int32} {q : Nat → Nat → Int64} : mk_ga (KS, m, q) 996 11 2 = some 998 := ga_ok kk_996 rfl (Nat.le_of_ble_eq_true rfl) rfl
theorem gam_3 {m : Nat → Nat → Int32} {q : Nat → Nat → Int64} : mk_ga (KS, m, q) 996 11 3 = some 999 := ga_ok kk_996 rfl (Nat.le_of_ble_eq_true rfl) rfl
theorem gam_4 {m : Nat → Nat → Int32} {q : Nat → Nat → Int64} : mk_ga (KS, m, q) 996 11 4 = some 1000 := ga_ok kk_996 rfl (Nat.le_of_ble_eq_true rfl) rfl
theorem gam_5 {m : Nat → Nat → Int32} {q : Nat → Nat → Int64} : mk_ga (KS, m, q) 996 11 5 = some 1001 := ga_ok kk_996 rfl (Nat.le_of_ble_eq_true rfl) rfl
theorem gam_6 {m : Nat → Nat → Int32} {q : Nat → Nat → Int64} : mk_ga (KS, m, q) 996 11 6 = some 1002 := ga_ok kk_996 rfl (Nat.le_of_ble_eq_true rfl) rfl
theorem gam_7 {m : Nat → Nat → Int32} {q : Nat → Nat → Int64} : mk_ga (KS, m, q) 996 11 7 = some 1003 := ga_ok kk_996 rfl (Nat.le_of_ble_eq_true rfl) rfl
theorem gam_8 {m : Nat → Nat → Int32} {q : Nat → Nat → Int64} : mk_ga (KS, m, q) 996 11 8 = some 1004 := ga_ok kk_996 rfl (Nat.le_of_ble_eq_true rfl) rfl
theorem gam_9 {m : Nat → Nat → Int32} {q : Nat → Nat → Int64} : mk_ga (KS, m, q) 996 11 9 = some 1005 := ga_ok kk_996 rfl (Nat.le_of_ble_eq_true rfl) rfl
theorem gam_10 {m : Nat → Nat → Int32} {q : Nat → Nat → Int64} : mk_ga (KS, m, q) 996 11 10 = some 1006 := ga_ok kk_996 rfl (Nat.le_of_ble_eq_true rfl) rfl
theorem gam_11 {m : Nat → Nat → Int32} {q : Nat → Nat → Int64} : mk_ga (KS, m, q) 996 11 11 = some 1007 := ga_ok kk_996 rfl (Nat.le_of_ble_eq_true rfl) rfl
theorem gam_12 {m : Nat → Nat → Int32} {q : Nat → Nat → Int64} : mk_ga (KS, m, q) 996 11 12 = some 1008 := ga_ok kk_996 rfl (Nat.le_of_ble_eq_true rfl) rfl
theorem gam_13 {m : Nat → Nat → Int32} {q : Nat → Nat → Int64} : mk_ga (KS, m, q) 996 11 13 = some 1009 := ga_ok kk_996 rfl (Nat.le_of_ble_eq_true rfl) rfl
theorem gam_14 {m : Nat → Nat → Int32} {q : Nat → Nat → Int64} : mk_ga (KS, m, q) 996 11 14 = some 1010 := ga_ok kk_996 rfl (Nat.le_of_ble_eq_true rfl) rfl
theorem gam_15 {m : Nat → Nat → Int32} {q : Nat → Nat → Int64} : mk_ga (KS, m, q) 996 11 15 = some 1011 := ga_ok kk_996 rfl (Nat.le_of_ble_eq_true rfl) rfl
theorem gam_16 {m : Nat → Nat → Int32} {q : Nat → Nat → Int64} : mk_ga (KS, m, q) 996 11 16 = some 1012 := ga_ok kk_996 rfl (Nat.le_of_ble_eq_true rfl) rfl
theorem gam_17 {m : Nat → Nat → Int32} {q : Nat → Nat → Int64} : mk_ga (KS, m, q) 996 11 17 = some 1013 := ga_ok kk_996 rfl (Nat.le_of_ble_eq_true rfl) rfl
theorem gam_18 {m : Nat → Nat → Int32} {q : Nat → Nat → Int64} : mk_ga (KS, m, q) 996 11 18 = some 1014 := ga_ok kk_996 rfl (Nat.le_of_ble_eq_true rfl) rfl
theorem gam_19 {m : Nat → Nat → Int32} {q : Nat → Nat → Int64} : mk_ga (KS, m, q) 996 11 19 = some 1015 := ga_ok kk_996 rfl (Nat.le_of_ble_eq_true rfl) rfl
theorem gam_20 {m : Nat → Nat → Int32} {q : Nat → Nat → Int64} : mk_ga (KS, m, q) 996 11 20 = some 1016 := ga_ok kk_996 rfl (Nat.le_of_ble_eq_true rfl) rfl
theorem gam_21 {m : Nat → Nat → Int32} {q : Nat → Nat → Int64} : mk_ga (KS, m, q) 996 11 21 = some 1017 := ga_ok kk_996 rfl (Nat.le_of_ble_eq_true rfl) rfl
theorem gam_22 {m : Nat → Nat → Int32} {q : Nat → Nat → Int64} : mk_ga (KS, m, q) 996 11 22 = some 1018 := ga_ok kk_996 rfl (Nat.le_of_ble_eq_true rfl) rfl
theorem gam_23 {m : Nat → Nat → Int32} {q : Nat → Nat → Int64} : mk_ga (KS, m, q) 996 11 23 = some 1019 := ga_ok kk_996 rfl (Nat.le_of_ble_eq_true rfl) rfl
theorem gam_24 {m : Nat → Nat → Int32} {q : Nat → Nat → Int64} : mk_ga (KS, m, q) 996 11 24 = some 1020 := ga_ok kk_996 rfl (Nat.le_of_ble_eq_true rfl) rfl
theorem gam_25 {m : Nat → Nat → Int32} {q : Nat → Nat → Int64} : mk_ga (KS, m, q) 996 11 25 = some 1021 := ga_ok kk_996 rfl (Nat.le_of_ble_eq_true rfl) rfl
theorem gam_26 {m : Nat → Nat → Int32} {q : Nat → Nat → Int64} : mk_ga (KS, m, q) 996 11 26 = some 1022 := ga_ok kk_996 rfl (Nat.le_of_ble_eq_true rfl) rfl
theorem gam_37 {m : Nat → Nat → Int32} {q : Nat → Nat → Int64} : mk_ga (KS, m, q) 996 11 37 = some 1023 := ga_ok kk_996 rfl (Nat.le_of_ble_eq_true rfl) rfl
theorem gam_38 {m : Nat → Nat → Int32} {q : Nat → Nat → Int64} : mk_ga (KS, m, q) 996 11 38 = some 1024 := ga_ok kk_996 rfl (Nat.le_of_ble_eq_true rfl) rfl
theorem gam_39 {m : Nat → Nat → Int32} {q : Nat → Nat → Int64} : mk_ga (KS, m, q) 996 11 39 = some 1025 := ga_ok kk_996 rfl (Nat.le_of_ble_eq_true rfl) rfl
theorem gam_40 {m : Nat → Nat → Int32} {q : Nat → Nat → Int64} : mk_ga (KS, m, q) 996 11 40 = some 1026 := ga_ok kk_996 rfl (Nat.le_of_ble_eq_true rfl) rfl
theorem gam_41 {m : Nat → Nat → Int32} {q : Nat → Nat → Int64} : mk_ga (KS, m, q) 996 11 41 = some 1027 := ga_ok kk_996 rfl (Nat.le_of_ble_eq_true rfl) rfl
theorem gam_42 {m : Nat → Nat → Int32} {q : Nat → Nat → Int64} : mk_ga (KS, m, q) 996 11 42 = some 1028 := ga_ok kk_996 rfl (Nat.le_of_ble_eq_true rfl) rfl
theorem gam_43 {m : Nat → Nat → Int32} {q : Nat → Nat → Int64} : mk_ga (KS, m, q) 996 11 43 = some 1029 := ga_ok kk_996 rfl (Nat.le_of_ble_eq_true rfl) rfl
theorem gam_44 {m : Nat → Nat → Int32} {q : Nat → Nat → Int64} : mk_ga (KS, m, q) 996 11 44 = some 1030 := ga_ok kk_996 rfl (Nat.le_of_ble_eq_true rfl) rfl
theorem gam_45 {m : Nat → Nat → Int32} {q : Nat → Nat → Int64} : mk_ga (KS, m, q) 996 11 45 = some 1031 := ga_ok kk_996 rfl (Nat.le_of_ble_eq_true rfl) rfl
theorem gam_46 {m : Nat → Nat → Int32} {q : Nat → Nat → Int64} : mk_ga (KS, m, q) 996 11 46 = some 1032 := ga_ok kk_996 rfl (Nat.le_of_ble_eq_true rfl) rfl
theorem gam_48 {m : Nat → Nat → Int32} {q : Nat → Nat → Int64} : mk_ga (KS, m, q) 996 11 48 = some 1033 := ga_ok kk_996 rfl (Nat.le_of_ble_eq_true rfl) rfl
theorem gam_49 {m : Nat → Nat → Int32} {q : Nat → Nat → Int64} : mk_ga (KS, m, q) 996 11 49 = some 1034 := ga_ok kk_996 rfl (Nat.le_of_ble_eq_true rfl) rfl
theorem gam_56 {m : Nat → Nat → Int32} {q : Nat → Nat → Int64} : mk_ga (KS, m, q) 996 11 56 = some 1035 := ga_ok kk_996 rfl (Nat.le_of_ble_eq_true rfl) rfl
theorem gam_57 {m : Nat → Nat → Int32} {q : Nat → Nat → Int64} : mk_ga (KS, m, q) 996 11 57 = some 1036 := ga_ok kk_996 rfl (Nat.le_of_ble_eq_true rfl) rfl
theorem gam_58 {m : Nat → Nat → Int32} {q : Nat → Nat → Int64} : mk_ga (KS, m, q) 996 11 58 = some 1037 := ga_ok kk_996 rfl (Nat.le_of_ble_eq_true rfl) rfl
theorem gam_59 {m : Nat → Nat → Int32} {q : Nat → Nat → Int64} : mk_ga (KS, m, q) 996 11 59 = some 1038 := ga_ok kk_996 rfl (Nat.le_of_ble_eq_true rfl) rfl
theorem gam_60 {m : Nat → Nat → Int32} {q : Nat → Nat → Int64} : mk_ga (KS, m, q) 996 11 60 = some 1039 := ga_ok kk_996 rfl (Nat.le_of_ble_eq_true rfl) rfl
theorem gam_61 {m : Nat → Nat → Int32} {q : Nat → Nat → Int64} : mk_ga (KS, m, q) 996 11 61 = some 1040 := ga_ok kk_996 rfl (Nat.le_of_ble_eq_true rfl) rfl
theorem gim_27 {m : Nat → Nat → Int32} {q : Nat → Nat → Int64} : mk_gi (KS, m, q) 996 11 27 = some (m 996 27) := gi_ok kk_996 rfl (Nat.le_of_ble_eq_true rfl)
theorem gim_28 {m : Nat → Nat → Int32} {q : Nat → Nat → Int64} : mk_gi (KS, m, q) 996 11 28 = some (m 996 28) := gi_ok kk_996 rfl (Nat.le_of_ble_eq_true rfl)
theorem gim_29 {m : Nat → Nat → Int32} {q : Nat → Nat → Int64} : mk_gi (KS, m, q) 996 11 29 = some (m 996 29) := gi_ok kk_996 rfl (Nat.le_of_ble_eq_true rfl)
theorem gim_30 {m : Nat → Nat → Int32} {q : Nat → Nat → Int64} : mk_gi (KS, m, q) 996 11 30 = some (m 996 30) := gi_ok kk_996 rfl (Nat.le_of_ble_eq_true rfl)
theorem gim_31 {m : Nat → Nat → Int32} {q : Nat → Nat → Int64} : mk_gi (KS, m, q) 996 11 31 = some (m 996 31) := gi_ok kk_996 rfl (Nat.le_of_ble_eq_true rfl)
theorem gim_32 {m : Nat → Nat → Int32} {q : Nat → Nat → Int64} : mk_gi (KS, m, q) 996 11 32 = some (m 996 32) := gi_ok kk_996 rfl (Nat.le_of_ble_eq_true rfl)
theorem gim_33 {m : Nat → Nat → Int32} {q : Nat → Nat → Int64} : mk_gi (KS, m, q) 996 11 33 = some (m 996 33) := gi_ok kk_996 rfl (Nat.le_of_ble_eq_true rfl)
theorem gim_34 {m : Nat → Nat → Int32} {q : Nat → Nat → Int64} : mk_gi (KS, m, q) 996 11 34 = some (m 996 34) := gi_ok kk_996 rfl (Nat.le_of_ble_eq_true rfl)
theorem gim_35 {m : Nat → Nat → Int32} {q : Nat → Nat → Int64} : mk_gi (KS, m, q) 996 11 35 = some (m 996 35) := gi_ok kk_996 rfl (Nat.le_of_ble_eq_true rfl)
theorem gim_36 {m : Nat → Nat → Int32} {q : Nat → Nat → Int64} : mk_gi (KS, m, q) 996 11 36 = some (m 996 36) := gi_ok kk_996 rfl (Nat.le_of_ble_eq_true rfl)
theorem gim_47 {m : Nat → Nat → Int32} {q : Nat → Nat → Int64} : mk_gi (KS, m, q) 996 11 47 = some (m 996 47) := gi_ok kk_996 rfl (Nat.le_of_ble_eq_true rfl)
theorem gim_50 {m : Nat → Nat → Int32} {q : Nat → Nat → Int64} : mk_gi (KS, m, q) 996 11 50 = some (m 996 50) := gi_ok kk_996 rfl (Nat.le_of_ble_eq_true rfl)
theorem gim_51 {m : Nat → Nat → Int32} {q : Nat → Nat → Int64} : mk_gi (KS, m, q) 996 11 51 = some (m 996 51) := gi_ok kk_996 rfl (Nat.le_of_ble_eq_true rfl)
theorem gim_52 {m : Nat → Nat → Int32} {q : Nat → Nat → Int64} : mk_gi (KS, m, q) 996 11 52 = some (m 996 52) := gi_ok kk_996 rfl (Nat.le_of_ble_eq_true rfl)
theorem gim_53 {m : Nat → Nat → Int32} {q : Nat → Nat → Int64} : mk_gi (KS, m, q) 996 11 53 = some (m 996 53) := gi_ok kk_996 rfl (Nat.le_of_ble_eq_true rfl)
theorem gim_54 {m : Nat → Nat → Int32} {q : Nat → Nat → Int64} : mk_gi (KS, m, q) 996 11 54 = some (m 996 54) := gi_ok kk_996 rfl (Nat.le_of_ble_eq_true rfl)
theorem gim_55 {m : Nat → Nat → Int32} {q : Nat → Nat → Int64} : mk_gi (KS, m, q) 996 11 55 = some (m 996 55) := gi_ok kk_996 rfl (Nat.le_of_ble_eq_true rfl)
theorem gim_62 {m : Nat → Nat → Int32} {q : Nat → Nat → Int64} : mk_gi (KS, m, q) 996 11 62 = some (m 996 62) := gi_ok kk_996 rfl (Nat.le_of_ble_eq_true rfl)
theorem gim_63 {m : Nat → Nat → Int32} {q : Nat → Nat → Int64} : mk_gi (KS, m, q) 996 11 63 = some (m 996 63) := gi_ok kk_996 rfl (Nat.le_of_ble_eq_true rfl)
theorem pzm_52 {m : Nat → Nat → Int32} {q : Nat → Nat → Int64} {v : Int32} (h : v = nI 0 ∨ v = nI 1) : mk_pz (KS, m, q) 996 11 52 v = some (KS, mk_u2 m 996 52 v, q) := by
  unfold mk_pz
  exact (if_pos h).trans (pi_ok kk_996 rfl (Nat.le_of_ble_eq_true rfl))
theorem pzm_63 {m : Nat → Nat → Int32} {q : Nat → Nat → Int64} {v : Int32} (h : v = nI 0 ∨ v = nI 1) : mk_pz (KS, m, q) 996 11 63 v = some (KS, mk_u2 m 996 63 v, q) := by
  unfold mk_pz
  exact (if_pos h).trans (pi_ok kk_996 rfl (Nat.le_of_ble_eq_true rfl))
theorem gdm {β : Type} {m : Nat → Nat → Int32} {q : Nat → Nat → Int64} {o : Option β} : mk_gd (KS, m, q) 996 11 o = o := gd_ok kk_996 rfl
theorem u2_s {β : Type} {f : Nat → Nat → β} {a k : Nat} {v : β} : mk_u2 f a k v a k = v := by
  unfold mk_u2 va_up
  simp
theorem u2_a {β : Type} {f : Nat → Nat → β} {a k i j : Nat} {v : β} (h : i ≠ a) : mk_u2 f a k v i j = f i j := congrFun (mk_u2_ne h) j
theorem u2_b {β : Type} {f : Nat → Nat → β} {a k i j : Nat} {v : β} (h : j ≠ k) : mk_u2 f a k v i j = f i j := by
  unfold mk_u2 va_up
  by_cases e : i = a
  · subst e; simp [h]
  · simp [e]
theorem u2_k {β : Type} {f : Nat → Nat → β} {a k i j : Nat} {v : β} (h : i = a) (h2 : j = k) : mk_u2 f a k v i j = v := by
  subst h; subst h2; exact u2_s
