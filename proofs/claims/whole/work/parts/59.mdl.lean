theorem ldl_ok {m : Nat → Nat → Int32} {q : Nat → Nat → Int64} {a n j : Nat} {R : List (Option Nat)} (h : KS[a]? = some (101, n, R)) (hj : j < n) (hn2 : n ≤ 100000) : mk_ldl (KS, m, q) a (nI j) = some (q a j) := by
  unfold mk_ldl
  simp only [h]
  rw [if_pos ⟨trivial, nI_in hj (by omega)⟩, nI_clamp (by omega)]
theorem stl_ok {m : Nat → Nat → Int32} {q : Nat → Nat → Int64} {a n j : Nat} {R : List (Option Nat)} {x : Int64} (h : KS[a]? = some (101, n, R)) (hj : j < n) (hn2 : n ≤ 100000) : mk_stl (KS, m, q) a (nI j) x = some (KS, m, mk_u2 q a j x) := by
  unfold mk_stl
  simp only [h]
  rw [if_pos ⟨trivial, nI_in hj (by omega)⟩, nI_clamp (by omega)]
theorem ldm_997 {m : Nat → Nat → Int32} {q : Nat → Nat → Int64} {j : Nat} (h : j < 10) : mk_ld 100 (KS, m, q) 997 (nI j) = some (m 997 j) := ld_ok kk_997 (by omega) h (by omega)
theorem stm_997 {m : Nat → Nat → Int32} {q : Nat → Nat → Int64} {j : Nat} {x : Int32} (h : j < 10) : mk_st 100 (KS, m, q) 997 (nI j) x = some (KS, mk_u2 m 997 j x, q) := st_ok kk_997 h (by omega)
theorem lnm_997 {m : Nat → Nat → Int32} {q : Nat → Nat → Int64} : mk_len (KS, m, q) 997 = some (nI 10) := len_ok kk_997 (by omega) (by omega)
theorem ldm_998 {m : Nat → Nat → Int32} {q : Nat → Nat → Int64} {j : Nat} (h : j < 6) : mk_ld 100 (KS, m, q) 998 (nI j) = some (m 998 j) := ld_ok kk_998 (by omega) h (by omega)
theorem stm_998 {m : Nat → Nat → Int32} {q : Nat → Nat → Int64} {j : Nat} {x : Int32} (h : j < 6) : mk_st 100 (KS, m, q) 998 (nI j) x = some (KS, mk_u2 m 998 j x, q) := st_ok kk_998 h (by omega)
theorem lnm_998 {m : Nat → Nat → Int32} {q : Nat → Nat → Int64} : mk_len (KS, m, q) 998 = some (nI 6) := len_ok kk_998 (by omega) (by omega)
theorem ldm_999 {m : Nat → Nat → Int32} {q : Nat → Nat → Int64} {j : Nat} (h : j < 6) : mk_ld 100 (KS, m, q) 999 (nI j) = some (m 999 j) := ld_ok kk_999 (by omega) h (by omega)
theorem stm_999 {m : Nat → Nat → Int32} {q : Nat → Nat → Int64} {j : Nat} {x : Int32} (h : j < 6) : mk_st 100 (KS, m, q) 999 (nI j) x = some (KS, mk_u2 m 999 j x, q) := st_ok kk_999 h (by omega)
theorem lnm_999 {m : Nat → Nat → Int32} {q : Nat → Nat → Int64} : mk_len (KS, m, q) 999 = some (nI 6) := len_ok kk_999 (by omega) (by omega)
theorem ldm_1000 {m : Nat → Nat → Int32} {q : Nat → Nat → Int64} {j : Nat} (h : j < 6) : mk_ld 100 (KS, m, q) 1000 (nI j) = some (m 1000 j) := ld_ok kk_1000 (by omega) h (by omega)
theorem stm_1000 {m : Nat → Nat → Int32} {q : Nat → Nat → Int64} {j : Nat} {x : Int32} (h : j < 6) : mk_st 100 (KS, m, q) 1000 (nI j) x = some (KS, mk_u2 m 1000 j x, q) := st_ok kk_1000 h (by omega)
theorem lnm_1000 {m : Nat → Nat → Int32} {q : Nat → Nat → Int64} : mk_len (KS, m, q) 1000 = some (nI 6) := len_ok kk_1000 (by omega) (by omega)
theorem ldm_1001 {m : Nat → Nat → Int32} {q : Nat → Nat → Int64} {j : Nat} (h : j < 6) : mk_ld 100 (KS, m, q) 1001 (nI j) = some (m 1001 j) := ld_ok kk_1001 (by omega) h (by omega)
theorem stm_1001 {m : Nat → Nat → Int32} {q : Nat → Nat → Int64} {j : Nat} {x : Int32} (h : j < 6) : mk_st 100 (KS, m, q) 1001 (nI j) x = some (KS, mk_u2 m 1001 j x, q) := st_ok kk_1001 h (by omega)
theorem lnm_1001 {m : Nat → Nat → Int32} {q : Nat → Nat → Int64} : mk_len (KS, m, q) 1001 = some (nI 6) := len_ok kk_1001 (by omega) (by omega)
theorem ldm_1002 {m : Nat → Nat → Int32} {q : Nat → Nat → Int64} {j : Nat} (h : j < 6) : mk_ld 100 (KS, m, q) 1002 (nI j) = some (m 1002 j) := ld_ok kk_1002 (by omega) h (by omega)
theorem stm_1002 {m : Nat → Nat → Int32} {q : Nat → Nat → Int64} {j : Nat} {x : Int32} (h : j < 6) : mk_st 100 (KS, m, q) 1002 (nI j) x = some (KS, mk_u2 m 1002 j x, q) := st_ok kk_1002 h (by omega)
theorem lnm_1002 {m : Nat → Nat → Int32} {q : Nat → Nat → Int64} : mk_len (KS, m, q) 1002 = some (nI 6) := len_ok kk_1002 (by omega) (by omega)
theorem ldm_1003 {m : Nat → Nat → Int32} {q : Nat → Nat → Int64} {j : Nat} (h : j < 4) : mk_ld 100 (KS, m, q) 1003 (nI j) = some (m 1003 j) := ld_ok kk_1003 (by omega) h (by omega)
theorem stm_1003 {m : Nat → Nat → Int32} {q : Nat → Nat → Int64} {j : Nat} {x : Int32} (h : j < 4) : mk_st 100 (KS, m, q) 1003 (nI j) x = some (KS, mk_u2 m 1003 j x, q) := st_ok kk_1003 h (by omega)
theorem lnm_1003 {m : Nat → Nat → Int32} {q : Nat → Nat → Int64} : mk_len (KS, m, q) 1003 = some (nI 4) := len_ok kk_1003 (by omega) (by omega)
theorem ldm_1004 {m : Nat → Nat → Int32} {q : Nat → Nat → Int64} {j : Nat} (h : j < 36) : mk_ld 100 (KS, m, q) 1004 (nI j) = some (m 1004 j) := ld_ok kk_1004 (by omega) h (by omega)
theorem stm_1004 {m : Nat → Nat → Int32} {q : Nat → Nat → Int64} {j : Nat} {x : Int32} (h : j < 36) : mk_st 100 (KS, m, q) 1004 (nI j) x = some (KS, mk_u2 m 1004 j x, q) := st_ok kk_1004 h (by omega)
theorem lnm_1004 {m : Nat → Nat → Int32} {q : Nat → Nat → Int64} : mk_len (KS, m, q) 1004 = some (nI 36) := len_ok kk_1004 (by omega) (by omega)
theorem ldm_1005 {m : Nat → Nat → Int32} {q : Nat → Nat → Int64} {j : Nat} (h : j < 6) : mk_ld 100 (KS, m, q) 1005 (nI j) = some (m 1005 j) := ld_ok kk_1005 (by omega) h (by omega)
theorem stm_1005 {m : Nat → Nat → Int32} {q : Nat → Nat → Int64} {j : Nat} {x : Int32} (h : j < 6) : mk_st 100 (KS, m, q) 1005 (nI j) x = some (KS, mk_u2 m 1005 j x, q) := st_ok kk_1005 h (by omega)
theorem lnm_1005 {m : Nat → Nat → Int32} {q : Nat → Nat → Int64} : mk_len (KS, m, q) 1005 = some (nI 6) := len_ok kk_1005 (by omega) (by omega)
theorem ldm_1006 {m : Nat → Nat → Int32} {q : Nat → Nat → Int64} {j : Nat} (h : j < 4) : mk_ld 100 (KS, m, q) 1006 (nI j) = some (m 1006 j) := ld_ok kk_1006 (by omega) h (by omega)
theorem stm_1006 {m : Nat → Nat → Int32} {q : Nat → Nat → Int64} {j : Nat} {x : Int32} (h : j < 4) : mk_st 100 (KS, m, q) 1006 (nI j) x = some (KS, mk_u2 m 1006 j x, q) := st_ok kk_1006 h (by omega)
theorem lnm_1006 {m : Nat → Nat → Int32} {q : Nat → Nat → Int64} : mk_len (KS, m, q) 1006 = some (nI 4) := len_ok kk_1006 (by omega) (by omega)
theorem ldm_1007 {m : Nat → Nat → Int32} {q : Nat → Nat → Int64} {j : Nat} (h : j < 4) : mk_ld 100 (KS, m, q) 1007 (nI j) = some (m 1007 j) := ld_ok kk_1007 (by omega) h (by omega)
theorem stm_1007 {m : Nat → Nat → Int32} {q : Nat → Nat → Int64} {j : Nat} {x : Int32} (h : j < 4) : mk_st 100 (KS, m, q) 1007 (nI j) x = some (KS, mk_u2 m 1007 j x, q) := st_ok kk_1007 h (by omega)
theorem lnm_1007 {m : Nat → Nat → Int32} {q : Nat → Nat → Int64} : mk_len (KS, m, q) 1007 = some (nI 4) := len_ok kk_1007 (by omega) (by omega)
theorem ldm_1008 {m : Nat → Nat → Int32} {q : Nat → Nat → Int64} {j : Nat} (h : j < 4) : mk_ld 100 (KS, m, q) 1008 (nI j) = some (m 1008 j) := ld_ok kk_1008 (by omega) h (by omega)
theorem stm_1008 {m : Nat → Nat → Int32} {q : Nat → Nat → Int64} {j : Nat} {x : Int32} (h : j < 4) : mk_st 100 (KS, m, q) 1008 (nI j) x = some (KS, mk_u2 m 1008 j x, q) := st_ok kk_1008 h (by omega)
theorem lnm_1008 {m : Nat → Nat → Int32} {q : Nat → Nat → Int64} : mk_len (KS, m, q) 1008 = some (nI 4) := len_ok kk_1008 (by omega) (by omega)
theorem ldm_1009 {m : Nat → Nat → Int32} {q : Nat → Nat → Int64} {j : Nat} (h : j < 4) : mk_ld 100 (KS, m, q) 1009 (nI j) = some (m 1009 j) := ld_ok kk_1009 (by omega) h (by omega)
theorem stm_1009 {m : Nat → Nat → Int32} {q : Nat → Nat → Int64} {j : Nat} {x : Int32} (h : j < 4) : mk_st 100 (KS, m, q) 1009 (nI j) x = some (KS, mk_u2 m 1009 j x, q) := st_ok kk_1009 h (by omega)
theorem lnm_1009 {m : Nat → Nat → Int32} {q : Nat → Nat → Int64} : mk_len (KS, m, q) 1009 = some (nI 4) := len_ok kk_1009 (by omega) (by omega)
theorem ldm_1010 {m : Nat → Nat → Int32} {q : Nat → Nat → Int64} {j : Nat} (h : j < 10) : mk_ld 100 (KS, m, q) 1010 (nI j) = some (m 1010 j) := ld_ok kk_1010 (by omega) h (by omega)
theorem stm_1010 {m : Nat → Nat → Int32} {q : Nat → Nat → Int64} {j : Nat} {x : Int32} (h : j < 10) : mk_st 100 (KS, m, q) 1010 (nI j) x = some (KS, mk_u2 m 1010 j x, q) := st_ok kk_1010 h (by omega)
theorem lnm_1010 {m : Nat → Nat → Int32} {q : Nat → Nat → Int64} : mk_len (KS, m, q) 1010 = some (nI 10) := len_ok kk_1010 (by omega) (by omega)
theorem ldm_1011 {m : Nat → Nat → Int32} {q : Nat → Nat → Int64} {j : Nat} (h : j < 10) : mk_ld 100 (KS, m, q) 1011 (nI j) = some (m 1011 j) := ld_ok kk_1011 (by omega) h (by omega)
theorem stm_1011 {m : Nat → Nat → Int32} {q : Nat → Nat → Int64} {j : Nat} {x : Int32} (h : j < 10) : mk_st 100 (KS, m, q) 1011 (nI j) x = some (KS, mk_u2 m 1011 j x, q) := st_ok kk_1011 h (by omega)
theorem lnm_1011 {m : Nat → Nat → Int32} {q : Nat → Nat → Int64} : mk_len (KS, m, q) 1011 = some (nI 10) := len_ok kk_1011 (by omega) (by omega)
theorem ldm_1012 {m : Nat → Nat → Int32} {q : Nat → Nat → Int64} {j : Nat} (h : j < 10) : mk_ld 100 (KS, m, q) 1012 (nI j) = some (m 1012 j) := ld_ok kk_1012 (by omega) h (by omega)
theorem stm_1012 {m : Nat → Nat → Int32} {q : Nat → Nat → Int64} {j : Nat} {x : Int32} (h : j < 10) : mk_st 100 (KS, m, q) 1012 (nI j) x = some (KS, mk_u2 m 1012 j x, q) := st_ok kk_1012 h (by omega)
theorem lnm_1012 {m : Nat → Nat → Int32} {q : Nat → Nat → Int64} : mk_len (KS, m, q) 1012 = some (nI 10) := len_ok kk_1012 (by omega) (by omega)
theorem ldm_1013 {m : Nat → Nat → Int32} {q : Nat → Nat → Int64} {j : Nat} (h : j < 6) : mk_ld 100 (KS, m, q) 1013 (nI j) = some (m 1013 j) := ld_ok kk_1013 (by omega) h (by omega)
theorem stm_1013 {m : Nat → Nat → Int32} {q : Nat → Nat → Int64} {j : Nat} {x : Int32} (h : j < 6) : mk_st 100 (KS, m, q) 1013 (nI j) x = some (KS, mk_u2 m 1013 j x, q) := st_ok kk_1013 h (by omega)
theorem lnm_1013 {m : Nat → Nat → Int32} {q : Nat → Nat → Int64} : mk_len (KS, m, q) 1013 = some (nI 6) := len_ok kk_1013 (by omega) (by omega)
theorem ldm_1014 {m : Nat → Nat → Int32} {q : Nat → Nat → Int64} {j : Nat} (h : j < 6) : mk_ld 100 (KS, m, q) 1014 (nI j) = some (m 1014 j) := ld_ok kk_1014 (by omega) h (by omega)
theorem stm_1014 {m : Nat → Nat → Int32} {q : Nat → Nat → Int64} {j : Nat} {x : Int32} (h : j < 6) : mk_st 100 (KS, m, q) 1014 (nI j) x = some (KS, mk_u2 m 1014 j x, q) := st_ok kk_1014 h (by omega)
theorem lnm_1014 {m : Nat → Nat → Int32} {q : Nat → Nat → Int64} : mk_len (KS, m, q) 1014 = some (nI 6) := len_ok kk_1014 (by omega) (by omega)
theorem ldm_1015 {m : Nat → Nat → Int32} {q : Nat → Nat → Int64} {j : Nat} (h : j < 5) : mk_ld 100 (KS, m, q) 1015 (nI j) = some (m 1015 j) := ld_ok kk_1015 (by omega) h (by omega)
theorem stm_1015 {m : Nat → Nat → Int32} {q : Nat → Nat → Int64} {j : Nat} {x : Int32} (h : j < 5) : mk_st 100 (KS, m, q) 1015 (nI j) x = some (KS, mk_u2 m 1015 j x, q) := st_ok kk_1015 h (by omega)
theorem lnm_1015 {m : Nat → Nat → Int32} {q : Nat → Nat → Int64} : mk_len (KS, m, q) 1015 = some (nI 5) := len_ok kk_1015 (by omega) (by omega)
theorem ldm_1016 {m : Nat → Nat → Int32} {q : Nat → Nat → Int64} {j : Nat} (h : j < 6) : mk_ld 100 (KS, m, q) 1016 (nI j) = some (m 1016 j) := ld_ok kk_1016 (by omega) h (by omega)
theorem stm_1016 {m : Nat → Nat → Int32} {q : Nat → Nat → Int64} {j : Nat} {x : Int32} (h : j < 6) : mk_st 100 (KS, m, q) 1016 (nI j) x = some (KS, mk_u2 m 1016 j x, q) := st_ok kk_1016 h (by omega)
theorem lnm_1016 {m : Nat → Nat → Int32} {q : Nat → Nat → Int64} : mk_len (KS, m, q) 1016 = some (nI 6) := len_ok kk_1016 (by omega) (by omega)
theorem ldm_1017 {m : Nat → Nat → Int32} {q : Nat → Nat → Int64} {j : Nat} (h : j < 6) : mk_ld 100 (KS, m, q) 1017 (nI j) = some (m 1017 j) := ld_ok kk_1017 (by omega) h (by omega)
theorem stm_1017 {m : Nat → Nat → Int32} {q : Nat → Nat → Int64} {j : Nat} {x : Int32} (h : j < 6) : mk_st 100 (KS, m, q) 1017 (nI j) x = some (KS, mk_u2 m 1017 j x, q) := st_ok kk_1017 h (by omega)
theorem lnm_1017 {m : Nat → Nat → Int32} {q : Nat → Nat → Int64} : mk_len (KS, m, q) 1017 = some (nI 6) := len_ok kk_1017 (by omega) (by omega)
theorem ldm_1018 {m : Nat → Nat → Int32} {q : Nat → Nat → Int64} {j : Nat} (h : j < 6) : mk_ld 100 (KS, m, q) 1018 (nI j) = some (m 1018 j) := ld_ok kk_1018 (by omega) h (by omega)
theorem stm_1018 {m : Nat → Nat → Int32} {q : Nat → Nat → Int64} {j : Nat} {x : Int32} (h : j < 6) : mk_st 100 (KS, m, q) 1018 (nI j) x = some (KS, mk_u2 m 1018 j x, q) := st_ok kk_1018 h (by omega)
theorem lnm_1018 {m : Nat → Nat → Int32} {q : Nat → Nat → Int64} : mk_len (KS, m, q) 1018 = some (nI 6) := len_ok kk_1018 (by omega) (by omega)
theorem ldm_1019 {m : Nat → Nat → Int32} {q : Nat → Nat → Int64} {j : Nat} (h : j < 4) : mk_ld 100 (KS, m, q) 1019 (nI j) = some (m 1019 j) := ld_ok kk_1019 (by omega) h (by omega)
theorem stm_1019 {m : Nat → Nat → Int32} {q : Nat → Nat → Int64} {j : Nat} {x : Int32} (h : j < 4) : mk_st 100 (KS, m, q) 1019 (nI j) x = some (KS, mk_u2 m 1019 j x, q) := st_ok kk_1019 h (by omega)
theorem lnm_1019 {m : Nat → Nat → Int32} {q : Nat → Nat → Int64} : mk_len (KS, m, q) 1019 = some (nI 4) := len_ok kk_1019 (by omega) (by omega)
theorem ldm_1020 {m : Nat → Nat → Int32} {q : Nat → Nat → Int64} {j : Nat} (h : j < 4) : mk_ld 100 (KS, m, q) 1020 (nI j) = some (m 1020 j) := ld_ok kk_1020 (by omega) h (by omega)
theorem stm_1020 {m : Nat → Nat → Int32} {q : Nat → Nat → Int64} {j : Nat} {x : Int32} (h : j < 4) : mk_st 100 (KS, m, q) 1020 (nI j) x = some (KS, mk_u2 m 1020 j x, q) := st_ok kk_1020 h (by omega)
theorem lnm_1020 {m : Nat → Nat → Int32} {q : Nat → Nat → Int64} : mk_len (KS, m, q) 1020 = some (nI 4) := len_ok kk_1020 (by omega) (by omega)
theorem ldm_1021 {m : Nat → Nat → Int32} {q : Nat → Nat → Int64} {j : Nat} (h : j < 4) : mk_ld 100 (KS, m, q) 1021 (nI j) = some (m 1021 j) := ld_ok kk_1021 (by omega) h (by omega)
theorem stm_1021 {m : Nat → Nat → Int32} {q : Nat → Nat → Int64} {j : Nat} {x : Int32} (h : j < 4) : mk_st 100 (KS, m, q) 1021 (nI j) x = some (KS, mk_u2 m 1021 j x, q) := st_ok kk_1021 h (by omega)
theorem lnm_1021 {m : Nat → Nat → Int32} {q : Nat → Nat → Int64} : mk_len (KS, m, q) 1021 = some (nI 4) := len_ok kk_1021 (by omega) (by omega)
theorem ldm_1022 {m : Nat → Nat → Int32} {q : Nat → Nat → Int64} {j : Nat} (h : j < 4) : mk_ld 100 (KS, m, q) 1022 (nI j) = some (m 1022 j) := ld_ok kk_1022 (by omega) h (by omega)
theorem stm_1022 {m : Nat → Nat → Int32} {q : Nat → Nat → Int64} {j : Nat} {x : Int32} (h : j < 4) : mk_st 100 (KS, m, q) 1022 (nI j) x = some (KS, mk_u2 m 1022 j x, q) := st_ok kk_1022 h (by omega)
theorem lnm_1022 {m : Nat → Nat → Int32} {q : Nat → Nat → Int64} : mk_len (KS, m, q) 1022 = some (nI 4) := len_ok kk_1022 (by omega) (by omega)
theorem ldm_1023 {m : Nat → Nat → Int32} {q : Nat → Nat → Int64} {j : Nat} (h : j < 400) : mk_ld 102 (KS, m, q) 1023 (nI j) = some (m 1023 j) := ld_ok kk_1023 (by omega) h (by omega)
theorem stm_1023 {m : Nat → Nat → Int32} {q : Nat → Nat → Int64} {j : Nat} {x : Int32} (h : j < 400) : mk_st 102 (KS, m, q) 1023 (nI j) x = some (KS, mk_u2 m 1023 j (mk_nar 102 x), q) := st_ok kk_1023 h (by omega)
theorem ldm_1024 {m : Nat → Nat → Int32} {q : Nat → Nat → Int64} {j : Nat} (h : j < 1800) : mk_ld 100 (KS, m, q) 1024 (nI j) = some (m 1024 j) := ld_ok kk_1024 (by omega) h (by omega)
theorem stm_1024 {m : Nat → Nat → Int32} {q : Nat → Nat → Int64} {j : Nat} {x : Int32} (h : j < 1800) : mk_st 100 (KS, m, q) 1024 (nI j) x = some (KS, mk_u2 m 1024 j x, q) := st_ok kk_1024 h (by omega)
theorem lnm_1024 {m : Nat → Nat → Int32} {q : Nat → Nat → Int64} : mk_len (KS, m, q) 1024 = some (nI 1800) := len_ok kk_1024 (by omega) (by omega)
theorem ldm_1025 {m : Nat → Nat → Int32} {q : Nat → Nat → Int64} {j : Nat} (h : j < 1800) : mk_ld 100 (KS, m, q) 1025 (nI j) = some (m 1025 j) := ld_ok kk_1025 (by omega) h (by omega)
theorem stm_1025 {m : Nat → Nat → Int32} {q : Nat → Nat → Int64} {j : Nat} {x : Int32} (h : j < 1800) : mk_st 100 (KS, m, q) 1025 (nI j) x = some (KS, mk_u2 m 1025 j x, q) := st_ok kk_1025 h (by omega)
theorem lnm_1025 {m : Nat → Nat → Int32} {q : Nat → Nat → Int64} : mk_len (KS, m, q) 1025 = some (nI 1800) := len_ok kk_1025 (by omega) (by omega)
theorem ldm_1026 {m : Nat → Nat → Int32} {q : Nat → Nat → Int64} {j : Nat} (h : j < 6) : mk_ld 100 (KS, m, q) 1026 (nI j) = some (m 1026 j) := ld_ok kk_1026 (by omega) h (by omega)
theorem stm_1026 {m : Nat → Nat → Int32} {q : Nat → Nat → Int64} {j : Nat} {x : Int32} (h : j < 6) : mk_st 100 (KS, m, q) 1026 (nI j) x = some (KS, mk_u2 m 1026 j x, q) := st_ok kk_1026 h (by omega)
theorem lnm_1026 {m : Nat → Nat → Int32} {q : Nat → Nat → Int64} : mk_len (KS, m, q) 1026 = some (nI 6) := len_ok kk_1026 (by omega) (by omega)
theorem ldm_1027 {m : Nat → Nat → Int32} {q : Nat → Nat → Int64} {j : Nat} (h : j < 72) : mk_ld 100 (KS, m, q) 1027 (nI j) = some (m 1027 j) := ld_ok kk_1027 (by omega) h (by omega)
theorem stm_1027 {m : Nat → Nat → Int32} {q : Nat → Nat → Int64} {j : Nat} {x : Int32} (h : j < 72) : mk_st 100 (KS, m, q) 1027 (nI j) x = some (KS, mk_u2 m 1027 j x, q) := st_ok kk_1027 h (by omega)
theorem lnm_1027 {m : Nat → Nat → Int32} {q : Nat → Nat → Int64} : mk_len (KS, m, q) 1027 = some (nI 72) := len_ok kk_1027 (by omega) (by omega)
theorem ldm_1028 {m : Nat → Nat → Int32} {q : Nat → Nat → Int64} {j : Nat} (h : j < 72) : mk_ld 100 (KS, m, q) 1028 (nI j) = some (m 1028 j) := ld_ok kk_1028 (by omega) h (by omega)
theorem stm_1028 {m : Nat → Nat → Int32} {q : Nat → Nat → Int64} {j : Nat} {x : Int32} (h : j < 72) : mk_st 100 (KS, m, q) 1028 (nI j) x = some (KS, mk_u2 m 1028 j x, q) := st_ok kk_1028 h (by omega)
theorem lnm_1028 {m : Nat → Nat → Int32} {q : Nat → Nat → Int64} : mk_len (KS, m, q) 1028 = some (nI 72) := len_ok kk_1028 (by omega) (by omega)
theorem ldm_1029 {m : Nat → Nat → Int32} {q : Nat → Nat → Int64} {j : Nat} (h : j < 72) : mk_ld 100 (KS, m, q) 1029 (nI j) = some (m 1029 j) := ld_ok kk_1029 (by omega) h (by omega)
theorem stm_1029 {m : Nat → Nat → Int32} {q : Nat → Nat → Int64} {j : Nat} {x : Int32} (h : j < 72) : mk_st 100 (KS, m, q) 1029 (nI j) x = some (KS, mk_u2 m 1029 j x, q) := st_ok kk_1029 h (by omega)
theorem lnm_1029 {m : Nat → Nat → Int32} {q : Nat → Nat → Int64} : mk_len (KS, m, q) 1029 = some (nI 72) := len_ok kk_1029 (by omega) (by omega)
theorem ldm_1030 {m : Nat → Nat → Int32} {q : Nat → Nat → Int64} {j : Nat} (h : j < 402) : mk_ld 100 (KS, m, q) 1030 (nI j) = some (m 1030 j) := ld_ok kk_1030 (by omega) h (by omega)
theorem stm_1030 {m : Nat → Nat → Int32} {q : Nat → Nat → Int64} {j : Nat} {x : Int32} (h : j < 402) : mk_st 100 (KS, m, q) 1030 (nI j) x = some (KS, mk_u2 m 1030 j x, q) := st_ok kk_1030 h (by omega)
theorem lnm_1030 {m : Nat → Nat → Int32} {q : Nat → Nat → Int64} : mk_len (KS, m, q) 1030 = some (nI 402) := len_ok kk_1030 (by omega) (by omega)
theorem ldm_1031 {m : Nat → Nat → Int32} {q : Nat → Nat → Int64} {j : Nat} (h : j < 12) : mk_ldl (KS, m, q) 1031 (nI j) = some (q 1031 j) := ldl_ok kk_1031 h (by omega)
theorem stm_1031 {m : Nat → Nat → Int32} {q : Nat → Nat → Int64} {j : Nat} {x : Int64} (h : j < 12) : mk_stl (KS, m, q) 1031 (nI j) x = some (KS, m, mk_u2 q 1031 j x) := stl_ok kk_1031 h (by omega)
theorem ldm_1032 {m : Nat → Nat → Int32} {q : Nat → Nat → Int64} {j : Nat} (h : j < 300) : mk_ldl (KS, m, q) 1032 (nI j) = some (q 1032 j) := ldl_ok kk_1032 h (by omega)
theorem stm_1032 {m : Nat → Nat → Int32} {q : Nat → Nat → Int64} {j : Nat} {x : Int64} (h : j < 300) : mk_stl (KS, m, q) 1032 (nI j) x = some (KS, m, mk_u2 q 1032 j x) := stl_ok kk_1032 h (by omega)
theorem ldm_1033 {m : Nat → Nat → Int32} {q : Nat → Nat → Int64} {j : Nat} (h : j < 1440) : mk_ld 100 (KS, m, q) 1033 (nI j) = some (m 1033 j) := ld_ok kk_1033 (by omega) h (by omega)
theorem stm_1033 {m : Nat → Nat → Int32} {q : Nat → Nat → Int64} {j : Nat} {x : Int32} (h : j < 1440) : mk_st 100 (KS, m, q) 1033 (nI j) x = some (KS, mk_u2 m 1033 j x, q) := st_ok kk_1033 h (by omega)
theorem lnm_1033 {m : Nat → Nat → Int32} {q : Nat → Nat → Int64} : mk_len (KS, m, q) 1033 = some (nI 1440) := len_ok kk_1033 (by omega) (by omega)
theorem ldm_1034 {m : Nat → Nat → Int32} {q : Nat → Nat → Int64} {j : Nat} (h : j < 1) : mk_ld 100 (KS, m, q) 1034 (nI j) = some (m 1034 j) := ld_ok kk_1034 (by omega) h (by omega)
theorem stm_1034 {m : Nat → Nat → Int32} {q : Nat → Nat → Int64} {j : Nat} {x : Int32} (h : j < 1) : mk_st 100 (KS, m, q) 1034 (nI j) x = some (KS, mk_u2 m 1034 j x, q) := st_ok kk_1034 h (by omega)
theorem lnm_1034 {m : Nat → Nat → Int32} {q : Nat → Nat → Int64} : mk_len (KS, m, q) 1034 = some (nI 1) := len_ok kk_1034 (by omega) (by omega)
theorem ldm_1035 {m : Nat → Nat → Int32} {q : Nat → Nat → Int64} {j : Nat} (h : j < 16) : mk_ld 100 (KS, m, q) 1035 (nI j) = some (m 1035 j) := ld_ok kk_1035 (by omega) h (by omega)
theorem stm_1035 {m : Nat → Nat → Int32} {q : Nat → Nat → Int64} {j : Nat} {x : Int32} (h : j < 16) : mk_st 100 (KS, m, q) 1035 (nI j) x = some (KS, mk_u2 m 1035 j x, q) := st_ok kk_1035 h (by omega)
theorem lnm_1035 {m : Nat → Nat → Int32} {q : Nat → Nat → Int64} : mk_len (KS, m, q) 1035 = some (nI 16) := len_ok kk_1035 (by omega) (by omega)
theorem ldm_1036 {m : Nat → Nat → Int32} {q : Nat → Nat → Int64} {j : Nat} (h : j < 16) : mk_ld 100 (KS, m, q) 1036 (nI j) = some (m 1036 j) := ld_ok kk_1036 (by omega) h (by omega)
theorem stm_1036 {m : Nat → Nat → Int32} {q : Nat → Nat → Int64} {j : Nat} {x : Int32} (h : j < 16) : mk_st 100 (KS, m, q) 1036 (nI j) x = some (KS, mk_u2 m 1036 j x, q) := st_ok kk_1036 h (by omega)
theorem lnm_1036 {m : Nat → Nat → Int32} {q : Nat → Nat → Int64} : mk_len (KS, m, q) 1036 = some (nI 16) := len_ok kk_1036 (by omega) (by omega)
theorem ldm_1037 {m : Nat → Nat → Int32} {q : Nat → Nat → Int64} {j : Nat} (h : j < 2196) : mk_ld 100 (KS, m, q) 1037 (nI j) = some (m 1037 j) := ld_ok kk_1037 (by omega) h (by omega)
theorem stm_1037 {m : Nat → Nat → Int32} {q : Nat → Nat → Int64} {j : Nat} {x : Int32} (h : j < 2196) : mk_st 100 (KS, m, q) 1037 (nI j) x = some (KS, mk_u2 m 1037 j x, q) := st_ok kk_1037 h (by omega)
theorem lnm_1037 {m : Nat → Nat → Int32} {q : Nat → Nat → Int64} : mk_len (KS, m, q) 1037 = some (nI 2196) := len_ok kk_1037 (by omega) (by omega)
theorem ldm_1038 {m : Nat → Nat → Int32} {q : Nat → Nat → Int64} {j : Nat} (h : j < 252) : mk_ld 100 (KS, m, q) 1038 (nI j) = some (m 1038 j) := ld_ok kk_1038 (by omega) h (by omega)
theorem stm_1038 {m : Nat → Nat → Int32} {q : Nat → Nat → Int64} {j : Nat} {x : Int32} (h : j < 252) : mk_st 100 (KS, m, q) 1038 (nI j) x = some (KS, mk_u2 m 1038 j x, q) := st_ok kk_1038 h (by omega)
theorem lnm_1038 {m : Nat → Nat → Int32} {q : Nat → Nat → Int64} : mk_len (KS, m, q) 1038 = some (nI 252) := len_ok kk_1038 (by omega) (by omega)
theorem ldm_1039 {m : Nat → Nat → Int32} {q : Nat → Nat → Int64} {j : Nat} (h : j < 8500) : mk_ld 100 (KS, m, q) 1039 (nI j) = some (m 1039 j) := ld_ok kk_1039 (by omega) h (by omega)
theorem stm_1039 {m : Nat → Nat → Int32} {q : Nat → Nat → Int64} {j : Nat} {x : Int32} (h : j < 8500) : mk_st 100 (KS, m, q) 1039 (nI j) x = some (KS, mk_u2 m 1039 j x, q) := st_ok kk_1039 h (by omega)
theorem lnm_1039 {m : Nat → Nat → Int32} {q : Nat → Nat → Int64} : mk_len (KS, m, q) 1039 = some (nI 8500) := len_ok kk_1039 (by omega) (by omega)
theorem ldm_1040 {m : Nat → Nat → Int32} {q : Nat → Nat → Int64} {j : Nat} (h : j < 4) : mk_ld 103 (KS, m, q) 1040 (nI j) = some (m 1040 j) := ld_ok kk_1040 (by omega) h (by omega)
theorem stm_1040 {m : Nat → Nat → Int32} {q : Nat → Nat → Int64} {j : Nat} {x : Int32} (h : j < 4) : mk_st 103 (KS, m, q) 1040 (nI j) x = some (KS, mk_u2 m 1040 j (mk_nar 103 x), q) := st_ok kk_1040 h (by omega)
theorem ldc_2 {m : Nat → Nat → Int32} {q : Nat → Nat → Int64} {j : Nat} (h : j < 400) : mk_ld 100 (KS, m, q) 2 (nI j) = some (m 2 j) := ld_ok kk_2 (by omega) h (by omega)
theorem stc_2 {m : Nat → Nat → Int32} {q : Nat → Nat → Int64} {j : Nat} {x : Int32} (h : j < 400) : mk_st 100 (KS, m, q) 2 (nI j) x = some (KS, mk_u2 m 2 j x, q) := st_ok kk_2 h (by omega)
theorem lnc_2 {m : Nat → Nat → Int32} {q : Nat → Nat → Int64} : mk_len (KS, m, q) 2 = some (nI 400) := len_ok kk_2 (by omega) (by omega)
theorem ldc_4 {m : Nat → Nat → Int32} {q : Nat → Nat → Int64} {j : Nat} (h : j < 400) : mk_ld 100 (KS, m, q) 4 (nI j) = some (m 4 j) := ld_ok kk_4 (by omega) h (by omega)
theorem stc_4 {m : Nat → Nat → Int32} {q : Nat → Nat → Int64} {j : Nat} {x : Int32} (h : j < 400) : mk_st 100 (KS, m, q) 4 (nI j) x = some (KS, mk_u2 m 4 j x, q) := st_ok kk_4 h (by omega)
theorem lnc_4 {m : Nat → Nat → Int32} {q : Nat → Nat → Int64} : mk_len (KS, m, q) 4 = some (nI 400) := len_ok kk_4 (by omega) (by omega)
theorem ldc_6 {m : Nat → Nat → Int32} {q : Nat → Nat → Int64} {j : Nat} (h : j < 6) : mk_ld 100 (KS, m, q) 6 (nI j) = some (m 6 j) := ld_ok kk_6 (by omega) h (by omega)
theorem stc_6 {m : Nat → Nat → Int32} {q : Nat → Nat → Int64} {j : Nat} {x : Int32} (h : j < 6) : mk_st 100 (KS, m, q) 6 (nI j) x = some (KS, mk_u2 m 6 j x, q) := st_ok kk_6 h (by omega)
theorem lnc_6 {m : Nat → Nat → Int32} {q : Nat → Nat → Int64} : mk_len (KS, m, q) 6 = some (nI 6) := len_ok kk_6 (by omega) (by omega)
theorem ldc_7 {m : Nat → Nat → Int32} {q : Nat → Nat → Int64} {j : Nat} (h : j < 6) : mk_ld 100 (KS, m, q) 7 (nI j) = some (m 7 j) := ld_ok kk_7 (by omega) h (by omega)
theorem stc_7 {m : Nat → Nat → Int32} {q : Nat → Nat → Int64} {j : Nat} {x : Int32} (h : j < 6) : mk_st 100 (KS, m, q) 7 (nI j) x = some (KS, mk_u2 m 7 j x, q) := st_ok kk_7 h (by omega)
theorem lnc_7 {m : Nat → Nat → Int32} {q : Nat → Nat → Int64} : mk_len (KS, m, q) 7 = some (nI 6) := len_ok kk_7 (by omega) (by omega)
theorem ldc_8 {m : Nat → Nat → Int32} {q : Nat → Nat → Int64} {j : Nat} (h : j < 6) : mk_ld 100 (KS, m, q) 8 (nI j) = some (m 8 j) := ld_ok kk_8 (by omega) h (by omega)
theorem stc_8 {m : Nat → Nat → Int32} {q : Nat → Nat → Int64} {j : Nat} {x : Int32} (h : j < 6) : mk_st 100 (KS, m, q) 8 (nI j) x = some (KS, mk_u2 m 8 j x, q) := st_ok kk_8 h (by omega)
theorem lnc_8 {m : Nat → Nat → Int32} {q : Nat → Nat → Int64} : mk_len (KS, m, q) 8 = some (nI 6) := len_ok kk_8 (by omega) (by omega)
theorem ldc_9 {m : Nat → Nat → Int32} {q : Nat → Nat → Int64} {j : Nat} (h : j < 4) : mk_ld 100 (KS, m, q) 9 (nI j) = some (m 9 j) := ld_ok kk_9 (by omega) h (by omega)
theorem stc_9 {m : Nat → Nat → Int32} {q : Nat → Nat → Int64} {j : Nat} {x : Int32} (h : j < 4) : mk_st 100 (KS, m, q) 9 (nI j) x = some (KS, mk_u2 m 9 j x, q) := st_ok kk_9 h (by omega)
theorem lnc_9 {m : Nat → Nat → Int32} {q : Nat → Nat → Int64} : mk_len (KS, m, q) 9 = some (nI 4) := len_ok kk_9 (by omega) (by omega)
theorem ldc_10 {m : Nat → Nat → Int32} {q : Nat → Nat → Int64} {j : Nat} (h : j < 4) : mk_ld 100 (KS, m, q) 10 (nI j) = some (m 10 j) := ld_ok kk_10 (by omega) h (by omega)
theorem stc_10 {m : Nat → Nat → Int32} {q : Nat → Nat → Int64} {j : Nat} {x : Int32} (h : j < 4) : mk_st 100 (KS, m, q) 10 (nI j) x = some (KS, mk_u2 m 10 j x, q) := st_ok kk_10 h (by omega)
theorem lnc_10 {m : Nat → Nat → Int32} {q : Nat → Nat → Int64} : mk_len (KS, m, q) 10 = some (nI 4) := len_ok kk_10 (by omega) (by omega)
theorem ldc_11 {m : Nat → Nat → Int32} {q : Nat → Nat → Int64} {j : Nat} (h : j < 4) : mk_ld 100 (KS, m, q) 11 (nI j) = some (m 11 j) := ld_ok kk_11 (by omega) h (by omega)
theorem stc_11 {m : Nat → Nat → Int32} {q : Nat → Nat → Int64} {j : Nat} {x : Int32} (h : j < 4) : mk_st 100 (KS, m, q) 11 (nI j) x = some (KS, mk_u2 m 11 j x, q) := st_ok kk_11 h (by omega)
theorem lnc_11 {m : Nat → Nat → Int32} {q : Nat → Nat → Int64} : mk_len (KS, m, q) 11 = some (nI 4) := len_ok kk_11 (by omega) (by omega)
theorem ldc_12 {m : Nat → Nat → Int32} {q : Nat → Nat → Int64} {j : Nat} (h : j < 4) : mk_ld 100 (KS, m, q) 12 (nI j) = some (m 12 j) := ld_ok kk_12 (by omega) h (by omega)
theorem stc_12 {m : Nat → Nat → Int32} {q : Nat → Nat → Int64} {j : Nat} {x : Int32} (h : j < 4) : mk_st 100 (KS, m, q) 12 (nI j) x = some (KS, mk_u2 m 12 j x, q) := st_ok kk_12 h (by omega)
theorem lnc_12 {m : Nat → Nat → Int32} {q : Nat → Nat → Int64} : mk_len (KS, m, q) 12 = some (nI 4) := len_ok kk_12 (by omega) (by omega)
theorem ldc_16 {m : Nat → Nat → Int32} {q : Nat → Nat → Int64} {j : Nat} (h : j < 6) : mk_ld 100 (KS, m, q) 16 (nI j) = some (m 16 j) := ld_ok kk_16 (by omega) h (by omega)
theorem stc_16 {m : Nat → Nat → Int32} {q : Nat → Nat → Int64} {j : Nat} {x : Int32} (h : j < 6) : mk_st 100 (KS, m, q) 16 (nI j) x = some (KS, mk_u2 m 16 j x, q) := st_ok kk_16 h (by omega)
theorem lnc_16 {m : Nat → Nat → Int32} {q : Nat → Nat → Int64} : mk_len (KS, m, q) 16 = some (nI 6) := len_ok kk_16 (by omega) (by omega)
theorem ldc_17 {m : Nat → Nat → Int32} {q : Nat → Nat → Int64} {j : Nat} (h : j < 6) : mk_ld 100 (KS, m, q) 17 (nI j) = some (m 17 j) := ld_ok kk_17 (by omega) h (by omega)
theorem stc_17 {m : Nat → Nat → Int32} {q : Nat → Nat → Int64} {j : Nat} {x : Int32} (h : j < 6) : mk_st 100 (KS, m, q) 17 (nI j) x = some (KS, mk_u2 m 17 j x, q) := st_ok kk_17 h (by omega)
theorem lnc_17 {m : Nat → Nat → Int32} {q : Nat → Nat → Int64} : mk_len (KS, m, q) 17 = some (nI 6) := len_ok kk_17 (by omega) (by omega)
theorem ldc_18 {m : Nat → Nat → Int32} {q : Nat → Nat → Int64} {j : Nat} (h : j < 6) : mk_ld 100 (KS, m, q) 18 (nI j) = some (m 18 j) := ld_ok kk_18 (by omega) h (by omega)
theorem stc_18 {m : Nat → Nat → Int32} {q : Nat → Nat → Int64} {j : Nat} {x : Int32} (h : j < 6) : mk_st 100 (KS, m, q) 18 (nI j) x = some (KS, mk_u2 m 18 j x, q) := st_ok kk_18 h (by omega)
theorem lnc_18 {m : Nat → Nat → Int32} {q : Nat → Nat → Int64} : mk_len (KS, m, q) 18 = some (nI 6) := len_ok kk_18 (by omega) (by omega)
theorem ldc_19 {m : Nat → Nat → Int32} {q : Nat → Nat → Int64} {j : Nat} (h : j < 4) : mk_ld 100 (KS, m, q) 19 (nI j) = some (m 19 j) := ld_ok kk_19 (by omega) h (by omega)
theorem stc_19 {m : Nat → Nat → Int32} {q : Nat → Nat → Int64} {j : Nat} {x : Int32} (h : j < 4) : mk_st 100 (KS, m, q) 19 (nI j) x = some (KS, mk_u2 m 19 j x, q) := st_ok kk_19 h (by omega)
theorem lnc_19 {m : Nat → Nat → Int32} {q : Nat → Nat → Int64} : mk_len (KS, m, q) 19 = some (nI 4) := len_ok kk_19 (by omega) (by omega)
theorem ldc_20 {m : Nat → Nat → Int32} {q : Nat → Nat → Int64} {j : Nat} (h : j < 4) : mk_ld 100 (KS, m, q) 20 (nI j) = some (m 20 j) := ld_ok kk_20 (by omega) h (by omega)
theorem stc_20 {m : Nat → Nat → Int32} {q : Nat → Nat → Int64} {j : Nat} {x : Int32} (h : j < 4) : mk_st 100 (KS, m, q) 20 (nI j) x = some (KS, mk_u2 m 20 j x, q) := st_ok kk_20 h (by omega)
theorem lnc_20 {m : Nat → Nat → Int32} {q : Nat → Nat → Int64} : mk_len (KS, m, q) 20 = some (nI 4) := len_ok kk_20 (by omega) (by omega)
theorem ldc_21 {m : Nat → Nat → Int32} {q : Nat → Nat → Int64} {j : Nat} (h : j < 4) : mk_ld 100 (KS, m, q) 21 (nI j) = some (m 21 j) := ld_ok kk_21 (by omega) h (by omega)
theorem stc_21 {m : Nat → Nat → Int32} {q : Nat → Nat → Int64} {j : Nat} {x : Int32} (h : j < 4) : mk_st 100 (KS, m, q) 21 (nI j) x = some (KS, mk_u2 m 21 j x, q) := st_ok kk_21 h (by omega)
theorem lnc_21 {m : Nat → Nat → Int32} {q : Nat → Nat → Int64} : mk_len (KS, m, q) 21 = some (nI 4) := len_ok kk_21 (by omega) (by omega)
theorem ldc_22 {m : Nat → Nat → Int32} {q : Nat → Nat → Int64} {j : Nat} (h : j < 4) : mk_ld 100 (KS, m, q) 22 (nI j) = some (m 22 j) := ld_ok kk_22 (by omega) h (by omega)
theorem stc_22 {m : Nat → Nat → Int32} {q : Nat → Nat → Int64} {j : Nat} {x : Int32} (h : j < 4) : mk_st 100 (KS, m, q) 22 (nI j) x = some (KS, mk_u2 m 22 j x, q) := st_ok kk_22 h (by omega)
theorem lnc_22 {m : Nat → Nat → Int32} {q : Nat → Nat → Int64} : mk_len (KS, m, q) 22 = some (nI 4) := len_ok kk_22 (by omega) (by omega)
theorem ldc_24 {m : Nat → Nat → Int32} {q : Nat → Nat → Int64} {j : Nat} (h : j < 6) : mk_ld 100 (KS, m, q) 24 (nI j) = some (m 24 j) := ld_ok kk_24 (by omega) h (by omega)
theorem stc_24 {m : Nat → Nat → Int32} {q : Nat → Nat → Int64} {j : Nat} {x : Int32} (h : j < 6) : mk_st 100 (KS, m, q) 24 (nI j) x = some (KS, mk_u2 m 24 j x, q) := st_ok kk_24 h (by omega)
theorem lnc_24 {m : Nat → Nat → Int32} {q : Nat → Nat → Int64} : mk_len (KS, m, q) 24 = some (nI 6) := len_ok kk_24 (by omega) (by omega)
theorem ldc_25 {m : Nat → Nat → Int32} {q : Nat → Nat → Int64} {j : Nat} (h : j < 6) : mk_ld 100 (KS, m, q) 25 (nI j) = some (m 25 j) := ld_ok kk_25 (by omega) h (by omega)
theorem stc_25 {m : Nat → Nat → Int32} {q : Nat → Nat → Int64} {j : Nat} {x : Int32} (h : j < 6) : mk_st 100 (KS, m, q) 25 (nI j) x = some (KS, mk_u2 m 25 j x, q) := st_ok kk_25 h (by omega)
theorem lnc_25 {m : Nat → Nat → Int32} {q : Nat → Nat → Int64} : mk_len (KS, m, q) 25 = some (nI 6) := len_ok kk_25 (by omega) (by omega)
theorem ldc_26 {m : Nat → Nat → Int32} {q : Nat → Nat → Int64} {j : Nat} (h : j < 6) : mk_ld 100 (KS, m, q) 26 (nI j) = some (m 26 j) := ld_ok kk_26 (by omega) h (by omega)
theorem stc_26 {m : Nat → Nat → Int32} {q : Nat → Nat → Int64} {j : Nat} {x : Int32} (h : j < 6) : mk_st 100 (KS, m, q) 26 (nI j) x = some (KS, mk_u2 m 26 j x, q) := st_ok kk_26 h (by omega)
theorem lnc_26 {m : Nat → Nat → Int32} {q : Nat → Nat → Int64} : mk_len (KS, m, q) 26 = some (nI 6) := len_ok kk_26 (by omega) (by omega)
theorem ldc_27 {m : Nat → Nat → Int32} {q : Nat → Nat → Int64} {j : Nat} (h : j < 6) : mk_ld 100 (KS, m, q) 27 (nI j) = some (m 27 j) := ld_ok kk_27 (by omega) h (by omega)
theorem stc_27 {m : Nat → Nat → Int32} {q : Nat → Nat → Int64} {j : Nat} {x : Int32} (h : j < 6) : mk_st 100 (KS, m, q) 27 (nI j) x = some (KS, mk_u2 m 27 j x, q) := st_ok kk_27 h (by omega)
theorem lnc_27 {m : Nat → Nat → Int32} {q : Nat → Nat → Int64} : mk_len (KS, m, q) 27 = some (nI 6) := len_ok kk_27 (by omega) (by omega)
theorem ldc_28 {m : Nat → Nat → Int32} {q : Nat → Nat → Int64} {j : Nat} (h : j < 6) : mk_ld 100 (KS, m, q) 28 (nI j) = some (m 28 j) := ld_ok kk_28 (by omega) h (by omega)
theorem stc_28 {m : Nat → Nat → Int32} {q : Nat → Nat → Int64} {j : Nat} {x : Int32} (h : j < 6) : mk_st 100 (KS, m, q) 28 (nI j) x = some (KS, mk_u2 m 28 j x, q) := st_ok kk_28 h (by omega)
theorem lnc_28 {m : Nat → Nat → Int32} {q : Nat → Nat → Int64} : mk_len (KS, m, q) 28 = some (nI 6) := len_ok kk_28 (by omega) (by omega)
theorem ldc_29 {m : Nat → Nat → Int32} {q : Nat → Nat → Int64} {j : Nat} (h : j < 4) : mk_ld 100 (KS, m, q) 29 (nI j) = some (m 29 j) := ld_ok kk_29 (by omega) h (by omega)
theorem stc_29 {m : Nat → Nat → Int32} {q : Nat → Nat → Int64} {j : Nat} {x : Int32} (h : j < 4) : mk_st 100 (KS, m, q) 29 (nI j) x = some (KS, mk_u2 m 29 j x, q) := st_ok kk_29 h (by omega)
theorem lnc_29 {m : Nat → Nat → Int32} {q : Nat → Nat → Int64} : mk_len (KS, m, q) 29 = some (nI 4) := len_ok kk_29 (by omega) (by omega)
theorem ldc_30 {m : Nat → Nat → Int32} {q : Nat → Nat → Int64} {j : Nat} (h : j < 36) : mk_ld 100 (KS, m, q) 30 (nI j) = some (m 30 j) := ld_ok kk_30 (by omega) h (by omega)
theorem stc_30 {m : Nat → Nat → Int32} {q : Nat → Nat → Int64} {j : Nat} {x : Int32} (h : j < 36) : mk_st 100 (KS, m, q) 30 (nI j) x = some (KS, mk_u2 m 30 j x, q) := st_ok kk_30 h (by omega)
theorem lnc_30 {m : Nat → Nat → Int32} {q : Nat → Nat → Int64} : mk_len (KS, m, q) 30 = some (nI 36) := len_ok kk_30 (by omega) (by omega)
theorem ldc_194 {m : Nat → Nat → Int32} {q : Nat → Nat → Int64} {j : Nat} (h : j < 10) : mk_ld 100 (KS, m, q) 194 (nI j) = some (m 194 j) := ld_ok kk_194 (by omega) h (by omega)
theorem stc_194 {m : Nat → Nat → Int32} {q : Nat → Nat → Int64} {j : Nat} {x : Int32} (h : j < 10) : mk_st 100 (KS, m, q) 194 (nI j) x = some (KS, mk_u2 m 194 j x, q) := st_ok kk_194 h (by omega)
theorem lnc_194 {m : Nat → Nat → Int32} {q : Nat → Nat → Int64} : mk_len (KS, m, q) 194 = some (nI 10) := len_ok kk_194 (by omega) (by omega)
theorem ldc_195 {m : Nat → Nat → Int32} {q : Nat → Nat → Int64} {j : Nat} (h : j < 10) : mk_ld 100 (KS, m, q) 195 (nI j) = some (m 195 j) := ld_ok kk_195 (by omega) h (by omega)
theorem stc_195 {m : Nat → Nat → Int32} {q : Nat → Nat → Int64} {j : Nat} {x : Int32} (h : j < 10) : mk_st 100 (KS, m, q) 195 (nI j) x = some (KS, mk_u2 m 195 j x, q) := st_ok kk_195 h (by omega)
theorem lnc_195 {m : Nat → Nat → Int32} {q : Nat → Nat → Int64} : mk_len (KS, m, q) 195 = some (nI 10) := len_ok kk_195 (by omega) (by omega)
theorem ldc_196 {m : Nat → Nat → Int32} {q : Nat → Nat → Int64} {j : Nat} (h : j < 10) : mk_ld 100 (KS, m, q) 196 (nI j) = some (m 196 j) := ld_ok kk_196 (by omega) h (by omega)
theorem stc_196 {m : Nat → Nat → Int32} {q : Nat → Nat → Int64} {j : Nat} {x : Int32} (h : j < 10) : mk_st 100 (KS, m, q) 196 (nI j) x = some (KS, mk_u2 m 196 j x, q) := st_ok kk_196 h (by omega)
theorem lnc_196 {m : Nat → Nat → Int32} {q : Nat → Nat → Int64} : mk_len (KS, m, q) 196 = some (nI 10) := len_ok kk_196 (by omega) (by omega)
theorem ldc_199 {m : Nat → Nat → Int32} {q : Nat → Nat → Int64} {j : Nat} (h : j < 12) : mk_ldl (KS, m, q) 199 (nI j) = some (q 199 j) := ldl_ok kk_199 h (by omega)
theorem stc_199 {m : Nat → Nat → Int32} {q : Nat → Nat → Int64} {j : Nat} {x : Int64} (h : j < 12) : mk_stl (KS, m, q) 199 (nI j) x = some (KS, m, mk_u2 q 199 j x) := stl_ok kk_199 h (by omega)
theorem ldc_201 {m : Nat → Nat → Int32} {q : Nat → Nat → Int64} {j : Nat} (h : j < 6) : mk_ld 100 (KS, m, q) 201 (nI j) = some (m 201 j) := ld_ok kk_201 (by omega) h (by omega)
theorem stc_201 {m : Nat → Nat → Int32} {q : Nat → Nat → Int64} {j : Nat} {x : Int32} (h : j < 6) : mk_st 100 (KS, m, q) 201 (nI j) x = some (KS, mk_u2 m 201 j x, q) := st_ok kk_201 h (by omega)
theorem lnc_201 {m : Nat → Nat → Int32} {q : Nat → Nat → Int64} : mk_len (KS, m, q) 201 = some (nI 6) := len_ok kk_201 (by omega) (by omega)
theorem ldc_202 {m : Nat → Nat → Int32} {q : Nat → Nat → Int64} {j : Nat} (h : j < 6) : mk_ld 100 (KS, m, q) 202 (nI j) = some (m 202 j) := ld_ok kk_202 (by omega) h (by omega)
theorem stc_202 {m : Nat → Nat → Int32} {q : Nat → Nat → Int64} {j : Nat} {x : Int32} (h : j < 6) : mk_st 100 (KS, m, q) 202 (nI j) x = some (KS, mk_u2 m 202 j x, q) := st_ok kk_202 h (by omega)
theorem lnc_202 {m : Nat → Nat → Int32} {q : Nat → Nat → Int64} : mk_len (KS, m, q) 202 = some (nI 6) := len_ok kk_202 (by omega) (by omega)
theorem ldc_203 {m : Nat → Nat → Int32} {q : Nat → Nat → Int64} {j : Nat} (h : j < 6) : mk_ld 100 (KS, m, q) 203 (nI j) = some (m 203 j) := ld_ok kk_203 (by omega) h (by omega)
theorem stc_203 {m : Nat → Nat → Int32} {q : Nat → Nat → Int64} {j : Nat} {x : Int32} (h : j < 6) : mk_st 100 (KS, m, q) 203 (nI j) x = some (KS, mk_u2 m 203 j x, q) := st_ok kk_203 h (by omega)
theorem lnc_203 {m : Nat → Nat → Int32} {q : Nat → Nat → Int64} : mk_len (KS, m, q) 203 = some (nI 6) := len_ok kk_203 (by omega) (by omega)
theorem ldc_204 {m : Nat → Nat → Int32} {q : Nat → Nat → Int64} {j : Nat} (h : j < 6) : mk_ld 100 (KS, m, q) 204 (nI j) = some (m 204 j) := ld_ok kk_204 (by omega) h (by omega)
theorem stc_204 {m : Nat → Nat → Int32} {q : Nat → Nat → Int64} {j : Nat} {x : Int32} (h : j < 6) : mk_st 100 (KS, m, q) 204 (nI j) x = some (KS, mk_u2 m 204 j x, q) := st_ok kk_204 h (by omega)
theorem lnc_204 {m : Nat → Nat → Int32} {q : Nat → Nat → Int64} : mk_len (KS, m, q) 204 = some (nI 6) := len_ok kk_204 (by omega) (by omega)
theorem ldc_205 {m : Nat → Nat → Int32} {q : Nat → Nat → Int64} {j : Nat} (h : j < 6) : mk_ld 100 (KS, m, q) 205 (nI j) = some (m 205 j) := ld_ok kk_205 (by omega) h (by omega)
theorem stc_205 {m : Nat → Nat → Int32} {q : Nat → Nat → Int64} {j : Nat} {x : Int32} (h : j < 6) : mk_st 100 (KS, m, q) 205 (nI j) x = some (KS, mk_u2 m 205 j x, q) := st_ok kk_205 h (by omega)
theorem lnc_205 {m : Nat → Nat → Int32} {q : Nat → Nat → Int64} : mk_len (KS, m, q) 205 = some (nI 6) := len_ok kk_205 (by omega) (by omega)
theorem ldc_206 {m : Nat → Nat → Int32} {q : Nat → Nat → Int64} {j : Nat} (h : j < 4) : mk_ld 100 (KS, m, q) 206 (nI j) = some (m 206 j) := ld_ok kk_206 (by omega) h (by omega)
theorem stc_206 {m : Nat → Nat → Int32} {q : Nat → Nat → Int64} {j : Nat} {x : Int32} (h : j < 4) : mk_st 100 (KS, m, q) 206 (nI j) x = some (KS, mk_u2 m 206 j x, q) := st_ok kk_206 h (by omega)
theorem lnc_206 {m : Nat → Nat → Int32} {q : Nat → Nat → Int64} : mk_len (KS, m, q) 206 = some (nI 4) := len_ok kk_206 (by omega) (by omega)
theorem ldc_207 {m : Nat → Nat → Int32} {q : Nat → Nat → Int64} {j : Nat} (h : j < 36) : mk_ld 100 (KS, m, q) 207 (nI j) = some (m 207 j) := ld_ok kk_207 (by omega) h (by omega)
theorem stc_207 {m : Nat → Nat → Int32} {q : Nat → Nat → Int64} {j : Nat} {x : Int32} (h : j < 36) : mk_st 100 (KS, m, q) 207 (nI j) x = some (KS, mk_u2 m 207 j x, q) := st_ok kk_207 h (by omega)
theorem lnc_207 {m : Nat → Nat → Int32} {q : Nat → Nat → Int64} : mk_len (KS, m, q) 207 = some (nI 36) := len_ok kk_207 (by omega) (by omega)
theorem ldc_208 {m : Nat → Nat → Int32} {q : Nat → Nat → Int64} {j : Nat} (h : j < 36) : mk_ld 100 (KS, m, q) 208 (nI j) = some (m 208 j) := ld_ok kk_208 (by omega) h (by omega)
theorem stc_208 {m : Nat → Nat → Int32} {q : Nat → Nat → Int64} {j : Nat} {x : Int32} (h : j < 36) : mk_st 100 (KS, m, q) 208 (nI j) x = some (KS, mk_u2 m 208 j x, q) := st_ok kk_208 h (by omega)
theorem lnc_208 {m : Nat → Nat → Int32} {q : Nat → Nat → Int64} : mk_len (KS, m, q) 208 = some (nI 36) := len_ok kk_208 (by omega) (by omega)
theorem ldc_209 {m : Nat → Nat → Int32} {q : Nat → Nat → Int64} {j : Nat} (h : j < 6) : mk_ld 100 (KS, m, q) 209 (nI j) = some (m 209 j) := ld_ok kk_209 (by omega) h (by omega)
theorem stc_209 {m : Nat → Nat → Int32} {q : Nat → Nat → Int64} {j : Nat} {x : Int32} (h : j < 6) : mk_st 100 (KS, m, q) 209 (nI j) x = some (KS, mk_u2 m 209 j x, q) := st_ok kk_209 h (by omega)
theorem lnc_209 {m : Nat → Nat → Int32} {q : Nat → Nat → Int64} : mk_len (KS, m, q) 209 = some (nI 6) := len_ok kk_209 (by omega) (by omega)
theorem ldc_210 {m : Nat → Nat → Int32} {q : Nat → Nat → Int64} {j : Nat} (h : j < 16) : mk_ld 100 (KS, m, q) 210 (nI j) = some (m 210 j) := ld_ok kk_210 (by omega) h (by omega)
theorem stc_210 {m : Nat → Nat → Int32} {q : Nat → Nat → Int64} {j : Nat} {x : Int32} (h : j < 16) : mk_st 100 (KS, m, q) 210 (nI j) x = some (KS, mk_u2 m 210 j x, q) := st_ok kk_210 h (by omega)
theorem lnc_210 {m : Nat → Nat → Int32} {q : Nat → Nat → Int64} : mk_len (KS, m, q) 210 = some (nI 16) := len_ok kk_210 (by omega) (by omega)
theorem ldc_211 {m : Nat → Nat → Int32} {q : Nat → Nat → Int64} {j : Nat} (h : j < 16) : mk_ld 100 (KS, m, q) 211 (nI j) = some (m 211 j) := ld_ok kk_211 (by omega) h (by omega)
theorem stc_211 {m : Nat → Nat → Int32} {q : Nat → Nat → Int64} {j : Nat} {x : Int32} (h : j < 16) : mk_st 100 (KS, m, q) 211 (nI j) x = some (KS, mk_u2 m 211 j x, q) := st_ok kk_211 h (by omega)
theorem lnc_211 {m : Nat → Nat → Int32} {q : Nat → Nat → Int64} : mk_len (KS, m, q) 211 = some (nI 16) := len_ok kk_211 (by omega) (by omega)
theorem ldc_213 {m : Nat → Nat → Int32} {q : Nat → Nat → Int64} {j : Nat} (h : j < 36) : mk_ld 100 (KS, m, q) 213 (nI j) = some (m 213 j) := ld_ok kk_213 (by omega) h (by omega)
theorem stc_213 {m : Nat → Nat → Int32} {q : Nat → Nat → Int64} {j : Nat} {x : Int32} (h : j < 36) : mk_st 100 (KS, m, q) 213 (nI j) x = some (KS, mk_u2 m 213 j x, q) := st_ok kk_213 h (by omega)
theorem lnc_213 {m : Nat → Nat → Int32} {q : Nat → Nat → Int64} : mk_len (KS, m, q) 213 = some (nI 36) := len_ok kk_213 (by omega) (by omega)
theorem ldc_214 {m : Nat → Nat → Int32} {q : Nat → Nat → Int64} {j : Nat} (h : j < 36) : mk_ld 100 (KS, m, q) 214 (nI j) = some (m 214 j) := ld_ok kk_214 (by omega) h (by omega)
theorem stc_214 {m : Nat → Nat → Int32} {q : Nat → Nat → Int64} {j : Nat} {x : Int32} (h : j < 36) : mk_st 100 (KS, m, q) 214 (nI j) x = some (KS, mk_u2 m 214 j x, q) := st_ok kk_214 h (by omega)
theorem lnc_214 {m : Nat → Nat → Int32} {q : Nat → Nat → Int64} : mk_len (KS, m, q) 214 = some (nI 36) := len_ok kk_214 (by omega) (by omega)
theorem ldc_215 {m : Nat → Nat → Int32} {q : Nat → Nat → Int64} {j : Nat} (h : j < 36) : mk_ld 100 (KS, m, q) 215 (nI j) = some (m 215 j) := ld_ok kk_215 (by omega) h (by omega)
theorem stc_215 {m : Nat → Nat → Int32} {q : Nat → Nat → Int64} {j : Nat} {x : Int32} (h : j < 36) : mk_st 100 (KS, m, q) 215 (nI j) x = some (KS, mk_u2 m 215 j x, q) := st_ok kk_215 h (by omega)
theorem lnc_215 {m : Nat → Nat → Int32} {q : Nat → Nat → Int64} : mk_len (KS, m, q) 215 = some (nI 36) := len_ok kk_215 (by omega) (by omega)
theorem ldc_216 {m : Nat → Nat → Int32} {q : Nat → Nat → Int64} {j : Nat} (h : j < 36) : mk_ld 100 (KS, m, q) 216 (nI j) = some (m 216 j) := ld_ok kk_216 (by omega) h (by omega)
theorem stc_216 {m : Nat → Nat → Int32} {q : Nat → Nat → Int64} {j : Nat} {x : Int32} (h : j < 36) : mk_st 100 (KS, m, q) 216 (nI j) x = some (KS, mk_u2 m 216 j x, q) := st_ok kk_216 h (by omega)
theorem lnc_216 {m : Nat → Nat → Int32} {q : Nat → Nat → Int64} : mk_len (KS, m, q) 216 = some (nI 36) := len_ok kk_216 (by omega) (by omega)
theorem ldc_217 {m : Nat → Nat → Int32} {q : Nat → Nat → Int64} {j : Nat} (h : j < 36) : mk_ld 100 (KS, m, q) 217 (nI j) = some (m 217 j) := ld_ok kk_217 (by omega) h (by omega)
theorem stc_217 {m : Nat → Nat → Int32} {q : Nat → Nat → Int64} {j : Nat} {x : Int32} (h : j < 36) : mk_st 100 (KS, m, q) 217 (nI j) x = some (KS, mk_u2 m 217 j x, q) := st_ok kk_217 h (by omega)
theorem lnc_217 {m : Nat → Nat → Int32} {q : Nat → Nat → Int64} : mk_len (KS, m, q) 217 = some (nI 36) := len_ok kk_217 (by omega) (by omega)
theorem ldc_218 {m : Nat → Nat → Int32} {q : Nat → Nat → Int64} {j : Nat} (h : j < 36) : mk_ld 100 (KS, m, q) 218 (nI j) = some (m 218 j) := ld_ok kk_218 (by omega) h (by omega)
theorem stc_218 {m : Nat → Nat → Int32} {q : Nat → Nat → Int64} {j : Nat} {x : Int32} (h : j < 36) : mk_st 100 (KS, m, q) 218 (nI j) x = some (KS, mk_u2 m 218 j x, q) := st_ok kk_218 h (by omega)
theorem lnc_218 {m : Nat → Nat → Int32} {q : Nat → Nat → Int64} : mk_len (KS, m, q) 218 = some (nI 36) := len_ok kk_218 (by omega) (by omega)
theorem ldc_219 {m : Nat → Nat → Int32} {q : Nat → Nat → Int64} {j : Nat} (h : j < 36) : mk_ld 100 (KS, m, q) 219 (nI j) = some (m 219 j) := ld_ok kk_219 (by omega) h (by omega)
theorem stc_219 {m : Nat → Nat → Int32} {q : Nat → Nat → Int64} {j : Nat} {x : Int32} (h : j < 36) : mk_st 100 (KS, m, q) 219 (nI j) x = some (KS, mk_u2 m 219 j x, q) := st_ok kk_219 h (by omega)
theorem lnc_219 {m : Nat → Nat → Int32} {q : Nat → Nat → Int64} : mk_len (KS, m, q) 219 = some (nI 36) := len_ok kk_219 (by omega) (by omega)
theorem ldc_263 {m : Nat → Nat → Int32} {q : Nat → Nat → Int64} {j : Nat} (h : j < 4) : mk_ld 103 (KS, m, q) 263 (nI j) = some (m 263 j) := ld_ok kk_263 (by omega) h (by omega)
theorem stc_263 {m : Nat → Nat → Int32} {q : Nat → Nat → Int64} {j : Nat} {x : Int32} (h : j < 4) : mk_st 103 (KS, m, q) 263 (nI j) x = some (KS, mk_u2 m 263 j (mk_nar 103 x), q) := st_ok kk_263 h (by omega)
theorem pim_27 {m : Nat → Nat → Int32} {q : Nat → Nat → Int64} {v : Int32} : mk_pi (KS, m, q) 996 11 27 v = some (KS, mk_u2 m 996 27 v, q) := pi_ok kk_996 rfl (Nat.le_of_ble_eq_true rfl)
theorem pim_28 {m : Nat → Nat → Int32} {q : Nat → Nat → Int64} {v : Int32} : mk_pi (KS, m, q) 996 11 28 v = some (KS, mk_u2 m 996 28 v, q) := pi_ok kk_996 rfl (Nat.le_of_ble_eq_true rfl)
theorem pim_29 {m : Nat → Nat → Int32} {q : Nat → Nat → Int64} {v : Int32} : mk_pi (KS, m, q) 996 11 29 v = some (KS, mk_u2 m 996 29 v, q) := pi_ok kk_996 rfl (Nat.le_of_ble_eq_true rfl)
theorem pim_30 {m : Nat → Nat → Int32} {q : Nat → Nat → Int64} {v : Int32} : mk_pi (KS, m, q) 996 11 30 v = some (KS, mk_u2 m 996 30 v, q) := pi_ok kk_996 rfl (Nat.le_of_ble_eq_true rfl)
theorem pim_31 {m : Nat → Nat → Int32} {q : Nat → Nat → Int64} {v : Int32} : mk_pi (KS, m, q) 996 11 31 v = some (KS, mk_u2 m 996 31 v, q) := pi_ok kk_996 rfl (Nat.le_of_ble_eq_true rfl)
theorem pim_32 {m : Nat → Nat → Int32} {q : Nat → Nat → Int64} {v : Int32} : mk_pi (KS, m, q) 996 11 32 v = some (KS, mk_u2 m 996 32 v, q) := pi_ok kk_996 rfl (Nat.le_of_ble_eq_true rfl)
theorem pim_33 {m : Nat → Nat → Int32} {q : Nat → Nat → Int64} {v : Int32} : mk_pi (KS, m, q) 996 11 33 v = some (KS, mk_u2 m 996 33 v, q) := pi_ok kk_996 rfl (Nat.le_of_ble_eq_true rfl)
theorem pim_34 {m : Nat → Nat → Int32} {q : Nat → Nat → Int64} {v : Int32} : mk_pi (KS, m, q) 996 11 34 v = some (KS, mk_u2 m 996 34 v, q) := pi_ok kk_996 rfl (Nat.le_of_ble_eq_true rfl)
theorem pim_35 {m : Nat → Nat → Int32} {q : Nat → Nat → Int64} {v : Int32} : mk_pi (KS, m, q) 996 11 35 v = some (KS, mk_u2 m 996 35 v, q) := pi_ok kk_996 rfl (Nat.le_of_ble_eq_true rfl)
theorem pim_36 {m : Nat → Nat → Int32} {q : Nat → Nat → Int64} {v : Int32} : mk_pi (KS, m, q) 996 11 36 v = some (KS, mk_u2 m 996 36 v, q) := pi_ok kk_996 rfl (Nat.le_of_ble_eq_true rfl)
theorem pim_47 {m : Nat → Nat → Int32} {q : Nat → Nat → Int64} {v : Int32} : mk_pi (KS, m, q) 996 11 47 v = some (KS, mk_u2 m 996 47 v, q) := pi_ok kk_996 rfl (Nat.le_of_ble_eq_true rfl)
theorem pim_50 {m : Nat → Nat → Int32} {q : Nat → Nat → Int64} {v : Int32} : mk_pi (KS, m, q) 996 11 50 v = some (KS, mk_u2 m 996 50 v, q) := pi_ok kk_996 rfl (Nat.le_of_ble_eq_true rfl)
theorem pim_51 {m : Nat → Nat → Int32} {q : Nat → Nat → Int64} {v : Int32} : mk_pi (KS, m, q) 996 11 51 v = some (KS, mk_u2 m 996 51 v, q) := pi_ok kk_996 rfl (Nat.le_of_ble_eq_true rfl)
theorem pim_52 {m : Nat → Nat → Int32} {q : Nat → Nat → Int64} {v : Int32} : mk_pi (KS, m, q) 996 11 52 v = some (KS, mk_u2 m 996 52 v, q) := pi_ok kk_996 rfl (Nat.le_of_ble_eq_true rfl)
theorem pim_53 {m : Nat → Nat → Int32} {q : Nat → Nat → Int64} {v : Int32} : mk_pi (KS, m, q) 996 11 53 v = some (KS, mk_u2 m 996 53 v, q) := pi_ok kk_996 rfl (Nat.le_of_ble_eq_true rfl)
theorem pim_54 {m : Nat → Nat → Int32} {q : Nat → Nat → Int64} {v : Int32} : mk_pi (KS, m, q) 996 11 54 v = some (KS, mk_u2 m 996 54 v, q) := pi_ok kk_996 rfl (Nat.le_of_ble_eq_true rfl)
theorem pim_55 {m : Nat → Nat → Int32} {q : Nat → Nat → Int64} {v : Int32} : mk_pi (KS, m, q) 996 11 55 v = some (KS, mk_u2 m 996 55 v, q) := pi_ok kk_996 rfl (Nat.le_of_ble_eq_true rfl)
theorem pim_62 {m : Nat → Nat → Int32} {q : Nat → Nat → Int64} {v : Int32} : mk_pi (KS, m, q) 996 11 62 v = some (KS, mk_u2 m 996 62 v, q) := pi_ok kk_996 rfl (Nat.le_of_ble_eq_true rfl)
theorem pim_63 {m : Nat → Nat → Int32} {q : Nat → Nat → Int64} {v : Int32} : mk_pi (KS, m, q) 996 11 63 v = some (KS, mk_u2 m 996 63 v, q) := pi_ok kk_996 rfl (Nat.le_of_ble_eq_true rfl)
theorem gam_1 {m : Nat → Nat → Int32} {q : Nat → Nat → Int64} : mk_ga (KS, m, q) 996 11 1 = some 997 := ga_ok kk_996 rfl (Nat.le_of_ble_eq_true rfl) rfl
theorem gam_2 {m : Nat → Nat → Int32} {q : Nat → Nat → Int64} : mk_ga (KS, m, q) 996 11 2 = some 998 := ga_ok kk_996 rfl (Nat.le_of_ble_eq_true rfl) rfl
theorem gam_3 {m : Nat → Nat → Int32} {q : Nat → Nat → Int64} : mk_ga (KS, m, q) 996 11 3 = some 999 := ga_ok kk_996 rfl (Nat.le_of_ble_eq_true rfl) rfl
theorem gam_4 {m : Nat → Nat → Int32} {q : Nat → Nat → Int64} : mk_ga (KS, m, q) 996 11 4 = some 1000 := ga_ok kk_996 rfl (Nat.le_of_ble_eq_true rfl) rfl
theorem gam_5 {m : Nat → Nat → Int32} {q : Nat → Nat → Int64} : mk_ga (KS, m, q) 996 11 5 = some 1001 := ga_ok kk_996 rfl (Nat.le_of_ble_eq_true rfl) rfl
theorem gam_6 {m : Nat → Nat → Int32} {q : Nat → Nat → Int64} : mk_ga (KS, m, q) 996 11 6 = some 1002 := ga_ok kk_996 rfl (Nat.le_of_ble_eq_true rfl) rfl
theorem gam_7 {m : Nat → Nat → Int32} {q : Nat → Nat → Int64} : mk_ga (KS, m, q) 996 11 7 = some 1003 := ga_ok kk_996 rfl (Nat.le_of_ble_eq_true rfl) rfl
theorem gam_8 {m : Nat → Nat → Int32} {q : Nat → Nat → Int64} : mk_ga (KS, m, q) 996 11 8 = some 1004 := ga_ok kk_996 rfl (Nat.le_of_ble_eq_true rfl) rfl
theorem gam_9 {m : Nat → Nat → Int32} {q : Nat → Nat → Int64} : mk_ga (KS, m, q) 996 11 9 = some 1005 := ga_ok kk_996 rfl (Nat.le_of_ble_eq_true rfl) rfl
theorem gam_10 {m : Nat → Nat → Int32} {q : Nat → Nat → Int64} : mk_ga (KS, m, q) 996 11 10 = some 1006 := ga_ok kk_996 rfl (Nat.le_of_ble_eq_true rfl) rfl
theorem gam_11 {m : Nat → Nat → Int32} {q : Nat → Nat → Int64} : mk_ga (KS, m, q) 996 11 11 = some 1007 := ga_ok kk_996 rfl (Nat.le_of_ble_eq_true rfl) rfl
theorem gam_12 {m : Nat → Nat → Int32} {q : Nat → Nat → Int64} : mk_ga (KS, m, q) 996 11 12 = some 1008 := ga_ok kk_996 rfl (Nat.le_of_ble_eq_true rfl) rfl
theorem gam_13 {m : Nat → Nat → Int32} {q : Nat → Nat → Int64} : mk_ga (KS, m, q) 996 11 13 = some 1009 := ga_ok kk_996 rfl (Nat.le_of_ble_eq_true rfl) rfl
theorem gam_14 {m : Nat → Nat → Int32} {q : Nat → Nat → Int64} : mk_ga (KS, m, q) 996 11 14 = some 1010 := ga_ok kk_996 rfl (Nat.le_of_ble_eq_true rfl) rfl
theorem gam_15 {m : Nat → Nat → Int32} {q : Nat → Nat → Int64} : mk_ga (KS, m, q) 996 11 15 = some 1011 := ga_ok kk_996 rfl (Nat.le_of_ble_eq_true rfl) rfl
theorem gam_16 {m : Nat → Nat → Int32} {q : Nat → Nat → Int64} : mk_ga (KS, m, q) 996 11 16 = some 1012 := ga_ok kk_996 rfl (Nat.le_of_ble_eq_true rfl) rfl
theorem gam_17 {m : Nat → Nat → Int32} {q : Nat → Nat → Int64} : mk_ga (KS, m, q) 996 11 17 = some 1013 := ga_ok kk_996 rfl (Nat.le_of_ble_eq_true rfl) rfl
theorem gam_18 {m : Nat → Nat → Int32} {q : Nat → Nat → Int64} : mk_ga (KS, m, q) 996 11 18 = some 1014 := ga_ok kk_996 rfl (Nat.le_of_ble_eq_true rfl) rfl
theorem gam_19 {m : Nat → Nat → Int32} {q : Nat → Nat → Int64} : mk_ga (KS, m, q) 996 11 19 = some 1015 := ga_ok kk_996 rfl (Nat.le_of_ble_eq_true rfl) rfl
theorem gam_20 {m : Nat → Nat → Int32} {q : Nat → Nat → Int64} : mk_ga (KS, m, q) 996 11 20 = some 1016 := ga_ok kk_996 rfl (Nat.le_of_ble_eq_true rfl) rfl
theorem gam_21 {m : Nat → Nat → Int32} {q : Nat → Nat → Int64} : mk_ga (KS, m, q) 996 11 21 = some 1017 := ga_ok kk_996 rfl (Nat.le_of_ble_eq_true rfl) rfl
theorem gam_22 {m : Nat → Nat → Int32} {q : Nat → Nat → Int64} : mk_ga (KS, m, q) 996 11 22 = some 1018 := ga_ok kk_996 rfl (Nat.le_of_ble_eq_true rfl) rfl
theorem gam_23 {m : Nat → Nat → Int32} {q : Nat → Nat → Int64} : mk_ga (KS, m, q) 996 11 23 = some 1019 := ga_ok kk_996 rfl (Nat.le_of_ble_eq_true rfl) rfl
theorem gam_24 {m : Nat → Nat → Int32} {q : Nat → Nat → Int64} : mk_ga (KS, m, q) 996 11 24 = some 1020 := ga_ok kk_996 rfl (Nat.le_of_ble_eq_true rfl) rfl
theorem gam_25 {m : Nat → Nat → Int32} {q : Nat → Nat → Int64} : mk_ga (KS, m, q) 996 11 25 = some 1021 := ga_ok kk_996 rfl (Nat.le_of_ble_eq_true rfl) rfl
theorem gam_26 {m : Nat → Nat → Int32} {q : Nat → Nat → Int64} : mk_ga (KS, m, q) 996 11 26 = some 1022 := ga_ok kk_996 rfl (Nat.le_of_ble_eq_true rfl) rfl
theorem gam_37 {m : Nat → Nat → Int32} {q : Nat → Nat → Int64} : mk_ga (KS, m, q) 996 11 37 = some 1023 := ga_ok kk_996 rfl (Nat.le_of_ble_eq_true rfl) rfl
theorem gam_38 {m : Nat → Nat → Int32} {q : Nat → Nat → Int64} : mk_ga (KS, m, q) 996 11 38 = some 1024 := ga_ok kk_996 rfl (Nat.le_of_ble_eq_true rfl) rfl
theorem gam_39 {m : Nat → Nat → Int32} {q : Nat → Nat → Int64} : mk_ga (KS, m, q) 996 11 39 = some 1025 := ga_ok kk_996 rfl (Nat.le_of_ble_eq_true rfl) rfl
theorem gam_40 {m : Nat → Nat → Int32} {q : Nat → Nat → Int64} : mk_ga (KS, m, q) 996 11 40 = some 1026 := ga_ok kk_996 rfl (Nat.le_of_ble_eq_true rfl) rfl
theorem gam_41 {m : Nat → Nat → Int32} {q : Nat → Nat → Int64} : mk_ga (KS, m, q) 996 11 41 = some 1027 := ga_ok kk_996 rfl (Nat.le_of_ble_eq_true rfl) rfl
theorem gam_42 {m : Nat → Nat → Int32} {q : Nat → Nat → Int64} : mk_ga (KS, m, q) 996 11 42 = some 1028 := ga_ok kk_996 rfl (Nat.le_of_ble_eq_true rfl) rfl
theorem gam_43 {m : Nat → Nat → Int32} {q : Nat → Nat → Int64} : mk_ga (KS, m, q) 996 11 43 = some 1029 := ga_ok kk_996 rfl (Nat.le_of_ble_eq_true rfl) rfl
theorem gam_44 {m : Nat → Nat → Int32} {q : Nat → Nat → Int64} : mk_ga (KS, m, q) 996 11 44 = some 1030 := ga_ok kk_996 rfl (Nat.le_of_ble_eq_true rfl) rfl
theorem gam_45 {m : Nat → Nat → Int32} {q : Nat → Nat → Int64} : mk_ga (KS, m, q) 996 11 45 = some 1031 := ga_ok kk_996 rfl (Nat.le_of_ble_eq_true rfl) rfl
theorem gam_46 {m : Nat → Nat → Int32} {q : Nat → Nat → Int64} : mk_ga (KS, m, q) 996 11 46 = some 1032 := ga_ok kk_996 rfl (Nat.le_of_ble_eq_true rfl) rfl
theorem gam_48 {m : Nat → Nat → Int32} {q : Nat → Nat → Int64} : mk_ga (KS, m, q) 996 11 48 = some 1033 := ga_ok kk_996 rfl (Nat.le_of_ble_eq_true rfl) rfl
theorem gam_49 {m : Nat → Nat → Int32} {q : Nat → Nat → Int64} : mk_ga (KS, m, q) 996 11 49 = some 1034 := ga_ok kk_996 rfl (Nat.le_of_ble_eq_true rfl) rfl
theorem gam_56 {m : Nat → Nat → Int32} {q : Nat → Nat → Int64} : mk_ga (KS, m, q) 996 11 56 = some 1035 := ga_ok kk_996 rfl (Nat.le_of_ble_eq_true rfl) rfl
theorem gam_57 {m : Nat → Nat → Int32} {q : Nat → Nat → Int64} : mk_ga (KS, m, q) 996 11 57 = some 1036 := ga_ok kk_996 rfl (Nat.le_of_ble_eq_true rfl) rfl
theorem gam_58 {m : Nat → Nat → Int32} {q : Nat → Nat → Int64} : mk_ga (KS, m, q) 996 11 58 = some 1037 := ga_ok kk_996 rfl (Nat.le_of_ble_eq_true rfl) rfl
theorem gam_59 {m : Nat → Nat → Int32} {q : Nat → Nat → Int64} : mk_ga (KS, m, q) 996 11 59 = some 1038 := ga_ok kk_996 rfl (Nat.le_of_ble_eq_true rfl) rfl
theorem gam_60 {m : Nat → Nat → Int32} {q : Nat → Nat → Int64} : mk_ga (KS, m, q) 996 11 60 = some 1039 := ga_ok kk_996 rfl (Nat.le_of_ble_eq_true rfl) rfl
theorem gam_61 {m : Nat → Nat → Int32} {q : Nat → Nat → Int64} : mk_ga (KS, m, q) 996 11 61 = some 1040 := ga_ok kk_996 rfl (Nat.le_of_ble_eq_true rfl) rfl
theorem gim_27 {m : Nat → Nat → Int32} {q : Nat → Nat → Int64} : mk_gi (KS, m, q) 996 11 27 = some (m 996 27) := gi_ok kk_996 rfl (Nat.le_of_ble_eq_true rfl)
theorem gim_28 {m : Nat → Nat → Int32} {q : Nat → Nat → Int64} : mk_gi (KS, m, q) 996 11 28 = some (m 996 28) := gi_ok kk_996 rfl (Nat.le_of_ble_eq_true rfl)
theorem gim_29 {m : Nat → Nat → Int32} {q : Nat → Nat → Int64} : mk_gi (KS, m, q) 996 11 29 = some (m 996 29) := gi_ok kk_996 rfl (Nat.le_of_ble_eq_true rfl)
theorem gim_30 {m : Nat → Nat → Int32} {q : Nat → Nat → Int64} : mk_gi (KS, m, q) 996 11 30 = some (m 996 30) := gi_ok kk_996 rfl (Nat.le_of_ble_eq_true rfl)
theorem gim_31 {m : Nat → Nat → Int32} {q : Nat → Nat → Int64} : mk_gi (KS, m, q) 996 11 31 = some (m 996 31) := gi_ok kk_996 rfl (Nat.le_of_ble_eq_true rfl)
theorem gim_32 {m : Nat → Nat → Int32} {q : Nat → Nat → Int64} : mk_gi (KS, m, q) 996 11 32 = some (m 996 32) := gi_ok kk_996 rfl (Nat.le_of_ble_eq_true rfl)
theorem gim_33 {m : Nat → Nat → Int32} {q : Nat → Nat → Int64} : mk_gi (KS, m, q) 996 11 33 = some (m 996 33) := gi_ok kk_996 rfl (Nat.le_of_ble_eq_true rfl)
theorem gim_34 {m : Nat → Nat → Int32} {q : Nat → Nat → Int64} : mk_gi (KS, m, q) 996 11 34 = some (m 996 34) := gi_ok kk_996 rfl (Nat.le_of_ble_eq_true rfl)
theorem gim_35 {m : Nat → Nat → Int32} {q : Nat → Nat → Int64} : mk_gi (KS, m, q) 996 11 35 = some (m 996 35) := gi_ok kk_996 rfl (Nat.le_of_ble_eq_true rfl)
theorem gim_36 {m : Nat → Nat → Int32} {q : Nat → Nat → Int64} : mk_gi (KS, m, q) 996 11 36 = some (m 996 36) := gi_ok kk_996 rfl (Nat.le_of_ble_eq_true rfl)
theorem gim_47 {m : Nat → Nat → Int32} {q : Nat → Nat → Int64} : mk_gi (KS, m, q) 996 11 47 = some (m 996 47) := gi_ok kk_996 rfl (Nat.le_of_ble_eq_true rfl)
theorem gim_50 {m : Nat → Nat → Int32} {q : Nat → Nat → Int64} : mk_gi (KS, m, q) 996 11 50 = some (m 996 50) := gi_ok kk_996 rfl (Nat.le_of_ble_eq_true rfl)
theorem gim_51 {m : Nat → Nat → Int32} {q : Nat → Nat → Int64} : mk_gi (KS, m, q) 996 11 51 = some (m 996 51) := gi_ok kk_996 rfl (Nat.le_of_ble_eq_true rfl)
theorem gim_52 {m : Nat → Nat → Int32} {q : Nat → Nat → Int64} : mk_gi (KS, m, q) 996 11 52 = some (m 996 52) := gi_ok kk_996 rfl (Nat.le_of_ble_eq_true rfl)
theorem gim_53 {m : Nat → Nat → Int32} {q : Nat → Nat → Int64} : mk_gi (KS, m, q) 996 11 53 = some (m 996 53) := gi_ok kk_996 rfl (Nat.le_of_ble_eq_true rfl)
theorem gim_54 {m : Nat → Nat → Int32} {q : Nat → Nat → Int64} : mk_gi (KS, m, q) 996 11 54 = some (m 996 54) := gi_ok kk_996 rfl (Nat.le_of_ble_eq_true rfl)
theorem gim_55 {m : Nat → Nat → Int32} {q : Nat → Nat → Int64} : mk_gi (KS, m, q) 996 11 55 = some (m 996 55) := gi_ok kk_996 rfl (Nat.le_of_ble_eq_true rfl)
theorem gim_62 {m : Nat → Nat → Int32} {q : Nat → Nat → Int64} : mk_gi (KS, m, q) 996 11 62 = some (m 996 62) := gi_ok kk_996 rfl (Nat.le_of_ble_eq_true rfl)
theorem gim_63 {m : Nat → Nat → Int32} {q : Nat → Nat → Int64} : mk_gi (KS, m, q) 996 11 63 = some (m 996 63) := gi_ok kk_996 rfl (Nat.le_of_ble_eq_true rfl)
theorem pzm_52 {m : Nat → Nat → Int32} {q : Nat → Nat → Int64} {v : Int32} (h : v = nI 0 ∨ v = nI 1) : mk_pz (KS, m, q) 996 11 52 v = some (KS, mk_u2 m 996 52 v, q) := by
  unfold mk_pz
  exact (if_pos h).trans (pi_ok kk_996 rfl (Nat.le_of_ble_eq_true rfl))
theorem pzm_63 {m : Nat → Nat → Int32} {q : Nat → Nat → Int64} {v : Int32} (h : v = nI 0 ∨ v = nI 1) : mk_pz (KS, m, q) 996 11 63 v = some (KS, mk_u2 m 996 63 v, q) := by
  unfold mk_pz
  exact (if_pos h).trans (pi_ok kk_996 rfl (Nat.le_of_ble_eq_true rfl))
theorem gdm {β : Type} {m : Nat → Nat → Int32} {q : Nat → Nat → Int64} {o : Option β} : mk_gd (KS, m, q) 996 11 o = o := gd_ok kk_996 rfl
theorem u2_s {β : Type} {f : Nat → Nat → β} {a k : Nat} {v : β} : mk_u2 f a k v a k = v := by
  unfold mk_u2 va_up
  simp
theorem u2_a {β : Type} {f : Nat → Nat → β} {a k i j : Nat} {v : β} (h : i ≠ a) : mk_u2 f a k v i j = f i j := congrFun (mk_u2_ne h) j
theorem u2_b {β : Type} {f : Nat → Nat → β} {a k i j : Nat} {v : β} (h : j ≠ k) : mk_u2 f a k v i j = f i j := by
  unfold mk_u2 va_up
  by_cases e : i = a
  · subst e; simp [h]
  · simp [e]
theorem u2_k {β : Type} {f : Nat → Nat → β} {a k i j : Nat} {v : β} (h : i = a) (h2 : j = k) : mk_u2 f a k v i j = v := by
  subst h; subst h2; exact u2_s
theorem gdc_0 {β : Type} {m : Nat → Nat → Int32} {q : Nat → Nat → Int64} {o : Option β} : mk_gd (KS, m, q) 0 10 o = o := gd_ok kk_0 rfl
theorem gac_0_0 {m : Nat → Nat → Int32} {q : Nat → Nat → Int64} : mk_ga (KS, m, q) 0 10 0 = some 1 := ga_ok kk_0 rfl (Nat.le_of_ble_eq_true rfl) rfl
theorem gac_0_1 {m : Nat → Nat → Int32} {q : Nat → Nat → Int64} : mk_ga (KS, m, q) 0 10 1 = some 3 := ga_ok kk_0 rfl (Nat.le_of_ble_eq_true rfl) rfl
theorem gac_0_2 {m : Nat → Nat → Int32} {q : Nat → Nat → Int64} : mk_ga (KS, m, q) 0 10 2 = some 5 := ga_ok kk_0 rfl (Nat.le_of_ble_eq_true rfl) rfl
theorem gac_0_3 {m : Nat → Nat → Int32} {q : Nat → Nat → Int64} : mk_ga (KS, m, q) 0 10 3 = some 13 := ga_ok kk_0 rfl (Nat.le_of_ble_eq_true rfl) rfl
theorem gac_0_4 {m : Nat → Nat → Int32} {q : Nat → Nat → Int64} : mk_ga (KS, m, q) 0 10 4 = some 14 := ga_ok kk_0 rfl (Nat.le_of_ble_eq_true rfl) rfl
theorem gac_0_5 {m : Nat → Nat → Int32} {q : Nat → Nat → Int64} : mk_ga (KS, m, q) 0 10 5 = some 262 := ga_ok kk_0 rfl (Nat.le_of_ble_eq_true rfl) rfl
theorem gac_0_6 {m : Nat → Nat → Int32} {q : Nat → Nat → Int64} : mk_ga (KS, m, q) 0 10 6 = some 263 := ga_ok kk_0 rfl (Nat.le_of_ble_eq_true rfl) rfl
theorem gdc_1 {β : Type} {m : Nat → Nat → Int32} {q : Nat → Nat → Int64} {o : Option β} : mk_gd (KS, m, q) 1 7 o = o := gd_ok kk_1 rfl
theorem gac_1_0 {m : Nat → Nat → Int32} {q : Nat → Nat → Int64} : mk_ga (KS, m, q) 1 7 0 = some 2 := ga_ok kk_1 rfl (Nat.le_of_ble_eq_true rfl) rfl
theorem gic_1_1 {m : Nat → Nat → Int32} {q : Nat → Nat → Int64} : mk_gi (KS, m, q) 1 7 1 = some (m 1 1) := gi_ok kk_1 rfl (Nat.le_of_ble_eq_true rfl)
theorem pic_1_1 {m : Nat → Nat → Int32} {q : Nat → Nat → Int64} {v : Int32} : mk_pi (KS, m, q) 1 7 1 v = some (KS, mk_u2 m 1 1 v, q) := pi_ok kk_1 rfl (Nat.le_of_ble_eq_true rfl)
theorem gic_1_2 {m : Nat → Nat → Int32} {q : Nat → Nat → Int64} : mk_gi (KS, m, q) 1 7 2 = some (m 1 2) := gi_ok kk_1 rfl (Nat.le_of_ble_eq_true rfl)
theorem pic_1_2 {m : Nat → Nat → Int32} {q : Nat → Nat → Int64} {v : Int32} : mk_pi (KS, m, q) 1 7 2 v = some (KS, mk_u2 m 1 2 v, q) := pi_ok kk_1 rfl (Nat.le_of_ble_eq_true rfl)
theorem gic_1_3 {m : Nat → Nat → Int32} {q : Nat → Nat → Int64} : mk_gi (KS, m, q) 1 7 3 = some (m 1 3) := gi_ok kk_1 rfl (Nat.le_of_ble_eq_true rfl)
theorem pic_1_3 {m : Nat → Nat → Int32} {q : Nat → Nat → Int64} {v : Int32} : mk_pi (KS, m, q) 1 7 3 v = some (KS, mk_u2 m 1 3 v, q) := pi_ok kk_1 rfl (Nat.le_of_ble_eq_true rfl)
theorem gic_1_4 {m : Nat → Nat → Int32} {q : Nat → Nat → Int64} : mk_gi (KS, m, q) 1 7 4 = some (m 1 4) := gi_ok kk_1 rfl (Nat.le_of_ble_eq_true rfl)
theorem pic_1_4 {m : Nat → Nat → Int32} {q : Nat → Nat → Int64} {v : Int32} : mk_pi (KS, m, q) 1 7 4 v = some (KS, mk_u2 m 1 4 v, q) := pi_ok kk_1 rfl (Nat.le_of_ble_eq_true rfl)
theorem gic_1_5 {m : Nat → Nat → Int32} {q : Nat → Nat → Int64} : mk_gi (KS, m, q) 1 7 5 = some (m 1 5) := gi_ok kk_1 rfl (Nat.le_of_ble_eq_true rfl)
theorem pic_1_5 {m : Nat → Nat → Int32} {q : Nat → Nat → Int64} {v : Int32} : mk_pi (KS, m, q) 1 7 5 v = some (KS, mk_u2 m 1 5 v, q) := pi_ok kk_1 rfl (Nat.le_of_ble_eq_true rfl)
theorem gic_1_6 {m : Nat → Nat → Int32} {q : Nat → Nat → Int64} : mk_gi (KS, m, q) 1 7 6 = some (m 1 6) := gi_ok kk_1 rfl (Nat.le_of_ble_eq_true rfl)
theorem pic_1_6 {m : Nat → Nat → Int32} {q : Nat → Nat → Int64} {v : Int32} : mk_pi (KS, m, q) 1 7 6 v = some (KS, mk_u2 m 1 6 v, q) := pi_ok kk_1 rfl (Nat.le_of_ble_eq_true rfl)
theorem gdc_3 {β : Type} {m : Nat → Nat → Int32} {q : Nat → Nat → Int64} {o : Option β} : mk_gd (KS, m, q) 3 5 o = o := gd_ok kk_3 rfl
theorem gac_3_0 {m : Nat → Nat → Int32} {q : Nat → Nat → Int64} : mk_ga (KS, m, q) 3 5 0 = some 4 := ga_ok kk_3 rfl (Nat.le_of_ble_eq_true rfl) rfl
theorem gic_3_1 {m : Nat → Nat → Int32} {q : Nat → Nat → Int64} : mk_gi (KS, m, q) 3 5 1 = some (m 3 1) := gi_ok kk_3 rfl (Nat.le_of_ble_eq_true rfl)
theorem pic_3_1 {m : Nat → Nat → Int32} {q : Nat → Nat → Int64} {v : Int32} : mk_pi (KS, m, q) 3 5 1 v = some (KS, mk_u2 m 3 1 v, q) := pi_ok kk_3 rfl (Nat.le_of_ble_eq_true rfl)
theorem gic_3_2 {m : Nat → Nat → Int32} {q : Nat → Nat → Int64} : mk_gi (KS, m, q) 3 5 2 = some (m 3 2) := gi_ok kk_3 rfl (Nat.le_of_ble_eq_true rfl)
theorem pic_3_2 {m : Nat → Nat → Int32} {q : Nat → Nat → Int64} {v : Int32} : mk_pi (KS, m, q) 3 5 2 v = some (KS, mk_u2 m 3 2 v, q) := pi_ok kk_3 rfl (Nat.le_of_ble_eq_true rfl)
theorem gic_3_3 {m : Nat → Nat → Int32} {q : Nat → Nat → Int64} : mk_gi (KS, m, q) 3 5 3 = some (m 3 3) := gi_ok kk_3 rfl (Nat.le_of_ble_eq_true rfl)
theorem pic_3_3 {m : Nat → Nat → Int32} {q : Nat → Nat → Int64} {v : Int32} : mk_pi (KS, m, q) 3 5 3 v = some (KS, mk_u2 m 3 3 v, q) := pi_ok kk_3 rfl (Nat.le_of_ble_eq_true rfl)
theorem gic_3_4 {m : Nat → Nat → Int32} {q : Nat → Nat → Int64} : mk_gi (KS, m, q) 3 5 4 = some (m 3 4) := gi_ok kk_3 rfl (Nat.le_of_ble_eq_true rfl)
theorem pic_3_4 {m : Nat → Nat → Int32} {q : Nat → Nat → Int64} {v : Int32} : mk_pi (KS, m, q) 3 5 4 v = some (KS, mk_u2 m 3 4 v, q) := pi_ok kk_3 rfl (Nat.le_of_ble_eq_true rfl)
theorem gic_3_5 {m : Nat → Nat → Int32} {q : Nat → Nat → Int64} : mk_gi (KS, m, q) 3 5 5 = some (m 3 5) := gi_ok kk_3 rfl (Nat.le_of_ble_eq_true rfl)
theorem pic_3_5 {m : Nat → Nat → Int32} {q : Nat → Nat → Int64} {v : Int32} : mk_pi (KS, m, q) 3 5 5 v = some (KS, mk_u2 m 3 5 v, q) := pi_ok kk_3 rfl (Nat.le_of_ble_eq_true rfl)
theorem gic_3_6 {m : Nat → Nat → Int32} {q : Nat → Nat → Int64} : mk_gi (KS, m, q) 3 5 6 = some (m 3 6) := gi_ok kk_3 rfl (Nat.le_of_ble_eq_true rfl)
theorem pic_3_6 {m : Nat → Nat → Int32} {q : Nat → Nat → Int64} {v : Int32} : mk_pi (KS, m, q) 3 5 6 v = some (KS, mk_u2 m 3 6 v, q) := pi_ok kk_3 rfl (Nat.le_of_ble_eq_true rfl)
theorem gic_3_7 {m : Nat → Nat → Int32} {q : Nat → Nat → Int64} : mk_gi (KS, m, q) 3 5 7 = some (m 3 7) := gi_ok kk_3 rfl (Nat.le_of_ble_eq_true rfl)
theorem pic_3_7 {m : Nat → Nat → Int32} {q : Nat → Nat → Int64} {v : Int32} : mk_pi (KS, m, q) 3 5 7 v = some (KS, mk_u2 m 3 7 v, q) := pi_ok kk_3 rfl (Nat.le_of_ble_eq_true rfl)
theorem gdc_5 {β : Type} {m : Nat → Nat → Int32} {q : Nat → Nat → Int64} {o : Option β} : mk_gd (KS, m, q) 5 3 o = o := gd_ok kk_5 rfl
theorem gic_5_0 {m : Nat → Nat → Int32} {q : Nat → Nat → Int64} : mk_gi (KS, m, q) 5 3 0 = some (m 5 0) := gi_ok kk_5 rfl (Nat.le_of_ble_eq_true rfl)
theorem pic_5_0 {m : Nat → Nat → Int32} {q : Nat → Nat → Int64} {v : Int32} : mk_pi (KS, m, q) 5 3 0 v = some (KS, mk_u2 m 5 0 v, q) := pi_ok kk_5 rfl (Nat.le_of_ble_eq_true rfl)
theorem gic_5_1 {m : Nat → Nat → Int32} {q : Nat → Nat → Int64} : mk_gi (KS, m, q) 5 3 1 = some (m 5 1) := gi_ok kk_5 rfl (Nat.le_of_ble_eq_true rfl)
theorem pic_5_1 {m : Nat → Nat → Int32} {q : Nat → Nat → Int64} {v : Int32} : mk_pi (KS, m, q) 5 3 1 v = some (KS, mk_u2 m 5 1 v, q) := pi_ok kk_5 rfl (Nat.le_of_ble_eq_true rfl)
theorem gic_5_2 {m : Nat → Nat → Int32} {q : Nat → Nat → Int64} : mk_gi (KS, m, q) 5 3 2 = some (m 5 2) := gi_ok kk_5 rfl (Nat.le_of_ble_eq_true rfl)
theorem pic_5_2 {m : Nat → Nat → Int32} {q : Nat → Nat → Int64} {v : Int32} : mk_pi (KS, m, q) 5 3 2 v = some (KS, mk_u2 m 5 2 v, q) := pi_ok kk_5 rfl (Nat.le_of_ble_eq_true rfl)
theorem gic_5_3 {m : Nat → Nat → Int32} {q : Nat → Nat → Int64} : mk_gi (KS, m, q) 5 3 3 = some (m 5 3) := gi_ok kk_5 rfl (Nat.le_of_ble_eq_true rfl)
theorem pic_5_3 {m : Nat → Nat → Int32} {q : Nat → Nat → Int64} {v : Int32} : mk_pi (KS, m, q) 5 3 3 v = some (KS, mk_u2 m 5 3 v, q) := pi_ok kk_5 rfl (Nat.le_of_ble_eq_true rfl)
theorem gic_5_4 {m : Nat → Nat → Int32} {q : Nat → Nat → Int64} : mk_gi (KS, m, q) 5 3 4 = some (m 5 4) := gi_ok kk_5 rfl (Nat.le_of_ble_eq_true rfl)
theorem pic_5_4 {m : Nat → Nat → Int32} {q : Nat → Nat → Int64} {v : Int32} : mk_pi (KS, m, q) 5 3 4 v = some (KS, mk_u2 m 5 4 v, q) := pi_ok kk_5 rfl (Nat.le_of_ble_eq_true rfl)
theorem gac_5_5 {m : Nat → Nat → Int32} {q : Nat → Nat → Int64} : mk_ga (KS, m, q) 5 3 5 = some 6 := ga_ok kk_5 rfl (Nat.le_of_ble_eq_true rfl) rfl
theorem gac_5_6 {m : Nat → Nat → Int32} {q : Nat → Nat → Int64} : mk_ga (KS, m, q) 5 3 6 = some 7 := ga_ok kk_5 rfl (Nat.le_of_ble_eq_true rfl) rfl
theorem gac_5_7 {m : Nat → Nat → Int32} {q : Nat → Nat → Int64} : mk_ga (KS, m, q) 5 3 7 = some 8 := ga_ok kk_5 rfl (Nat.le_of_ble_eq_true rfl) rfl
theorem gac_5_8 {m : Nat → Nat → Int32} {q : Nat → Nat → Int64} : mk_ga (KS, m, q) 5 3 8 = some 9 := ga_ok kk_5 rfl (Nat.le_of_ble_eq_true rfl) rfl
theorem gac_5_9 {m : Nat → Nat → Int32} {q : Nat → Nat → Int64} : mk_ga (KS, m, q) 5 3 9 = some 10 := ga_ok kk_5 rfl (Nat.le_of_ble_eq_true rfl) rfl
theorem gac_5_10 {m : Nat → Nat → Int32} {q : Nat → Nat → Int64} : mk_ga (KS, m, q) 5 3 10 = some 11 := ga_ok kk_5 rfl (Nat.le_of_ble_eq_true rfl) rfl
theorem gac_5_11 {m : Nat → Nat → Int32} {q : Nat → Nat → Int64} : mk_ga (KS, m, q) 5 3 11 = some 12 := ga_ok kk_5 rfl (Nat.le_of_ble_eq_true rfl) rfl
theorem gdc_13 {β : Type} {m : Nat → Nat → Int32} {q : Nat → Nat → Int64} {o : Option β} : mk_gd (KS, m, q) 13 2 o = o := gd_ok kk_13 rfl
theorem gac_13_0 {m : Nat → Nat → Int32} {q : Nat → Nat → Int64} : mk_ga (KS, m, q) 13 2 0 = some 14 := ga_ok kk_13 rfl (Nat.le_of_ble_eq_true rfl) rfl
theorem gac_13_1 {m : Nat → Nat → Int32} {q : Nat → Nat → Int64} : mk_ga (KS, m, q) 13 2 1 = some 197 := ga_ok kk_13 rfl (Nat.le_of_ble_eq_true rfl) rfl
theorem gic_13_2 {m : Nat → Nat → Int32} {q : Nat → Nat → Int64} : mk_gi (KS, m, q) 13 2 2 = some (m 13 2) := gi_ok kk_13 rfl (Nat.le_of_ble_eq_true rfl)
theorem pic_13_2 {m : Nat → Nat → Int32} {q : Nat → Nat → Int64} {v : Int32} : mk_pi (KS, m, q) 13 2 2 v = some (KS, mk_u2 m 13 2 v, q) := pi_ok kk_13 rfl (Nat.le_of_ble_eq_true rfl)
theorem gac_13_3 {m : Nat → Nat → Int32} {q : Nat → Nat → Int64} : mk_ga (KS, m, q) 13 2 3 = some 198 := ga_ok kk_13 rfl (Nat.le_of_ble_eq_true rfl) rfl
theorem gac_13_4 {m : Nat → Nat → Int32} {q : Nat → Nat → Int64} : mk_ga (KS, m, q) 13 2 4 = some 200 := ga_ok kk_13 rfl (Nat.le_of_ble_eq_true rfl) rfl
theorem gac_13_5 {m : Nat → Nat → Int32} {q : Nat → Nat → Int64} : mk_ga (KS, m, q) 13 2 5 = some 208 := ga_ok kk_13 rfl (Nat.le_of_ble_eq_true rfl) rfl
theorem gac_13_6 {m : Nat → Nat → Int32} {q : Nat → Nat → Int64} : mk_ga (KS, m, q) 13 2 6 = some 209 := ga_ok kk_13 rfl (Nat.le_of_ble_eq_true rfl) rfl
theorem gac_13_7 {m : Nat → Nat → Int32} {q : Nat → Nat → Int64} : mk_ga (KS, m, q) 13 2 7 = some 210 := ga_ok kk_13 rfl (Nat.le_of_ble_eq_true rfl) rfl
theorem gac_13_8 {m : Nat → Nat → Int32} {q : Nat → Nat → Int64} : mk_ga (KS, m, q) 13 2 8 = some 211 := ga_ok kk_13 rfl (Nat.le_of_ble_eq_true rfl) rfl
theorem gac_13_9 {m : Nat → Nat → Int32} {q : Nat → Nat → Int64} : mk_ga (KS, m, q) 13 2 9 = some 212 := ga_ok kk_13 rfl (Nat.le_of_ble_eq_true rfl) rfl
theorem gic_13_10 {m : Nat → Nat → Int32} {q : Nat → Nat → Int64} : mk_gi (KS, m, q) 13 2 10 = some (m 13 10) := gi_ok kk_13 rfl (Nat.le_of_ble_eq_true rfl)
theorem pic_13_10 {m : Nat → Nat → Int32} {q : Nat → Nat → Int64} {v : Int32} : mk_pi (KS, m, q) 13 2 10 v = some (KS, mk_u2 m 13 10 v, q) := pi_ok kk_13 rfl (Nat.le_of_ble_eq_true rfl)
theorem gic_13_11 {m : Nat → Nat → Int32} {q : Nat → Nat → Int64} : mk_gi (KS, m, q) 13 2 11 = some (m 13 11) := gi_ok kk_13 rfl (Nat.le_of_ble_eq_true rfl)
theorem pic_13_11 {m : Nat → Nat → Int32} {q : Nat → Nat → Int64} {v : Int32} : mk_pi (KS, m, q) 13 2 11 v = some (KS, mk_u2 m 13 11 v, q) := pi_ok kk_13 rfl (Nat.le_of_ble_eq_true rfl)
theorem gic_13_12 {m : Nat → Nat → Int32} {q : Nat → Nat → Int64} : mk_gi (KS, m, q) 13 2 12 = some (m 13 12) := gi_ok kk_13 rfl (Nat.le_of_ble_eq_true rfl)
theorem pic_13_12 {m : Nat → Nat → Int32} {q : Nat → Nat → Int64} {v : Int32} : mk_pi (KS, m, q) 13 2 12 v = some (KS, mk_u2 m 13 12 v, q) := pi_ok kk_13 rfl (Nat.le_of_ble_eq_true rfl)
theorem gic_13_13 {m : Nat → Nat → Int32} {q : Nat → Nat → Int64} : mk_gi (KS, m, q) 13 2 13 = some (m 13 13) := gi_ok kk_13 rfl (Nat.le_of_ble_eq_true rfl)
theorem pic_13_13 {m : Nat → Nat → Int32} {q : Nat → Nat → Int64} {v : Int32} : mk_pi (KS, m, q) 13 2 13 v = some (KS, mk_u2 m 13 13 v, q) := pi_ok kk_13 rfl (Nat.le_of_ble_eq_true rfl)
theorem gdc_14 {β : Type} {m : Nat → Nat → Int32} {q : Nat → Nat → Int64} {o : Option β} : mk_gd (KS, m, q) 14 9 o = o := gd_ok kk_14 rfl
theorem gac_14_0 {m : Nat → Nat → Int32} {q : Nat → Nat → Int64} : mk_ga (KS, m, q) 14 9 0 = some 15 := ga_ok kk_14 rfl (Nat.le_of_ble_eq_true rfl) rfl
theorem gac_14_1 {m : Nat → Nat → Int32} {q : Nat → Nat → Int64} : mk_ga (KS, m, q) 14 9 1 = some 23 := ga_ok kk_14 rfl (Nat.le_of_ble_eq_true rfl) rfl
theorem gac_14_2 {m : Nat → Nat → Int32} {q : Nat → Nat → Int64} : mk_ga (KS, m, q) 14 9 2 = some 31 := ga_ok kk_14 rfl (Nat.le_of_ble_eq_true rfl) rfl
theorem gac_14_3 {m : Nat → Nat → Int32} {q : Nat → Nat → Int64} : mk_ga (KS, m, q) 14 9 3 = some 193 := ga_ok kk_14 rfl (Nat.le_of_ble_eq_true rfl) rfl
theorem gic_14_4 {m : Nat → Nat → Int32} {q : Nat → Nat → Int64} : mk_gi (KS, m, q) 14 9 4 = some (m 14 4) := gi_ok kk_14 rfl (Nat.le_of_ble_eq_true rfl)
theorem pic_14_4 {m : Nat → Nat → Int32} {q : Nat → Nat → Int64} {v : Int32} : mk_pi (KS, m, q) 14 9 4 v = some (KS, mk_u2 m 14 4 v, q) := pi_ok kk_14 rfl (Nat.le_of_ble_eq_true rfl)
theorem gic_14_5 {m : Nat → Nat → Int32} {q : Nat → Nat → Int64} : mk_gi (KS, m, q) 14 9 5 = some (m 14 5) := gi_ok kk_14 rfl (Nat.le_of_ble_eq_true rfl)
theorem pic_14_5 {m : Nat → Nat → Int32} {q : Nat → Nat → Int64} {v : Int32} : mk_pi (KS, m, q) 14 9 5 v = some (KS, mk_u2 m 14 5 v, q) := pi_ok kk_14 rfl (Nat.le_of_ble_eq_true rfl)
theorem gdc_15 {β : Type} {m : Nat → Nat → Int32} {q : Nat → Nat → Int64} {o : Option β} : mk_gd (KS, m, q) 15 3 o = o := gd_ok kk_15 rfl
theorem gic_15_0 {m : Nat → Nat → Int32} {q : Nat → Nat → Int64} : mk_gi (KS, m, q) 15 3 0 = some (m 15 0) := gi_ok kk_15 rfl (Nat.le_of_ble_eq_true rfl)
theorem pic_15_0 {m : Nat → Nat → Int32} {q : Nat → Nat → Int64} {v : Int32} : mk_pi (KS, m, q) 15 3 0 v = some (KS, mk_u2 m 15 0 v, q) := pi_ok kk_15 rfl (Nat.le_of_ble_eq_true rfl)
theorem gic_15_1 {m : Nat → Nat → Int32} {q : Nat → Nat → Int64} : mk_gi (KS, m, q) 15 3 1 = some (m 15 1) := gi_ok kk_15 rfl (Nat.le_of_ble_eq_true rfl)
theorem pic_15_1 {m : Nat → Nat → Int32} {q : Nat → Nat → Int64} {v : Int32} : mk_pi (KS, m, q) 15 3 1 v = some (KS, mk_u2 m 15 1 v, q) := pi_ok kk_15 rfl (Nat.le_of_ble_eq_true rfl)
theorem gic_15_2 {m : Nat → Nat → Int32} {q : Nat → Nat → Int64} : mk_gi (KS, m, q) 15 3 2 = some (m 15 2) := gi_ok kk_15 rfl (Nat.le_of_ble_eq_true rfl)
theorem pic_15_2 {m : Nat → Nat → Int32} {q : Nat → Nat → Int64} {v : Int32} : mk_pi (KS, m, q) 15 3 2 v = some (KS, mk_u2 m 15 2 v, q) := pi_ok kk_15 rfl (Nat.le_of_ble_eq_true rfl)
theorem gic_15_3 {m : Nat → Nat → Int32} {q : Nat → Nat → Int64} : mk_gi (KS, m, q) 15 3 3 = some (m 15 3) := gi_ok kk_15 rfl (Nat.le_of_ble_eq_true rfl)
theorem pic_15_3 {m : Nat → Nat → Int32} {q : Nat → Nat → Int64} {v : Int32} : mk_pi (KS, m, q) 15 3 3 v = some (KS, mk_u2 m 15 3 v, q) := pi_ok kk_15 rfl (Nat.le_of_ble_eq_true rfl)
theorem gic_15_4 {m : Nat → Nat → Int32} {q : Nat → Nat → Int64} : mk_gi (KS, m, q) 15 3 4 = some (m 15 4) := gi_ok kk_15 rfl (Nat.le_of_ble_eq_true rfl)
theorem pic_15_4 {m : Nat → Nat → Int32} {q : Nat → Nat → Int64} {v : Int32} : mk_pi (KS, m, q) 15 3 4 v = some (KS, mk_u2 m 15 4 v, q) := pi_ok kk_15 rfl (Nat.le_of_ble_eq_true rfl)
theorem gac_15_5 {m : Nat → Nat → Int32} {q : Nat → Nat → Int64} : mk_ga (KS, m, q) 15 3 5 = some 16 := ga_ok kk_15 rfl (Nat.le_of_ble_eq_true rfl) rfl
theorem gac_15_6 {m : Nat → Nat → Int32} {q : Nat → Nat → Int64} : mk_ga (KS, m, q) 15 3 6 = some 17 := ga_ok kk_15 rfl (Nat.le_of_ble_eq_true rfl) rfl
theorem gac_15_7 {m : Nat → Nat → Int32} {q : Nat → Nat → Int64} : mk_ga (KS, m, q) 15 3 7 = some 18 := ga_ok kk_15 rfl (Nat.le_of_ble_eq_true rfl) rfl
theorem gac_15_8 {m : Nat → Nat → Int32} {q : Nat → Nat → Int64} : mk_ga (KS, m, q) 15 3 8 = some 19 := ga_ok kk_15 rfl (Nat.le_of_ble_eq_true rfl) rfl
theorem gac_15_9 {m : Nat → Nat → Int32} {q : Nat → Nat → Int64} : mk_ga (KS, m, q) 15 3 9 = some 20 := ga_ok kk_15 rfl (Nat.le_of_ble_eq_true rfl) rfl
theorem gac_15_10 {m : Nat → Nat → Int32} {q : Nat → Nat → Int64} : mk_ga (KS, m, q) 15 3 10 = some 21 := ga_ok kk_15 rfl (Nat.le_of_ble_eq_true rfl) rfl
theorem gac_15_11 {m : Nat → Nat → Int32} {q : Nat → Nat → Int64} : mk_ga (KS, m, q) 15 3 11 = some 22 := ga_ok kk_15 rfl (Nat.le_of_ble_eq_true rfl) rfl
theorem gdc_23 {β : Type} {m : Nat → Nat → Int32} {q : Nat → Nat → Int64} {o : Option β} : mk_gd (KS, m, q) 23 6 o = o := gd_ok kk_23 rfl
theorem gac_23_0 {m : Nat → Nat → Int32} {q : Nat → Nat → Int64} : mk_ga (KS, m, q) 23 6 0 = some 24 := ga_ok kk_23 rfl (Nat.le_of_ble_eq_true rfl) rfl
theorem gac_23_1 {m : Nat → Nat → Int32} {q : Nat → Nat → Int64} : mk_ga (KS, m, q) 23 6 1 = some 25 := ga_ok kk_23 rfl (Nat.le_of_ble_eq_true rfl) rfl
theorem gac_23_2 {m : Nat → Nat → Int32} {q : Nat → Nat → Int64} : mk_ga (KS, m, q) 23 6 2 = some 26 := ga_ok kk_23 rfl (Nat.le_of_ble_eq_true rfl) rfl
theorem gac_23_3 {m : Nat → Nat → Int32} {q : Nat → Nat → Int64} : mk_ga (KS, m, q) 23 6 3 = some 27 := ga_ok kk_23 rfl (Nat.le_of_ble_eq_true rfl) rfl
theorem gac_23_4 {m : Nat → Nat → Int32} {q : Nat → Nat → Int64} : mk_ga (KS, m, q) 23 6 4 = some 28 := ga_ok kk_23 rfl (Nat.le_of_ble_eq_true rfl) rfl
theorem gac_23_5 {m : Nat → Nat → Int32} {q : Nat → Nat → Int64} : mk_ga (KS, m, q) 23 6 5 = some 29 := ga_ok kk_23 rfl (Nat.le_of_ble_eq_true rfl) rfl
theorem gac_23_6 {m : Nat → Nat → Int32} {q : Nat → Nat → Int64} : mk_ga (KS, m, q) 23 6 6 = some 30 := ga_ok kk_23 rfl (Nat.le_of_ble_eq_true rfl) rfl
theorem gic_23_7 {m : Nat → Nat → Int32} {q : Nat → Nat → Int64} : mk_gi (KS, m, q) 23 6 7 = some (m 23 7) := gi_ok kk_23 rfl (Nat.le_of_ble_eq_true rfl)
theorem pic_23_7 {m : Nat → Nat → Int32} {q : Nat → Nat → Int64} {v : Int32} : mk_pi (KS, m, q) 23 6 7 v = some (KS, mk_u2 m 23 7 v, q) := pi_ok kk_23 rfl (Nat.le_of_ble_eq_true rfl)
theorem gic_23_8 {m : Nat → Nat → Int32} {q : Nat → Nat → Int64} : mk_gi (KS, m, q) 23 6 8 = some (m 23 8) := gi_ok kk_23 rfl (Nat.le_of_ble_eq_true rfl)
theorem pic_23_8 {m : Nat → Nat → Int32} {q : Nat → Nat → Int64} {v : Int32} : mk_pi (KS, m, q) 23 6 8 v = some (KS, mk_u2 m 23 8 v, q) := pi_ok kk_23 rfl (Nat.le_of_ble_eq_true rfl)
theorem gdc_31 {β : Type} {m : Nat → Nat → Int32} {q : Nat → Nat → Int64} {o : Option β} : mk_gd (KS, m, q) 31 0 o = o := gd_ok kk_31 rfl
theorem gac_31_0 {m : Nat → Nat → Int32} {q : Nat → Nat → Int64} : mk_ga (KS, m, q) 31 0 0 = some 32 := ga_ok kk_31 rfl (Nat.le_of_ble_eq_true rfl) rfl
theorem gic_31_1 {m : Nat → Nat → Int32} {q : Nat → Nat → Int64} : mk_gi (KS, m, q) 31 0 1 = some (m 31 1) := gi_ok kk_31 rfl (Nat.le_of_ble_eq_true rfl)
theorem pic_31_1 {m : Nat → Nat → Int32} {q : Nat → Nat → Int64} {v : Int32} : mk_pi (KS, m, q) 31 0 1 v = some (KS, mk_u2 m 31 1 v, q) := pi_ok kk_31 rfl (Nat.le_of_ble_eq_true rfl)
theorem gic_31_2 {m : Nat → Nat → Int32} {q : Nat → Nat → Int64} : mk_gi (KS, m, q) 31 0 2 = some (m 31 2) := gi_ok kk_31 rfl (Nat.le_of_ble_eq_true rfl)
theorem pic_31_2 {m : Nat → Nat → Int32} {q : Nat → Nat → Int64} {v : Int32} : mk_pi (KS, m, q) 31 0 2 v = some (KS, mk_u2 m 31 2 v, q) := pi_ok kk_31 rfl (Nat.le_of_ble_eq_true rfl)
theorem gdc_193 {β : Type} {m : Nat → Nat → Int32} {q : Nat → Nat → Int64} {o : Option β} : mk_gd (KS, m, q) 193 1 o = o := gd_ok kk_193 rfl
theorem gac_193_0 {m : Nat → Nat → Int32} {q : Nat → Nat → Int64} : mk_ga (KS, m, q) 193 1 0 = some 194 := ga_ok kk_193 rfl (Nat.le_of_ble_eq_true rfl) rfl
theorem gac_193_1 {m : Nat → Nat → Int32} {q : Nat → Nat → Int64} : mk_ga (KS, m, q) 193 1 1 = some 195 := ga_ok kk_193 rfl (Nat.le_of_ble_eq_true rfl) rfl
theorem gac_193_2 {m : Nat → Nat → Int32} {q : Nat → Nat → Int64} : mk_ga (KS, m, q) 193 1 2 = some 196 := ga_ok kk_193 rfl (Nat.le_of_ble_eq_true rfl) rfl
theorem gic_193_3 {m : Nat → Nat → Int32} {q : Nat → Nat → Int64} : mk_gi (KS, m, q) 193 1 3 = some (m 193 3) := gi_ok kk_193 rfl (Nat.le_of_ble_eq_true rfl)
theorem pic_193_3 {m : Nat → Nat → Int32} {q : Nat → Nat → Int64} {v : Int32} : mk_pi (KS, m, q) 193 1 3 v = some (KS, mk_u2 m 193 3 v, q) := pi_ok kk_193 rfl (Nat.le_of_ble_eq_true rfl)
theorem gdc_198 {β : Type} {m : Nat → Nat → Int32} {q : Nat → Nat → Int64} {o : Option β} : mk_gd (KS, m, q) 198 8 o = o := gd_ok kk_198 rfl
theorem gac_198_0 {m : Nat → Nat → Int32} {q : Nat → Nat → Int64} : mk_ga (KS, m, q) 198 8 0 = some 199 := ga_ok kk_198 rfl (Nat.le_of_ble_eq_true rfl) rfl
theorem gdc_200 {β : Type} {m : Nat → Nat → Int32} {q : Nat → Nat → Int64} {o : Option β} : mk_gd (KS, m, q) 200 6 o = o := gd_ok kk_200 rfl
theorem gac_200_0 {m : Nat → Nat → Int32} {q : Nat → Nat → Int64} : mk_ga (KS, m, q) 200 6 0 = some 201 := ga_ok kk_200 rfl (Nat.le_of_ble_eq_true rfl) rfl
theorem gac_200_1 {m : Nat → Nat → Int32} {q : Nat → Nat → Int64} : mk_ga (KS, m, q) 200 6 1 = some 202 := ga_ok kk_200 rfl (Nat.le_of_ble_eq_true rfl) rfl
theorem gac_200_2 {m : Nat → Nat → Int32} {q : Nat → Nat → Int64} : mk_ga (KS, m, q) 200 6 2 = some 203 := ga_ok kk_200 rfl (Nat.le_of_ble_eq_true rfl) rfl
theorem gac_200_3 {m : Nat → Nat → Int32} {q : Nat → Nat → Int64} : mk_ga (KS, m, q) 200 6 3 = some 204 := ga_ok kk_200 rfl (Nat.le_of_ble_eq_true rfl) rfl
theorem gac_200_4 {m : Nat → Nat → Int32} {q : Nat → Nat → Int64} : mk_ga (KS, m, q) 200 6 4 = some 205 := ga_ok kk_200 rfl (Nat.le_of_ble_eq_true rfl) rfl
theorem gac_200_5 {m : Nat → Nat → Int32} {q : Nat → Nat → Int64} : mk_ga (KS, m, q) 200 6 5 = some 206 := ga_ok kk_200 rfl (Nat.le_of_ble_eq_true rfl) rfl
theorem gac_200_6 {m : Nat → Nat → Int32} {q : Nat → Nat → Int64} : mk_ga (KS, m, q) 200 6 6 = some 207 := ga_ok kk_200 rfl (Nat.le_of_ble_eq_true rfl) rfl
theorem gic_200_7 {m : Nat → Nat → Int32} {q : Nat → Nat → Int64} : mk_gi (KS, m, q) 200 6 7 = some (m 200 7) := gi_ok kk_200 rfl (Nat.le_of_ble_eq_true rfl)
theorem pic_200_7 {m : Nat → Nat → Int32} {q : Nat → Nat → Int64} {v : Int32} : mk_pi (KS, m, q) 200 6 7 v = some (KS, mk_u2 m 200 7 v, q) := pi_ok kk_200 rfl (Nat.le_of_ble_eq_true rfl)
theorem gic_200_8 {m : Nat → Nat → Int32} {q : Nat → Nat → Int64} : mk_gi (KS, m, q) 200 6 8 = some (m 200 8) := gi_ok kk_200 rfl (Nat.le_of_ble_eq_true rfl)
theorem pic_200_8 {m : Nat → Nat → Int32} {q : Nat → Nat → Int64} {v : Int32} : mk_pi (KS, m, q) 200 6 8 v = some (KS, mk_u2 m 200 8 v, q) := pi_ok kk_200 rfl (Nat.le_of_ble_eq_true rfl)
theorem lda_ok {m : Nat → Nat → Int32} {q : Nat → Nat → Int64} {a tag n j b : Nat} {R : List (Option Nat)} (h : KS[a]? = some (tag, n, R)) (hj : j < n) (hn : n ≤ 1000) (hb : R.getD j none = some b) : mk_lda tag (KS, m, q) a (nI j) = some b := by
  unfold mk_lda
  simp only [h]
  rw [if_pos ⟨trivial, nI_in hj (by omega)⟩, nI_clamp (by omega)]
  exact hb
theorem lda_197_b : ∀ j, j < 6 → ([some 220, some 227, some 234, some 241, some 248, some 255] : List (Option Nat)).getD j none = some (220 + 7 * j) := by decide +kernel
theorem lda_197 {m : Nat → Nat → Int32} {q : Nat → Nat → Int64} {j : Nat} (h : j < 6) : mk_lda (100 + 5) (KS, m, q) 197 (nI j) = some (220 + 7 * j) := lda_ok kk_197 h (by omega) (lda_197_b j h)
theorem lda_262_b : ∀ j, j < 4 → ([some 264, some 447, some 630, some 813] : List (Option Nat)).getD j none = some (264 + 183 * j) := by decide +kernel
theorem lda_262 {m : Nat → Nat → Int32} {q : Nat → Nat → Int64} {j : Nat} (h : j < 4) : mk_lda (100 + 6) (KS, m, q) 262 (nI j) = some (264 + 183 * j) := lda_ok kk_262 h (by omega) (lda_262_b j h)
theorem lda_212_b : ∀ j, j < 7 → ([some 213, some 214, some 215, some 216, some 217, some 218, some 219] : List (Option Nat)).getD j none = some (213 + 1 * j) := by decide +kernel
theorem lda_212 {m : Nat → Nat → Int32} {q : Nat → Nat → Int64} {j : Nat} (h : j < 7) : mk_lda (100 + 7) (KS, m, q) 212 (nI j) = some (213 + 1 * j) := lda_ok kk_212 h (by omega) (lda_212_b j h)
theorem lda_32_b : ∀ j, j < 20 → ([some 33, some 41, some 49, some 57, some 65, some 73, some 81, some 89, some 97, some 105, some 113, some 121, some 129, some 137, some 145, some 153, some 161, some 169, some 177, some 185] : List (Option Nat)).getD j none = some (33 + 8 * j) := by decide +kernel
theorem lda_32 {m : Nat → Nat → Int32} {q : Nat → Nat → Int64} {j : Nat} (h : j < 20) : mk_lda (100 + 4) (KS, m, q) 32 (nI j) = some (33 + 8 * j) := lda_ok kk_32 h (by omega) (lda_32_b j h)
