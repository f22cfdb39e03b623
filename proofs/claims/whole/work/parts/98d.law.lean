/-! the law goes over the script -/
set_option maxRecDepth 4000 in
theorem ldX {m : Nat → Nat → Int32} {q : Nat → Nat → Int64} {L j : Nat} (h : m 3000000 0 = nI L) (hL : L ≤ 3072) (hj : j < L) : mk_ld 100 (KS, m, q) 3000000 (nI j) = some (m 3000000 (j + 1)) := by
  unfold mk_ld
  rw [if_pos (by omega), if_pos ⟨by decide, rfl⟩]
  have e1 : (m 3000000 0).toNatClampNeg = L := by rw [h]; exact nI_clamp (by omega)
  have e2 : (nI j).toNatClampNeg = j := nI_clamp (by omega)
  show (if nI j < 0 ∨ (m 3000000 0).toNatClampNeg ≤ (nI j).toNatClampNeg then none else some (m 3000000 ((nI j).toNatClampNeg + 1))) = _
  rw [e1, e2, if_neg]
  rintro (c | c)
  · exact nI_pos (by omega) c
  · omega
set_option maxRecDepth 4000 in
theorem lnX {m : Nat → Nat → Int32} {q : Nat → Nat → Int64} {L : Nat} (h : m 3000000 0 = nI L) (hL : L ≤ 3072) : mk_len (KS, m, q) 3000000 = some (nI L) := by
  unfold mk_len
  rw [if_pos (by omega), if_pos (by decide)]
  have e1 : (m 3000000 0).toNatClampNeg = L := by rw [h]; exact nI_clamp (by omega)
  show some (Int32.ofNat (m 3000000 0).toNatClampNeg) = _
  rw [e1]
  rfl
set_option maxRecDepth 4000 in
theorem ks_len : KS.length = 1041 := by decide +kernel
set_option maxRecDepth 4000 in
theorem ke_m {α : Type} {m m1 : Nat → Nat → Int32} {q q1 : Nat → Nat → Int64} {o : Option (α × mk_S)} {a : α} (h : KeP (KS, m, q) o) (h2 : o = some (a, (KS, m1, q1))) : m1 3000000 = m 3000000 := (h _ h2).2 3000000 (by show KS.length ≤ _; rw [ks_len]; omega)
set_option maxRecDepth 4000 in
theorem cndX {L i : Nat} (hL : L ≤ 3072) (hi : i ≤ 4000) : (nI L - (6 : Int32) < nI i) ↔ L < i + 6 := by
  show nI L - nI 6 < nI i ↔ _
  rcases Nat.lt_or_ge L 6 with c | c
  · refine ⟨fun _ => by omega, fun _ => ?_⟩
    rw [Int32.lt_iff_toInt_lt, pk_sub_toInt (by omega) (by omega), nI_toInt (by omega)]
    omega
  · rw [pk_sub c, nI_ltI (by omega) (by omega)]
    omega
set_option maxRecDepth 4000 in
theorem lwB {f i L : Nat} {m : Nat → Nat → Int32} {q : Nat → Nat → Int64} (h : m 3000000 0 = nI L) (hL : L ≤ 3072) (hi : i + 6 ≤ L) : B_L_law_18 (f + 1) 3000000 0 996 (nI i) (KS, m, q) = if ((m 3000000 (i + 1)) &&& (63 : Int32)) = (0 : Int32) then ((mk_ld 100 (KS, m, q) 3000000 ((nI i) + (1 : Int32))).bind fun v3 => (mk_ld 100 (KS, m, q) 3000000 ((nI i) + (2 : Int32))).bind fun v4 => (mk_ld 100 (KS, m, q) 3000000 ((nI i) + (3 : Int32))).bind fun v5 => (mk_ld 100 (KS, m, q) 3000000 ((nI i) + (4 : Int32))).bind fun v6 => (mk_ld 100 (KS, m, q) 3000000 ((nI i) + (5 : Int32))).bind fun v7 => (F_X11_feed 0 v3 v4 v5 v6 v7 (KS, m, q)).bind fun z8 => (mk_ld 100 z8.2 3000000 ((nI i) + (1 : Int32))).bind fun v9 => (mk_ld 100 z8.2 3000000 ((nI i) + (2 : Int32))).bind fun v10 => (mk_ld 100 z8.2 3000000 ((nI i) + (3 : Int32))).bind fun v11 => (mk_ld 100 z8.2 3000000 ((nI i) + (4 : Int32))).bind fun v12 => (mk_ld 100 z8.2 3000000 ((nI i) + (5 : Int32))).bind fun v13 => (F_X12_feed 996 v9 v10 v11 v12 v13 z8.2).bind fun z14 => if z8.1 = z14.1 then (B_L_law_1293 (B_L_law_18 f) 3000000 0 996 (nI i) z14.2) else (mk_rz (0 : Int32) z14.2)) else (if ((m 3000000 (i + 1)) &&& (63 : Int32)) = (1 : Int32) then ((mk_ld 100 (KS, m, q) 3000000 ((nI i) + (1 : Int32))).bind fun v15 => (F_X11_end 0 v15 (KS, m, q)).bind fun z16 => (mk_ld 100 z16.2 3000000 ((nI i) + (1 : Int32))).bind fun v17 => (F_X12_end 996 v17 z16.2).bind fun z18 => if z16.1 = z18.1 then (B_L_law_1293 (B_L_law_18 f) 3000000 0 996 (nI i) z18.2) else (mk_rz (0 : Int32) z18.2)) else (if ((m 3000000 (i + 1)) &&& (63 : Int32)) = (2 : Int32) then ((F_X11_plateau 0 (KS, m, q)).bind fun z19 => (F_X12_plateau 996 z19.2).bind fun z20 => if z19.1 = z20.1 then (B_L_law_1293 (B_L_law_18 f) 3000000 0 996 (nI i) z20.2) else (mk_rz (0 : Int32) z20.2)) else (if ((m 3000000 (i + 1)) &&& (63 : Int32)) = (3 : Int32) then ((F_X11_rule 0 (KS, m, q)).bind fun z21 => (F_X12_rule 996 z21.2).bind fun z22 => if z21.1 = z22.1 then (B_L_law_1293 (B_L_law_18 f) 3000000 0 996 (nI i) z22.2) else (mk_rz (0 : Int32) z22.2)) else (if ((m 3000000 (i + 1)) &&& (63 : Int32)) = (4 : Int32) then ((mk_ld 100 (KS, m, q) 3000000 ((nI i) + (1 : Int32))).bind fun v23 => (F_X11_force 0 v23 (KS, m, q)).bind fun z24 => (mk_ld 100 z24.2 3000000 ((nI i) + (1 : Int32))).bind fun v25 => (F_X12_force 996 v25 z24.2).bind fun z26 => if z24.1 = z26.1 then (B_L_law_1293 (B_L_law_18 f) 3000000 0 996 (nI i) z26.2) else (mk_rz (0 : Int32) z26.2)) else (if ((m 3000000 (i + 1)) &&& (63 : Int32)) = (5 : Int32) then ((mk_ld 100 (KS, m, q) 3000000 ((nI i) + (1 : Int32))).bind fun v27 => (mk_ld 100 (KS, m, q) 3000000 ((nI i) + (2 : Int32))).bind fun v28 => (F_X11_person 0 v27 v28 (KS, m, q)).bind fun z29 => (mk_ld 100 z29.2 3000000 ((nI i) + (1 : Int32))).bind fun v30 => (mk_ld 100 z29.2 3000000 ((nI i) + (2 : Int32))).bind fun v31 => (F_X12_person 996 v30 v31 z29.2).bind fun z32 => if z29.1 = z32.1 then (B_L_law_1293 (B_L_law_18 f) 3000000 0 996 (nI i) z32.2) else (mk_rz (0 : Int32) z32.2)) else (if ((m 3000000 (i + 1)) &&& (63 : Int32)) = (6 : Int32) then ((mk_ld 100 (KS, m, q) 3000000 ((nI i) + (1 : Int32))).bind fun v33 => (mk_ld 100 (KS, m, q) 3000000 ((nI i) + (2 : Int32))).bind fun v34 => (F_X11_mill 0 v33 v34 (KS, m, q)).bind fun z35 => (mk_ld 100 z35.2 3000000 ((nI i) + (1 : Int32))).bind fun v36 => (mk_ld 100 z35.2 3000000 ((nI i) + (2 : Int32))).bind fun v37 => (F_X12_mill 996 v36 v37 z35.2).bind fun z38 => if z35.1 = z38.1 then (B_L_law_1293 (B_L_law_18 f) 3000000 0 996 (nI i) z38.2) else (mk_rz (0 : Int32) z38.2)) else (if ((m 3000000 (i + 1)) &&& (63 : Int32)) = (7 : Int32) then ((mk_ld 100 (KS, m, q) 3000000 ((nI i) + (1 : Int32))).bind fun v39 => (mk_ld 100 (KS, m, q) 3000000 ((nI i) + (2 : Int32))).bind fun v40 => (F_X11_roof 0 v39 v40 (KS, m, q)).bind fun z41 => (mk_ld 100 z41.2 3000000 ((nI i) + (1 : Int32))).bind fun v42 => (mk_ld 100 z41.2 3000000 ((nI i) + (2 : Int32))).bind fun v43 => (F_X12_roof 996 v42 v43 z41.2).bind fun z44 => if z41.1 = z44.1 then (B_L_law_1293 (B_L_law_18 f) 3000000 0 996 (nI i) z44.2) else (mk_rz (0 : Int32) z44.2)) else (if ((m 3000000 (i + 1)) &&& (63 : Int32)) = (8 : Int32) then ((mk_ld 100 (KS, m, q) 3000000 ((nI i) + (1 : Int32))).bind fun v45 => (F_X11_wind 0 v45 (KS, m, q)).bind fun z46 => (mk_ld 100 z46.2 3000000 ((nI i) + (1 : Int32))).bind fun v47 => (F_X12_wind 996 v47 z46.2).bind fun z48 => if z46.1 = z48.1 then (B_L_law_1293 (B_L_law_18 f) 3000000 0 996 (nI i) z48.2) else (mk_rz (0 : Int32) z48.2)) else (if ((m 3000000 (i + 1)) &&& (63 : Int32)) = (9 : Int32) then ((F_X11_hour 0 (KS, m, q)).bind fun z49 => (F_X12_hour 996 z49.2).bind fun z50 => if z49.1 = z50.1 then (B_L_law_1293 (B_L_law_18 f) 3000000 0 996 (nI i) z50.2) else (mk_rz (0 : Int32) z50.2)) else (if ((m 3000000 (i + 1)) &&& (63 : Int32)) = (10 : Int32) then ((mk_ld 100 (KS, m, q) 3000000 ((nI i) + (1 : Int32))).bind fun v51 => (mk_ld 100 (KS, m, q) 3000000 ((nI i) + (2 : Int32))).bind fun v52 => (F_X11_wine 0 v51 v52 (KS, m, q)).bind fun z53 => (mk_ld 100 z53.2 3000000 ((nI i) + (1 : Int32))).bind fun v54 => (mk_ld 100 z53.2 3000000 ((nI i) + (2 : Int32))).bind fun v55 => (F_X12_wine 996 v54 v55 z53.2).bind fun z56 => if z53.1 = z56.1 then (B_L_law_1293 (B_L_law_18 f) 3000000 0 996 (nI i) z56.2) else (mk_rz (0 : Int32) z56.2)) else (if ((m 3000000 (i + 1)) &&& (63 : Int32)) = (11 : Int32) then ((mk_ld 100 (KS, m, q) 3000000 ((nI i) + (1 : Int32))).bind fun v57 => (mk_ld 100 (KS, m, q) 3000000 ((nI i) + (2 : Int32))).bind fun v58 => (F_X11_place 0 v57 v58 (KS, m, q)).bind fun z59 => (mk_ld 100 z59.2 3000000 ((nI i) + (1 : Int32))).bind fun v60 => (mk_ld 100 z59.2 3000000 ((nI i) + (2 : Int32))).bind fun v61 => (F_X12_place 996 v60 v61 z59.2).bind fun z62 => if z59.1 = z62.1 then (B_L_law_1293 (B_L_law_18 f) 3000000 0 996 (nI i) z62.2) else (mk_rz (0 : Int32) z62.2)) else (if ((m 3000000 (i + 1)) &&& (63 : Int32)) = (12 : Int32) then ((mk_ld 100 (KS, m, q) 3000000 ((nI i) + (1 : Int32))).bind fun v63 => (mk_ld 100 (KS, m, q) 3000000 ((nI i) + (2 : Int32))).bind fun v64 => (F_X11_face 0 v63 v64 (KS, m, q)).bind fun z65 => (mk_ld 100 z65.2 3000000 ((nI i) + (1 : Int32))).bind fun v66 => (mk_ld 100 z65.2 3000000 ((nI i) + (2 : Int32))).bind fun v67 => (F_X12_face 996 v66 v67 z65.2).bind fun z68 => if z65.1 = z68.1 then (B_L_law_1293 (B_L_law_18 f) 3000000 0 996 (nI i) z68.2) else (mk_rz (0 : Int32) z68.2)) else (if ((m 3000000 (i + 1)) &&& (63 : Int32)) = (13 : Int32) then ((mk_ld 100 (KS, m, q) 3000000 ((nI i) + (1 : Int32))).bind fun v69 => (F_X11_mend 0 v69 (KS, m, q)).bind fun z70 => (mk_ld 100 z70.2 3000000 ((nI i) + (1 : Int32))).bind fun v71 => (F_X12_mend 996 v71 z70.2).bind fun z72 => if z70.1 = z72.1 then (B_L_law_1293 (B_L_law_18 f) 3000000 0 996 (nI i) z72.2) else (mk_rz (0 : Int32) z72.2)) else (if ((m 3000000 (i + 1)) &&& (63 : Int32)) = (14 : Int32) then ((F_X11_undo 0 (KS, m, q)).bind fun z73 => (F_X12_undo 996 z73.2).bind fun z74 => if z73.1 = z74.1 then (B_L_law_1293 (B_L_law_18 f) 3000000 0 996 (nI i) z74.2) else (mk_rz (0 : Int32) z74.2)) else (if ((m 3000000 (i + 1)) &&& (63 : Int32)) = (15 : Int32) then ((mk_ld 100 (KS, m, q) 3000000 ((nI i) + (1 : Int32))).bind fun v75 => (mk_ld 100 (KS, m, q) 3000000 ((nI i) + (2 : Int32))).bind fun v76 => (mk_ld 100 (KS, m, q) 3000000 ((nI i) + (3 : Int32))).bind fun v77 => (F_X11_ahead 0 v75 v76 v77 (KS, m, q)).bind fun z78 => (mk_ld 100 z78.2 3000000 ((nI i) + (1 : Int32))).bind fun v79 => (mk_ld 100 z78.2 3000000 ((nI i) + (2 : Int32))).bind fun v80 => (mk_ld 100 z78.2 3000000 ((nI i) + (3 : Int32))).bind fun v81 => (F_X12_ahead 996 v79 v80 v81 z78.2).bind fun z82 => if z78.1 = z82.1 then (B_L_law_1293 (B_L_law_18 f) 3000000 0 996 (nI i) z82.2) else (mk_rz (0 : Int32) z82.2)) else (if ((m 3000000 (i + 1)) &&& (63 : Int32)) = (16 : Int32) then ((mk_ld 100 (KS, m, q) 3000000 ((nI i) + (1 : Int32))).bind fun v83 => (F_X11_whim 0 v83 (KS, m, q)).bind fun z84 => (mk_ld 100 z84.2 3000000 ((nI i) + (1 : Int32))).bind fun v85 => (F_X12_whim 996 v85 z84.2).bind fun z86 => if z84.1 = z86.1 then (B_L_law_1293 (B_L_law_18 f) 3000000 0 996 (nI i) z86.2) else (mk_rz (0 : Int32) z86.2)) else (if ((m 3000000 (i + 1)) &&& (63 : Int32)) = (17 : Int32) then ((mk_ld 100 (KS, m, q) 3000000 ((nI i) + (1 : Int32))).bind fun v87 => (F_X11_storm 0 v87 (KS, m, q)).bind fun z88 => (mk_ld 100 z88.2 3000000 ((nI i) + (1 : Int32))).bind fun v89 => (F_X12_storm 996 v89 z88.2).bind fun z90 => if z88.1 = z90.1 then (B_L_law_1293 (B_L_law_18 f) 3000000 0 996 (nI i) z90.2) else (mk_rz (0 : Int32) z90.2)) else (if ((m 3000000 (i + 1)) &&& (63 : Int32)) = (18 : Int32) then ((mk_ld 100 (KS, m, q) 3000000 ((nI i) + (1 : Int32))).bind fun v91 => (mk_ld 100 (KS, m, q) 3000000 ((nI i) + (2 : Int32))).bind fun v92 => (mk_ld 100 (KS, m, q) 3000000 ((nI i) + (3 : Int32))).bind fun v93 => (F_X11_stand 0 v91 v92 v93 (KS, m, q)).bind fun z94 => (mk_ld 100 z94.2 3000000 ((nI i) + (1 : Int32))).bind fun v95 => (mk_ld 100 z94.2 3000000 ((nI i) + (2 : Int32))).bind fun v96 => (mk_ld 100 z94.2 3000000 ((nI i) + (3 : Int32))).bind fun v97 => (F_X12_stand 996 v95 v96 v97 z94.2).bind fun z98 => if z94.1 = z98.1 then (B_L_law_1293 (B_L_law_18 f) 3000000 0 996 (nI i) z98.2) else (mk_rz (0 : Int32) z98.2)) else (if ((m 3000000 (i + 1)) &&& (63 : Int32)) = (19 : Int32) then ((mk_ld 100 (KS, m, q) 3000000 ((nI i) + (1 : Int32))).bind fun v99 => (mk_ld 100 (KS, m, q) 3000000 ((nI i) + (2 : Int32))).bind fun v100 => (mk_ld 100 (KS, m, q) 3000000 ((nI i) + (3 : Int32))).bind fun v101 => (F_X11_turn 0 v99 v100 v101 (KS, m, q)).bind fun z102 => (mk_ld 100 z102.2 3000000 ((nI i) + (1 : Int32))).bind fun v103 => (mk_ld 100 z102.2 3000000 ((nI i) + (2 : Int32))).bind fun v104 => (mk_ld 100 z102.2 3000000 ((nI i) + (3 : Int32))).bind fun v105 => (F_X12_turn 996 v103 v104 v105 z102.2).bind fun z106 => if z102.1 = z106.1 then (B_L_law_1293 (B_L_law_18 f) 3000000 0 996 (nI i) z106.2) else (mk_rz (0 : Int32) z106.2)) else (if ((m 3000000 (i + 1)) &&& (63 : Int32)) = (20 : Int32) then ((mk_ld 100 (KS, m, q) 3000000 ((nI i) + (1 : Int32))).bind fun v107 => (mk_ld 100 (KS, m, q) 3000000 ((nI i) + (2 : Int32))).bind fun v108 => (mk_ld 100 (KS, m, q) 3000000 ((nI i) + (3 : Int32))).bind fun v109 => (mk_ld 100 (KS, m, q) 3000000 ((nI i) + (4 : Int32))).bind fun v110 => (F_X11_takes 0 v107 v108 v109 v110 (KS, m, q)).bind fun z111 => (mk_ld 100 z111.2 3000000 ((nI i) + (1 : Int32))).bind fun v112 => (mk_ld 100 z111.2 3000000 ((nI i) + (2 : Int32))).bind fun v113 => (mk_ld 100 z111.2 3000000 ((nI i) + (3 : Int32))).bind fun v114 => (mk_ld 100 z111.2 3000000 ((nI i) + (4 : Int32))).bind fun v115 => (F_X12_takes 996 v112 v113 v114 v115 z111.2).bind fun z116 => if z111.1 = z116.1 then (B_L_law_1293 (B_L_law_18 f) 3000000 0 996 (nI i) z116.2) else (mk_rz (0 : Int32) z116.2)) else (if ((m 3000000 (i + 1)) &&& (63 : Int32)) = (21 : Int32) then ((mk_ld 100 (KS, m, q) 3000000 ((nI i) + (1 : Int32))).bind fun v117 => (mk_ld 100 (KS, m, q) 3000000 ((nI i) + (2 : Int32))).bind fun v118 => (mk_ld 100 (KS, m, q) 3000000 ((nI i) + (3 : Int32))).bind fun v119 => (F_X11_blown 0 v117 v118 v119 (KS, m, q)).bind fun z120 => (mk_ld 100 z120.2 3000000 ((nI i) + (1 : Int32))).bind fun v121 => (mk_ld 100 z120.2 3000000 ((nI i) + (2 : Int32))).bind fun v122 => (mk_ld 100 z120.2 3000000 ((nI i) + (3 : Int32))).bind fun v123 => (F_X12_blown 996 v121 v122 v123 z120.2).bind fun z124 => if z120.1 = z124.1 then (B_L_law_1293 (B_L_law_18 f) 3000000 0 996 (nI i) z124.2) else (mk_rz (0 : Int32) z124.2)) else (if ((m 3000000 (i + 1)) &&& (63 : Int32)) = (22 : Int32) then ((mk_ld 100 (KS, m, q) 3000000 ((nI i) + (1 : Int32))).bind fun v125 => (mk_ld 100 (KS, m, q) 3000000 ((nI i) + (2 : Int32))).bind fun v126 => (F_X11_still 0 v125 v126 (KS, m, q)).bind fun z127 => (mk_ld 100 z127.2 3000000 ((nI i) + (1 : Int32))).bind fun v128 => (mk_ld 100 z127.2 3000000 ((nI i) + (2 : Int32))).bind fun v129 => (F_X12_still 996 v128 v129 z127.2).bind fun z130 => if z127.1 = z130.1 then (B_L_law_1293 (B_L_law_18 f) 3000000 0 996 (nI i) z130.2) else (mk_rz (0 : Int32) z130.2)) else (if ((m 3000000 (i + 1)) &&& (63 : Int32)) = (23 : Int32) then ((mk_ld 100 (KS, m, q) 3000000 ((nI i) + (1 : Int32))).bind fun v131 => (mk_ld 100 (KS, m, q) 3000000 ((nI i) + (2 : Int32))).bind fun v132 => (F_X11_lull 0 v131 v132 (KS, m, q)).bind fun z133 => (mk_ld 100 z133.2 3000000 ((nI i) + (1 : Int32))).bind fun v134 => (mk_ld 100 z133.2 3000000 ((nI i) + (2 : Int32))).bind fun v135 => (F_X12_lull 996 v134 v135 z133.2).bind fun z136 => if z133.1 = z136.1 then (B_L_law_1293 (B_L_law_18 f) 3000000 0 996 (nI i) z136.2) else (mk_rz (0 : Int32) z136.2)) else (if ((m 3000000 (i + 1)) &&& (63 : Int32)) = (24 : Int32) then ((mk_ld 100 (KS, m, q) 3000000 ((nI i) + (1 : Int32))).bind fun v137 => (mk_ld 100 (KS, m, q) 3000000 ((nI i) + (2 : Int32))).bind fun v138 => (F_X11_harvest 0 v137 v138 (KS, m, q)).bind fun z139 => (mk_ld 100 z139.2 3000000 ((nI i) + (1 : Int32))).bind fun v140 => (mk_ld 100 z139.2 3000000 ((nI i) + (2 : Int32))).bind fun v141 => (F_X12_harvest 996 v140 v141 z139.2).bind fun z142 => if z139.1 = z142.1 then (B_L_law_1293 (B_L_law_18 f) 3000000 0 996 (nI i) z142.2) else (mk_rz (0 : Int32) z142.2)) else (if ((m 3000000 (i + 1)) &&& (63 : Int32)) = (25 : Int32) then ((mk_ld 100 (KS, m, q) 3000000 ((nI i) + (1 : Int32))).bind fun v143 => (mk_ld 100 (KS, m, q) 3000000 ((nI i) + (2 : Int32))).bind fun v144 => (mk_ld 100 (KS, m, q) 3000000 ((nI i) + (3 : Int32))).bind fun v145 => (mk_ld 100 (KS, m, q) 3000000 ((nI i) + (4 : Int32))).bind fun v146 => (F_X11_rests 0 v143 v144 v145 v146 (KS, m, q)).bind fun z147 => (mk_ld 100 z147.2 3000000 ((nI i) + (1 : Int32))).bind fun v148 => (mk_ld 100 z147.2 3000000 ((nI i) + (2 : Int32))).bind fun v149 => (mk_ld 100 z147.2 3000000 ((nI i) + (3 : Int32))).bind fun v150 => (mk_ld 100 z147.2 3000000 ((nI i) + (4 : Int32))).bind fun v151 => (F_X12_rests 996 v148 v149 v150 v151 z147.2).bind fun z152 => if z147.1 = z152.1 then (B_L_law_1293 (B_L_law_18 f) 3000000 0 996 (nI i) z152.2) else (mk_rz (0 : Int32) z152.2)) else (if ((m 3000000 (i + 1)) &&& (63 : Int32)) = (26 : Int32) then ((mk_ld 100 (KS, m, q) 3000000 ((nI i) + (1 : Int32))).bind fun v153 => (mk_ld 100 (KS, m, q) 3000000 ((nI i) + (2 : Int32))).bind fun v154 => (F_X11_pence 0 v153 v154 (KS, m, q)).bind fun z155 => (mk_ld 100 z155.2 3000000 ((nI i) + (1 : Int32))).bind fun v156 => (mk_ld 100 z155.2 3000000 ((nI i) + (2 : Int32))).bind fun v157 => (F_X12_pence 996 v156 v157 z155.2).bind fun z158 => if z155.1 = z158.1 then (B_L_law_1293 (B_L_law_18 f) 3000000 0 996 (nI i) z158.2) else (mk_rz (0 : Int32) z158.2)) else (if ((m 3000000 (i + 1)) &&& (63 : Int32)) = (27 : Int32) then ((mk_ld 100 (KS, m, q) 3000000 ((nI i) + (1 : Int32))).bind fun v159 => (mk_ld 100 (KS, m, q) 3000000 ((nI i) + (2 : Int32))).bind fun v160 => (mk_ld 100 (KS, m, q) 3000000 ((nI i) + (3 : Int32))).bind fun v161 => (F_X11_note 0 v159 v160 v161 (KS, m, q)).bind fun z162 => (mk_ld 100 z162.2 3000000 ((nI i) + (1 : Int32))).bind fun v163 => (mk_ld 100 z162.2 3000000 ((nI i) + (2 : Int32))).bind fun v164 => (mk_ld 100 z162.2 3000000 ((nI i) + (3 : Int32))).bind fun v165 => (F_X12_note 996 v163 v164 v165 z162.2).bind fun z166 => if z162.1 = z166.1 then (B_L_law_1293 (B_L_law_18 f) 3000000 0 996 (nI i) z166.2) else (mk_rz (0 : Int32) z166.2)) else (if ((m 3000000 (i + 1)) &&& (63 : Int32)) = (28 : Int32) then ((mk_ld 100 (KS, m, q) 3000000 ((nI i) + (1 : Int32))).bind fun v167 => (F_X11_ruled 0 v167 (KS, m, q)).bind fun z168 => (mk_ld 100 z168.2 3000000 ((nI i) + (1 : Int32))).bind fun v169 => (F_X12_ruled 996 v169 z168.2).bind fun z170 => if z168.1 = z170.1 then (B_L_law_1293 (B_L_law_18 f) 3000000 0 996 (nI i) z170.2) else (mk_rz (0 : Int32) z170.2)) else (if ((m 3000000 (i + 1)) &&& (63 : Int32)) = (29 : Int32) then ((mk_ld 100 (KS, m, q) 3000000 ((nI i) + (1 : Int32))).bind fun v171 => (mk_ld 100 (KS, m, q) 3000000 ((nI i) + (2 : Int32))).bind fun v172 => (F_X11_look 0 v171 v172 (KS, m, q)).bind fun z173 => (mk_ld 100 z173.2 3000000 ((nI i) + (1 : Int32))).bind fun v174 => (mk_ld 100 z173.2 3000000 ((nI i) + (2 : Int32))).bind fun v175 => (F_X12_look 996 v174 v175 z173.2).bind fun z176 => if z173.1 = z176.1 then (B_L_law_1293 (B_L_law_18 f) 3000000 0 996 (nI i) z176.2) else (mk_rz (0 : Int32) z176.2)) else (if ((m 3000000 (i + 1)) &&& (63 : Int32)) = (30 : Int32) then ((mk_ld 100 (KS, m, q) 3000000 ((nI i) + (1 : Int32))).bind fun v177 => (F_X11_seed 0 v177 (KS, m, q)).bind fun z178 => (mk_ld 100 z178.2 3000000 ((nI i) + (1 : Int32))).bind fun v179 => (F_X12_seed 996 v179 z178.2).bind fun z180 => if z178.1 = z180.1 then (B_L_law_1293 (B_L_law_18 f) 3000000 0 996 (nI i) z180.2) else (mk_rz (0 : Int32) z180.2)) else (if ((m 3000000 (i + 1)) &&& (63 : Int32)) = (31 : Int32) then ((mk_ld 100 (KS, m, q) 3000000 ((nI i) + (1 : Int32))).bind fun v181 => (mk_ld 100 (KS, m, q) 3000000 ((nI i) + (2 : Int32))).bind fun v182 => (mk_ld 100 (KS, m, q) 3000000 ((nI i) + (3 : Int32))).bind fun v183 => (mk_ld 100 (KS, m, q) 3000000 ((nI i) + (4 : Int32))).bind fun v184 => (F_X11_notions 0 v181 v182 v183 v184 (KS, m, q)).bind fun z185 => (mk_ld 100 z185.2 3000000 ((nI i) + (1 : Int32))).bind fun v186 => (mk_ld 100 z185.2 3000000 ((nI i) + (2 : Int32))).bind fun v187 => (mk_ld 100 z185.2 3000000 ((nI i) + (3 : Int32))).bind fun v188 => (mk_ld 100 z185.2 3000000 ((nI i) + (4 : Int32))).bind fun v189 => (F_X12_notions 996 v186 v187 v188 v189 z185.2).bind fun z190 => if z185.1 = z190.1 then (B_L_law_1293 (B_L_law_18 f) 3000000 0 996 (nI i) z190.2) else (mk_rz (0 : Int32) z190.2)) else (if ((m 3000000 (i + 1)) &&& (63 : Int32)) = (32 : Int32) then ((mk_ld 100 (KS, m, q) 3000000 ((nI i) + (1 : Int32))).bind fun v191 => (F_X11_count 0 v191 (KS, m, q)).bind fun z192 => (mk_ld 100 z192.2 3000000 ((nI i) + (1 : Int32))).bind fun v193 => (F_X12_count 996 v193 z192.2).bind fun z194 => if z192.1 = z194.1 then (B_L_law_1293 (B_L_law_18 f) 3000000 0 996 (nI i) z194.2) else (mk_rz (0 : Int32) z194.2)) else (if ((m 3000000 (i + 1)) &&& (63 : Int32)) = (33 : Int32) then ((mk_ld 100 (KS, m, q) 3000000 ((nI i) + (1 : Int32))).bind fun v195 => (F_X11_image 0 v195 (KS, m, q)).bind fun z196 => (mk_ld 100 z196.2 3000000 ((nI i) + (1 : Int32))).bind fun v197 => (F_X12_image 996 v197 z196.2).bind fun z198 => if z196.1 = z198.1 then (B_L_law_1293 (B_L_law_18 f) 3000000 0 996 (nI i) z198.2) else (mk_rz (0 : Int32) z198.2)) else (if ((m 3000000 (i + 1)) &&& (63 : Int32)) = (34 : Int32) then ((mk_ld 100 (KS, m, q) 3000000 ((nI i) + (1 : Int32))).bind fun v199 => (F_X11_back 0 v199 (KS, m, q)).bind fun z200 => (mk_ld 100 z200.2 3000000 ((nI i) + (1 : Int32))).bind fun v201 => (F_X12_back 996 v201 z200.2).bind fun z202 => if z200.1 = z202.1 then (B_L_law_1293 (B_L_law_18 f) 3000000 0 996 (nI i) z202.2) else (mk_rz (0 : Int32) z202.2)) else (B_L_law_1293 (B_L_law_18 f) 3000000 0 996 (nI i) (KS, m, q)))))))))))))))))))))))))))))))))))) := by
  rw [B_L_law_18, lnX h hL]
  show (if nI L - (6 : Int32) < nI i then _ else _) = _
  rw [if_neg (fun c => by have := (cndX hL (by omega)).mp c; omega), ldX h hL (by omega)]
  rfl
set_option maxRecDepth 4000 in
theorem lwS {f i L : Nat} {m : Nat → Nat → Int32} {q : Nat → Nat → Int64} (h : m 3000000 0 = nI L) (hL : L ≤ 3072) (hi : i + 6 ≤ L) (hI : Inv m) : ∃ m2 q2, B_L_law_18 (f + 1) 3000000 0 996 (nI i) (KS, m, q) = B_L_law_18 f 3000000 0 996 (nI (i + 6)) (KS, m2, q2) ∧ Inv m2 ∧ ∀ a, 1041 ≤ a → m2 a = m a := by
  rw [lwB h hL hi]
  generalize m 3000000 (i + 1) &&& (63 : Int32) = w
  have ld0 : ∀ j, j < L → mk_ld 100 (KS, m, q) 3000000 (nI j) = some (m 3000000 (j + 1)) := fun j hj => ldX h hL hj
  by_cases c0 : w = (0 : Int32)
  · rw [if_pos c0]
    obtain ⟨a, m1, q1, m2, q2, h1, h2, h3, h4⟩ := op_feed (m 3000000 (i + 1 + 1)) (m 3000000 (i + 2 + 1)) (m 3000000 (i + 3 + 1)) (m 3000000 (i + 4 + 1)) (m 3000000 (i + 5 + 1)) m q hI
    have k1 : m1 3000000 = m 3000000 := ke_m (ke_F_X11_feed 0 _ _ _ _ _ (KS, m, q)) h1
    have ld1 : ∀ j, j < L → mk_ld 100 (KS, m1, q1) 3000000 (nI j) = some (m 3000000 (j + 1)) := fun j hj => by rw [ldX (by rw [k1]; exact h) hL hj, k1]
    refine ⟨m2, q2, ?_, h3, h4⟩
    simp (disch := omega) only [lit, nI_add, ld0, ld1, ob_some, h1, h2, if_true, B_L_law_1293]
  rw [if_neg c0]
  by_cases c1 : w = (1 : Int32)
  · rw [if_pos c1]
    obtain ⟨a, m1, q1, m2, q2, h1, h2, h3, h4⟩ := op_end (m 3000000 (i + 1 + 1)) m q hI
    have k1 : m1 3000000 = m 3000000 := ke_m (ke_F_X11_end 0 _ (KS, m, q)) h1
    have ld1 : ∀ j, j < L → mk_ld 100 (KS, m1, q1) 3000000 (nI j) = some (m 3000000 (j + 1)) := fun j hj => by rw [ldX (by rw [k1]; exact h) hL hj, k1]
    refine ⟨m2, q2, ?_, h3, h4⟩
    simp (disch := omega) only [lit, nI_add, ld0, ld1, ob_some, h1, h2, if_true, B_L_law_1293]
  rw [if_neg c1]
  by_cases c2 : w = (2 : Int32)
  · rw [if_pos c2]
    obtain ⟨a, m1, q1, m2, q2, h1, h2, h3, h4⟩ := op_plateau m q hI
    have k1 : m1 3000000 = m 3000000 := ke_m (ke_F_X11_plateau 0 (KS, m, q)) h1
    have ld1 : ∀ j, j < L → mk_ld 100 (KS, m1, q1) 3000000 (nI j) = some (m 3000000 (j + 1)) := fun j hj => by rw [ldX (by rw [k1]; exact h) hL hj, k1]
    refine ⟨m2, q2, ?_, h3, h4⟩
    simp (disch := omega) only [lit, nI_add, ld0, ld1, ob_some, h1, h2, if_true, B_L_law_1293]
  rw [if_neg c2]
  by_cases c3 : w = (3 : Int32)
  · rw [if_pos c3]
    obtain ⟨a, m1, q1, m2, q2, h1, h2, h3, h4⟩ := op_rule m q hI
    have k1 : m1 3000000 = m 3000000 := ke_m (ke_F_X11_rule 0 (KS, m, q)) h1
    have ld1 : ∀ j, j < L → mk_ld 100 (KS, m1, q1) 3000000 (nI j) = some (m 3000000 (j + 1)) := fun j hj => by rw [ldX (by rw [k1]; exact h) hL hj, k1]
    refine ⟨m2, q2, ?_, h3, h4⟩
    simp (disch := omega) only [lit, nI_add, ld0, ld1, ob_some, h1, h2, if_true, B_L_law_1293]
  rw [if_neg c3]
  by_cases c4 : w = (4 : Int32)
  · rw [if_pos c4]
    obtain ⟨a, m1, q1, m2, q2, h1, h2, h3, h4⟩ := op_force (m 3000000 (i + 1 + 1)) m q hI
    have k1 : m1 3000000 = m 3000000 := ke_m (ke_F_X11_force 0 _ (KS, m, q)) h1
    have ld1 : ∀ j, j < L → mk_ld 100 (KS, m1, q1) 3000000 (nI j) = some (m 3000000 (j + 1)) := fun j hj => by rw [ldX (by rw [k1]; exact h) hL hj, k1]
    refine ⟨m2, q2, ?_, h3, h4⟩
    simp (disch := omega) only [lit, nI_add, ld0, ld1, ob_some, h1, h2, if_true, B_L_law_1293]
  rw [if_neg c4]
  by_cases c5 : w = (5 : Int32)
  · rw [if_pos c5]
    obtain ⟨a, m1, q1, m2, q2, h1, h2, h3, h4⟩ := op_person (m 3000000 (i + 1 + 1)) (m 3000000 (i + 2 + 1)) m q hI
    have k1 : m1 3000000 = m 3000000 := ke_m (ke_F_X11_person 0 _ _ (KS, m, q)) h1
    have ld1 : ∀ j, j < L → mk_ld 100 (KS, m1, q1) 3000000 (nI j) = some (m 3000000 (j + 1)) := fun j hj => by rw [ldX (by rw [k1]; exact h) hL hj, k1]
    refine ⟨m2, q2, ?_, h3, h4⟩
    simp (disch := omega) only [lit, nI_add, ld0, ld1, ob_some, h1, h2, if_true, B_L_law_1293]
  rw [if_neg c5]
  by_cases c6 : w = (6 : Int32)
  · rw [if_pos c6]
    obtain ⟨a, m1, q1, m2, q2, h1, h2, h3, h4⟩ := op_mill (m 3000000 (i + 1 + 1)) (m 3000000 (i + 2 + 1)) m q hI
    have k1 : m1 3000000 = m 3000000 := ke_m (ke_F_X11_mill 0 _ _ (KS, m, q)) h1
    have ld1 : ∀ j, j < L → mk_ld 100 (KS, m1, q1) 3000000 (nI j) = some (m 3000000 (j + 1)) := fun j hj => by rw [ldX (by rw [k1]; exact h) hL hj, k1]
    refine ⟨m2, q2, ?_, h3, h4⟩
    simp (disch := omega) only [lit, nI_add, ld0, ld1, ob_some, h1, h2, if_true, B_L_law_1293]
  rw [if_neg c6]
  by_cases c7 : w = (7 : Int32)
  · rw [if_pos c7]
    obtain ⟨a, m1, q1, m2, q2, h1, h2, h3, h4⟩ := op_roof (m 3000000 (i + 1 + 1)) (m 3000000 (i + 2 + 1)) m q hI
    have k1 : m1 3000000 = m 3000000 := ke_m (ke_F_X11_roof 0 _ _ (KS, m, q)) h1
    have ld1 : ∀ j, j < L → mk_ld 100 (KS, m1, q1) 3000000 (nI j) = some (m 3000000 (j + 1)) := fun j hj => by rw [ldX (by rw [k1]; exact h) hL hj, k1]
    refine ⟨m2, q2, ?_, h3, h4⟩
    simp (disch := omega) only [lit, nI_add, ld0, ld1, ob_some, h1, h2, if_true, B_L_law_1293]
  rw [if_neg c7]
  by_cases c8 : w = (8 : Int32)
  · rw [if_pos c8]
    obtain ⟨a, m1, q1, m2, q2, h1, h2, h3, h4⟩ := op_wind (m 3000000 (i + 1 + 1)) m q hI
    have k1 : m1 3000000 = m 3000000 := ke_m (ke_F_X11_wind 0 _ (KS, m, q)) h1
    have ld1 : ∀ j, j < L → mk_ld 100 (KS, m1, q1) 3000000 (nI j) = some (m 3000000 (j + 1)) := fun j hj => by rw [ldX (by rw [k1]; exact h) hL hj, k1]
    refine ⟨m2, q2, ?_, h3, h4⟩
    simp (disch := omega) only [lit, nI_add, ld0, ld1, ob_some, h1, h2, if_true, B_L_law_1293]
  rw [if_neg c8]
  by_cases c9 : w = (9 : Int32)
  · rw [if_pos c9]
    obtain ⟨a, m1, q1, m2, q2, h1, h2, h3, h4⟩ := op_hour m q hI
    have k1 : m1 3000000 = m 3000000 := ke_m (ke_F_X11_hour 0 (KS, m, q)) h1
    have ld1 : ∀ j, j < L → mk_ld 100 (KS, m1, q1) 3000000 (nI j) = some (m 3000000 (j + 1)) := fun j hj => by rw [ldX (by rw [k1]; exact h) hL hj, k1]
    refine ⟨m2, q2, ?_, h3, h4⟩
    simp (disch := omega) only [lit, nI_add, ld0, ld1, ob_some, h1, h2, if_true, B_L_law_1293]
  rw [if_neg c9]
  by_cases c10 : w = (10 : Int32)
  · rw [if_pos c10]
    obtain ⟨a, m1, q1, m2, q2, h1, h2, h3, h4⟩ := op_wine (m 3000000 (i + 1 + 1)) (m 3000000 (i + 2 + 1)) m q hI
    have k1 : m1 3000000 = m 3000000 := ke_m (ke_F_X11_wine 0 _ _ (KS, m, q)) h1
    have ld1 : ∀ j, j < L → mk_ld 100 (KS, m1, q1) 3000000 (nI j) = some (m 3000000 (j + 1)) := fun j hj => by rw [ldX (by rw [k1]; exact h) hL hj, k1]
    refine ⟨m2, q2, ?_, h3, h4⟩
    simp (disch := omega) only [lit, nI_add, ld0, ld1, ob_some, h1, h2, if_true, B_L_law_1293]
  rw [if_neg c10]
  by_cases c11 : w = (11 : Int32)
  · rw [if_pos c11]
    obtain ⟨a, m1, q1, m2, q2, h1, h2, h3, h4⟩ := op_place (m 3000000 (i + 1 + 1)) (m 3000000 (i + 2 + 1)) m q hI
    have k1 : m1 3000000 = m 3000000 := ke_m (ke_F_X11_place 0 _ _ (KS, m, q)) h1
    have ld1 : ∀ j, j < L → mk_ld 100 (KS, m1, q1) 3000000 (nI j) = some (m 3000000 (j + 1)) := fun j hj => by rw [ldX (by rw [k1]; exact h) hL hj, k1]
    refine ⟨m2, q2, ?_, h3, h4⟩
    simp (disch := omega) only [lit, nI_add, ld0, ld1, ob_some, h1, h2, if_true, B_L_law_1293]
  rw [if_neg c11]
  by_cases c12 : w = (12 : Int32)
  · rw [if_pos c12]
    obtain ⟨a, m1, q1, m2, q2, h1, h2, h3, h4⟩ := op_face (m 3000000 (i + 1 + 1)) (m 3000000 (i + 2 + 1)) m q hI
    have k1 : m1 3000000 = m 3000000 := ke_m (ke_F_X11_face 0 _ _ (KS, m, q)) h1
    have ld1 : ∀ j, j < L → mk_ld 100 (KS, m1, q1) 3000000 (nI j) = some (m 3000000 (j + 1)) := fun j hj => by rw [ldX (by rw [k1]; exact h) hL hj, k1]
    refine ⟨m2, q2, ?_, h3, h4⟩
    simp (disch := omega) only [lit, nI_add, ld0, ld1, ob_some, h1, h2, if_true, B_L_law_1293]
  rw [if_neg c12]
  by_cases c13 : w = (13 : Int32)
  · rw [if_pos c13]
    obtain ⟨a, m1, q1, m2, q2, h1, h2, h3, h4⟩ := op_mend (m 3000000 (i + 1 + 1)) m q hI
    have k1 : m1 3000000 = m 3000000 := ke_m (ke_F_X11_mend 0 _ (KS, m, q)) h1
    have ld1 : ∀ j, j < L → mk_ld 100 (KS, m1, q1) 3000000 (nI j) = some (m 3000000 (j + 1)) := fun j hj => by rw [ldX (by rw [k1]; exact h) hL hj, k1]
    refine ⟨m2, q2, ?_, h3, h4⟩
    simp (disch := omega) only [lit, nI_add, ld0, ld1, ob_some, h1, h2, if_true, B_L_law_1293]
  rw [if_neg c13]
  by_cases c14 : w = (14 : Int32)
  · rw [if_pos c14]
    obtain ⟨a, m1, q1, m2, q2, h1, h2, h3, h4⟩ := op_undo m q hI
    have k1 : m1 3000000 = m 3000000 := ke_m (ke_F_X11_undo 0 (KS, m, q)) h1
    have ld1 : ∀ j, j < L → mk_ld 100 (KS, m1, q1) 3000000 (nI j) = some (m 3000000 (j + 1)) := fun j hj => by rw [ldX (by rw [k1]; exact h) hL hj, k1]
    refine ⟨m2, q2, ?_, h3, h4⟩
    simp (disch := omega) only [lit, nI_add, ld0, ld1, ob_some, h1, h2, if_true, B_L_law_1293]
  rw [if_neg c14]
  by_cases c15 : w = (15 : Int32)
  · rw [if_pos c15]
    obtain ⟨a, m1, q1, m2, q2, h1, h2, h3, h4⟩ := op_ahead (m 3000000 (i + 1 + 1)) (m 3000000 (i + 2 + 1)) (m 3000000 (i + 3 + 1)) m q hI
    have k1 : m1 3000000 = m 3000000 := ke_m (ke_F_X11_ahead 0 _ _ _ (KS, m, q)) h1
    have ld1 : ∀ j, j < L → mk_ld 100 (KS, m1, q1) 3000000 (nI j) = some (m 3000000 (j + 1)) := fun j hj => by rw [ldX (by rw [k1]; exact h) hL hj, k1]
    refine ⟨m2, q2, ?_, h3, h4⟩
    simp (disch := omega) only [lit, nI_add, ld0, ld1, ob_some, h1, h2, if_true, B_L_law_1293]
  rw [if_neg c15]
  by_cases c16 : w = (16 : Int32)
  · rw [if_pos c16]
    obtain ⟨a, m1, q1, m2, q2, h1, h2, h3, h4⟩ := op_whim (m 3000000 (i + 1 + 1)) m q hI
    have k1 : m1 3000000 = m 3000000 := ke_m (ke_F_X11_whim 0 _ (KS, m, q)) h1
    have ld1 : ∀ j, j < L → mk_ld 100 (KS, m1, q1) 3000000 (nI j) = some (m 3000000 (j + 1)) := fun j hj => by rw [ldX (by rw [k1]; exact h) hL hj, k1]
    refine ⟨m2, q2, ?_, h3, h4⟩
    simp (disch := omega) only [lit, nI_add, ld0, ld1, ob_some, h1, h2, if_true, B_L_law_1293]
  rw [if_neg c16]
  by_cases c17 : w = (17 : Int32)
  · rw [if_pos c17]
    obtain ⟨a, m1, q1, m2, q2, h1, h2, h3, h4⟩ := op_storm (m 3000000 (i + 1 + 1)) m q hI
    have k1 : m1 3000000 = m 3000000 := ke_m (ke_F_X11_storm 0 _ (KS, m, q)) h1
    have ld1 : ∀ j, j < L → mk_ld 100 (KS, m1, q1) 3000000 (nI j) = some (m 3000000 (j + 1)) := fun j hj => by rw [ldX (by rw [k1]; exact h) hL hj, k1]
    refine ⟨m2, q2, ?_, h3, h4⟩
    simp (disch := omega) only [lit, nI_add, ld0, ld1, ob_some, h1, h2, if_true, B_L_law_1293]
  rw [if_neg c17]
  by_cases c18 : w = (18 : Int32)
  · rw [if_pos c18]
    obtain ⟨a, m1, q1, m2, q2, h1, h2, h3, h4⟩ := op_stand (m 3000000 (i + 1 + 1)) (m 3000000 (i + 2 + 1)) (m 3000000 (i + 3 + 1)) m q hI
    have k1 : m1 3000000 = m 3000000 := ke_m (ke_F_X11_stand 0 _ _ _ (KS, m, q)) h1
    have ld1 : ∀ j, j < L → mk_ld 100 (KS, m1, q1) 3000000 (nI j) = some (m 3000000 (j + 1)) := fun j hj => by rw [ldX (by rw [k1]; exact h) hL hj, k1]
    refine ⟨m2, q2, ?_, h3, h4⟩
    simp (disch := omega) only [lit, nI_add, ld0, ld1, ob_some, h1, h2, if_true, B_L_law_1293]
  rw [if_neg c18]
  by_cases c19 : w = (19 : Int32)
  · rw [if_pos c19]
    obtain ⟨a, m1, q1, m2, q2, h1, h2, h3, h4⟩ := op_turn (m 3000000 (i + 1 + 1)) (m 3000000 (i + 2 + 1)) (m 3000000 (i + 3 + 1)) m q hI
    have k1 : m1 3000000 = m 3000000 := ke_m (ke_F_X11_turn 0 _ _ _ (KS, m, q)) h1
    have ld1 : ∀ j, j < L → mk_ld 100 (KS, m1, q1) 3000000 (nI j) = some (m 3000000 (j + 1)) := fun j hj => by rw [ldX (by rw [k1]; exact h) hL hj, k1]
    refine ⟨m2, q2, ?_, h3, h4⟩
    simp (disch := omega) only [lit, nI_add, ld0, ld1, ob_some, h1, h2, if_true, B_L_law_1293]
  rw [if_neg c19]
  by_cases c20 : w = (20 : Int32)
  · rw [if_pos c20]
    obtain ⟨a, m1, q1, m2, q2, h1, h2, h3, h4⟩ := op_takes (m 3000000 (i + 1 + 1)) (m 3000000 (i + 2 + 1)) (m 3000000 (i + 3 + 1)) (m 3000000 (i + 4 + 1)) m q hI
    have k1 : m1 3000000 = m 3000000 := ke_m (ke_F_X11_takes 0 _ _ _ _ (KS, m, q)) h1
    have ld1 : ∀ j, j < L → mk_ld 100 (KS, m1, q1) 3000000 (nI j) = some (m 3000000 (j + 1)) := fun j hj => by rw [ldX (by rw [k1]; exact h) hL hj, k1]
    refine ⟨m2, q2, ?_, h3, h4⟩
    simp (disch := omega) only [lit, nI_add, ld0, ld1, ob_some, h1, h2, if_true, B_L_law_1293]
  rw [if_neg c20]
  by_cases c21 : w = (21 : Int32)
  · rw [if_pos c21]
    obtain ⟨a, m1, q1, m2, q2, h1, h2, h3, h4⟩ := op_blown (m 3000000 (i + 1 + 1)) (m 3000000 (i + 2 + 1)) (m 3000000 (i + 3 + 1)) m q hI
    have k1 : m1 3000000 = m 3000000 := ke_m (ke_F_X11_blown 0 _ _ _ (KS, m, q)) h1
    have ld1 : ∀ j, j < L → mk_ld 100 (KS, m1, q1) 3000000 (nI j) = some (m 3000000 (j + 1)) := fun j hj => by rw [ldX (by rw [k1]; exact h) hL hj, k1]
    refine ⟨m2, q2, ?_, h3, h4⟩
    simp (disch := omega) only [lit, nI_add, ld0, ld1, ob_some, h1, h2, if_true, B_L_law_1293]
  rw [if_neg c21]
  by_cases c22 : w = (22 : Int32)
  · rw [if_pos c22]
    obtain ⟨a, m1, q1, m2, q2, h1, h2, h3, h4⟩ := op_still (m 3000000 (i + 1 + 1)) (m 3000000 (i + 2 + 1)) m q hI
    have k1 : m1 3000000 = m 3000000 := ke_m (ke_F_X11_still 0 _ _ (KS, m, q)) h1
    have ld1 : ∀ j, j < L → mk_ld 100 (KS, m1, q1) 3000000 (nI j) = some (m 3000000 (j + 1)) := fun j hj => by rw [ldX (by rw [k1]; exact h) hL hj, k1]
    refine ⟨m2, q2, ?_, h3, h4⟩
    simp (disch := omega) only [lit, nI_add, ld0, ld1, ob_some, h1, h2, if_true, B_L_law_1293]
  rw [if_neg c22]
  by_cases c23 : w = (23 : Int32)
  · rw [if_pos c23]
    obtain ⟨a, m1, q1, m2, q2, h1, h2, h3, h4⟩ := op_lull (m 3000000 (i + 1 + 1)) (m 3000000 (i + 2 + 1)) m q hI
    have k1 : m1 3000000 = m 3000000 := ke_m (ke_F_X11_lull 0 _ _ (KS, m, q)) h1
    have ld1 : ∀ j, j < L → mk_ld 100 (KS, m1, q1) 3000000 (nI j) = some (m 3000000 (j + 1)) := fun j hj => by rw [ldX (by rw [k1]; exact h) hL hj, k1]
    refine ⟨m2, q2, ?_, h3, h4⟩
    simp (disch := omega) only [lit, nI_add, ld0, ld1, ob_some, h1, h2, if_true, B_L_law_1293]
  rw [if_neg c23]
  by_cases c24 : w = (24 : Int32)
  · rw [if_pos c24]
    obtain ⟨a, m1, q1, m2, q2, h1, h2, h3, h4⟩ := op_harvest (m 3000000 (i + 1 + 1)) (m 3000000 (i + 2 + 1)) m q hI
    have k1 : m1 3000000 = m 3000000 := ke_m (ke_F_X11_harvest 0 _ _ (KS, m, q)) h1
    have ld1 : ∀ j, j < L → mk_ld 100 (KS, m1, q1) 3000000 (nI j) = some (m 3000000 (j + 1)) := fun j hj => by rw [ldX (by rw [k1]; exact h) hL hj, k1]
    refine ⟨m2, q2, ?_, h3, h4⟩
    simp (disch := omega) only [lit, nI_add, ld0, ld1, ob_some, h1, h2, if_true, B_L_law_1293]
  rw [if_neg c24]
  by_cases c25 : w = (25 : Int32)
  · rw [if_pos c25]
    obtain ⟨a, m1, q1, m2, q2, h1, h2, h3, h4⟩ := op_rests (m 3000000 (i + 1 + 1)) (m 3000000 (i + 2 + 1)) (m 3000000 (i + 3 + 1)) (m 3000000 (i + 4 + 1)) m q hI
    have k1 : m1 3000000 = m 3000000 := ke_m (ke_F_X11_rests 0 _ _ _ _ (KS, m, q)) h1
    have ld1 : ∀ j, j < L → mk_ld 100 (KS, m1, q1) 3000000 (nI j) = some (m 3000000 (j + 1)) := fun j hj => by rw [ldX (by rw [k1]; exact h) hL hj, k1]
    refine ⟨m2, q2, ?_, h3, h4⟩
    simp (disch := omega) only [lit, nI_add, ld0, ld1, ob_some, h1, h2, if_true, B_L_law_1293]
  rw [if_neg c25]
  by_cases c26 : w = (26 : Int32)
  · rw [if_pos c26]
    obtain ⟨a, m1, q1, m2, q2, h1, h2, h3, h4⟩ := op_pence (m 3000000 (i + 1 + 1)) (m 3000000 (i + 2 + 1)) m q hI
    have k1 : m1 3000000 = m 3000000 := ke_m (ke_F_X11_pence 0 _ _ (KS, m, q)) h1
    have ld1 : ∀ j, j < L → mk_ld 100 (KS, m1, q1) 3000000 (nI j) = some (m 3000000 (j + 1)) := fun j hj => by rw [ldX (by rw [k1]; exact h) hL hj, k1]
    refine ⟨m2, q2, ?_, h3, h4⟩
    simp (disch := omega) only [lit, nI_add, ld0, ld1, ob_some, h1, h2, if_true, B_L_law_1293]
  rw [if_neg c26]
  by_cases c27 : w = (27 : Int32)
  · rw [if_pos c27]
    obtain ⟨a, m1, q1, m2, q2, h1, h2, h3, h4⟩ := op_note (m 3000000 (i + 1 + 1)) (m 3000000 (i + 2 + 1)) (m 3000000 (i + 3 + 1)) m q hI
    have k1 : m1 3000000 = m 3000000 := ke_m (ke_F_X11_note 0 _ _ _ (KS, m, q)) h1
    have ld1 : ∀ j, j < L → mk_ld 100 (KS, m1, q1) 3000000 (nI j) = some (m 3000000 (j + 1)) := fun j hj => by rw [ldX (by rw [k1]; exact h) hL hj, k1]
    refine ⟨m2, q2, ?_, h3, h4⟩
    simp (disch := omega) only [lit, nI_add, ld0, ld1, ob_some, h1, h2, if_true, B_L_law_1293]
  rw [if_neg c27]
  by_cases c28 : w = (28 : Int32)
  · rw [if_pos c28]
    obtain ⟨a, m1, q1, m2, q2, h1, h2, h3, h4⟩ := op_ruled (m 3000000 (i + 1 + 1)) m q hI
    have k1 : m1 3000000 = m 3000000 := ke_m (ke_F_X11_ruled 0 _ (KS, m, q)) h1
    have ld1 : ∀ j, j < L → mk_ld 100 (KS, m1, q1) 3000000 (nI j) = some (m 3000000 (j + 1)) := fun j hj => by rw [ldX (by rw [k1]; exact h) hL hj, k1]
    refine ⟨m2, q2, ?_, h3, h4⟩
    simp (disch := omega) only [lit, nI_add, ld0, ld1, ob_some, h1, h2, if_true, B_L_law_1293]
  rw [if_neg c28]
  by_cases c29 : w = (29 : Int32)
  · rw [if_pos c29]
    obtain ⟨a, m1, q1, m2, q2, h1, h2, h3, h4⟩ := op_look (m 3000000 (i + 1 + 1)) (m 3000000 (i + 2 + 1)) m q hI
    have k1 : m1 3000000 = m 3000000 := ke_m (ke_F_X11_look 0 _ _ (KS, m, q)) h1
    have ld1 : ∀ j, j < L → mk_ld 100 (KS, m1, q1) 3000000 (nI j) = some (m 3000000 (j + 1)) := fun j hj => by rw [ldX (by rw [k1]; exact h) hL hj, k1]
    refine ⟨m2, q2, ?_, h3, h4⟩
    simp (disch := omega) only [lit, nI_add, ld0, ld1, ob_some, h1, h2, if_true, B_L_law_1293]
  rw [if_neg c29]
  by_cases c30 : w = (30 : Int32)
  · rw [if_pos c30]
    obtain ⟨a, m1, q1, m2, q2, h1, h2, h3, h4⟩ := op_seed (m 3000000 (i + 1 + 1)) m q hI
    have k1 : m1 3000000 = m 3000000 := ke_m (ke_F_X11_seed 0 _ (KS, m, q)) h1
    have ld1 : ∀ j, j < L → mk_ld 100 (KS, m1, q1) 3000000 (nI j) = some (m 3000000 (j + 1)) := fun j hj => by rw [ldX (by rw [k1]; exact h) hL hj, k1]
    refine ⟨m2, q2, ?_, h3, h4⟩
    simp (disch := omega) only [lit, nI_add, ld0, ld1, ob_some, h1, h2, if_true, B_L_law_1293]
  rw [if_neg c30]
  by_cases c31 : w = (31 : Int32)
  · rw [if_pos c31]
    obtain ⟨a, m1, q1, m2, q2, h1, h2, h3, h4⟩ := op_notions (m 3000000 (i + 1 + 1)) (m 3000000 (i + 2 + 1)) (m 3000000 (i + 3 + 1)) (m 3000000 (i + 4 + 1)) m q hI
    have k1 : m1 3000000 = m 3000000 := ke_m (ke_F_X11_notions 0 _ _ _ _ (KS, m, q)) h1
    have ld1 : ∀ j, j < L → mk_ld 100 (KS, m1, q1) 3000000 (nI j) = some (m 3000000 (j + 1)) := fun j hj => by rw [ldX (by rw [k1]; exact h) hL hj, k1]
    refine ⟨m2, q2, ?_, h3, h4⟩
    simp (disch := omega) only [lit, nI_add, ld0, ld1, ob_some, h1, h2, if_true, B_L_law_1293]
  rw [if_neg c31]
  by_cases c32 : w = (32 : Int32)
  · rw [if_pos c32]
    obtain ⟨a, m1, q1, m2, q2, h1, h2, h3, h4⟩ := op_count (m 3000000 (i + 1 + 1)) m q hI
    have k1 : m1 3000000 = m 3000000 := ke_m (ke_F_X11_count 0 _ (KS, m, q)) h1
    have ld1 : ∀ j, j < L → mk_ld 100 (KS, m1, q1) 3000000 (nI j) = some (m 3000000 (j + 1)) := fun j hj => by rw [ldX (by rw [k1]; exact h) hL hj, k1]
    refine ⟨m2, q2, ?_, h3, h4⟩
    simp (disch := omega) only [lit, nI_add, ld0, ld1, ob_some, h1, h2, if_true, B_L_law_1293]
  rw [if_neg c32]
  by_cases c33 : w = (33 : Int32)
  · rw [if_pos c33]
    obtain ⟨a, m1, q1, m2, q2, h1, h2, h3, h4⟩ := op_image (m 3000000 (i + 1 + 1)) m q hI
    have k1 : m1 3000000 = m 3000000 := ke_m (ke_F_X11_image 0 _ (KS, m, q)) h1
    have ld1 : ∀ j, j < L → mk_ld 100 (KS, m1, q1) 3000000 (nI j) = some (m 3000000 (j + 1)) := fun j hj => by rw [ldX (by rw [k1]; exact h) hL hj, k1]
    refine ⟨m2, q2, ?_, h3, h4⟩
    simp (disch := omega) only [lit, nI_add, ld0, ld1, ob_some, h1, h2, if_true, B_L_law_1293]
  rw [if_neg c33]
  by_cases c34 : w = (34 : Int32)
  · rw [if_pos c34]
    obtain ⟨a, m1, q1, m2, q2, h1, h2, h3, h4⟩ := op_back (m 3000000 (i + 1 + 1)) m q hI
    have k1 : m1 3000000 = m 3000000 := ke_m (ke_F_X11_back 0 _ (KS, m, q)) h1
    have ld1 : ∀ j, j < L → mk_ld 100 (KS, m1, q1) 3000000 (nI j) = some (m 3000000 (j + 1)) := fun j hj => by rw [ldX (by rw [k1]; exact h) hL hj, k1]
    refine ⟨m2, q2, ?_, h3, h4⟩
    simp (disch := omega) only [lit, nI_add, ld0, ld1, ob_some, h1, h2, if_true, B_L_law_1293]
  rw [if_neg c34]
  exact ⟨m, q, by simp only [B_L_law_1293, lit, nI_add], hI, fun _ _ => rfl⟩
set_option maxRecDepth 4000 in
theorem lwL {L : Nat} (hL : L ≤ 3072) : ∀ (d f i : Nat) (m : Nat → Nat → Int32) (q : Nat → Nat → Int64), L ≤ i + d → d < f → i ≤ L → m 3000000 0 = nI L → Inv m → ∃ m1 q1, B_L_law_18 f 3000000 0 996 (nI i) (KS, m, q) = some (1, (KS, m1, q1)) := by
  intro d
  induction d with
  | zero =>
    intro f i m q hd hf hi h hI
    obtain ⟨f, rfl⟩ : ∃ g, f = g + 1 := ⟨f - 1, by omega⟩
    refine ⟨m, q, ?_⟩
    rw [B_L_law_18, lnX h hL]
    show (if nI L - (6 : Int32) < nI i then _ else _) = _
    rw [if_pos ((cndX hL (by omega)).mpr (by omega))]
    rfl
  | succ d ih =>
    intro f i m q hd hf hi h hI
    obtain ⟨f, rfl⟩ : ∃ g, f = g + 1 := ⟨f - 1, by omega⟩
    by_cases c : i + 6 ≤ L
    · obtain ⟨m2, q2, a1, a2, a3⟩ := lwS (f := f) (q := q) h hL c hI
      rw [a1]
      exact ih f (i + 6) m2 q2 (by omega) (by omega) c (by rw [a3 _ (by omega)]; exact h) a2
    · refine ⟨m, q, ?_⟩
      rw [B_L_law_18, lnX h hL]
      show (if nI L - (6 : Int32) < nI i then _ else _) = _
      rw [if_pos ((cndX hL (by omega)).mpr (by omega))]
      rfl
