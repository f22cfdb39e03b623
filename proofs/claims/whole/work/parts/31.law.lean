def B_L_law_1293 (k18 : Nat → Nat → Nat → Int32 → mk_S → Option (Int32 × mk_S)) (x0 : Nat) (x1 : Nat) (x2 : Nat) (x3 : Int32) (t : mk_S) : Option (Int32 × mk_S) := k18 x0 x1 x2 (x3 + (6 : Int32)) t
def B_L_law_18 : Nat → Nat → Nat → Nat → Int32 → mk_S → Option (Int32 × mk_S)
  | 0, _, _, _, _, _ => none
  | n + 1, x0, x1, x2, x3, t => (mk_len t x0).bind fun v1 => if (v1 - (6 : Int32)) < x3 then (mk_rz (1 : Int32) t) else ((mk_ld 100 t x0 x3).bind fun v2 => if (v2 &&& (63 : Int32)) = (0 : Int32) then ((mk_ld 100 t x0 (x3 + (1 : Int32))).bind fun v3 => (mk_ld 100 t x0 (x3 + (2 : Int32))).bind fun v4 => (mk_ld 100 t x0 (x3 + (3 : Int32))).bind fun v5 => (mk_ld 100 t x0 (x3 + (4 : Int32))).bind fun v6 => (mk_ld 100 t x0 (x3 + (5 : Int32))).bind fun v7 => (F_X11_feed x1 v3 v4 v5 v6 v7 t).bind fun z8 => (mk_ld 100 z8.2 x0 (x3 + (1 : Int32))).bind fun v9 => (mk_ld 100 z8.2 x0 (x3 + (2 : Int32))).bind fun v10 => (mk_ld 100 z8.2 x0 (x3 + (3 : Int32))).bind fun v11 => (mk_ld 100 z8.2 x0 (x3 + (4 : Int32))).bind fun v12 => (mk_ld 100 z8.2 x0 (x3 + (5 : Int32))).bind fun v13 => (F_X12_feed x2 v9 v10 v11 v12 v13 z8.2).bind fun z14 => if z8.1 = z14.1 then (B_L_law_1293 (B_L_law_18 n) x0 x1 x2 x3 z14.2) else (mk_rz (0 : Int32) z14.2)) else (if (v2 &&& (63 : Int32)) = (1 : Int32) then ((mk_ld 100 t x0 (x3 + (1 : Int32))).bind fun v15 => (F_X11_end x1 v15 t).bind fun z16 => (mk_ld 100 z16.2 x0 (x3 + (1 : Int32))).bind fun v17 => (F_X12_end x2 v17 z16.2).bind fun z18 => if z16.1 = z18.1 then (B_L_law_1293 (B_L_law_18 n) x0 x1 x2 x3 z18.2) else (mk_rz (0 : Int32) z18.2)) else (if (v2 &&& (63 : Int32)) = (2 : Int32) then ((F_X11_plateau x1 t).bind fun z19 => (F_X12_plateau x2 z19.2).bind fun z20 => if z19.1 = z20.1 then (B_L_law_1293 (B_L_law_18 n) x0 x1 x2 x3 z20.2) else (mk_rz (0 : Int32) z20.2)) else (if (v2 &&& (63 : Int32)) = (3 : Int32) then ((F_X11_rule x1 t).bind fun z21 => (F_X12_rule x2 z21.2).bind fun z22 => if z21.1 = z22.1 then (B_L_law_1293 (B_L_law_18 n) x0 x1 x2 x3 z22.2) else (mk_rz (0 : Int32) z22.2)) else (if (v2 &&& (63 : Int32)) = (4 : Int32) then ((mk_ld 100 t x0 (x3 + (1 : Int32))).bind fun v23 => (F_X11_force x1 v23 t).bind fun z24 => (mk_ld 100 z24.2 x0 (x3 + (1 : Int32))).bind fun v25 => (F_X12_force x2 v25 z24.2).bind fun z26 => if z24.1 = z26.1 then (B_L_law_1293 (B_L_law_18 n) x0 x1 x2 x3 z26.2) else (mk_rz (0 : Int32) z26.2)) else (if (v2 &&& (63 : Int32)) = (5 : Int32) then ((mk_ld 100 t x0 (x3 + (1 : Int32))).bind fun v27 => (mk_ld 100 t x0 (x3 + (2 : Int32))).bind fun v28 => (F_X11_person x1 v27 v28 t).bind fun z29 => (mk_ld 100 z29.2 x0 (x3 + (1 : Int32))).bind fun v30 => (mk_ld 100 z29.2 x0 (x3 + (2 : Int32))).bind fun v31 => (F_X12_person x2 v30 v31 z29.2).bind fun z32 => if z29.1 = z32.1 then (B_L_law_1293 (B_L_law_18 n) x0 x1 x2 x3 z32.2) else (mk_rz (0 : Int32) z32.2)) else (if (v2 &&& (63 : Int32)) = (6 : Int32) then ((mk_ld 100 t x0 (x3 + (1 : Int32))).bind fun v33 => (mk_ld 100 t x0 (x3 + (2 : Int32))).bind fun v34 => (F_X11_mill x1 v33 v34 t).bind fun z35 => (mk_ld 100 z35.2 x0 (x3 + (1 : Int32))).bind fun v36 => (mk_ld 100 z35.2 x0 (x3 + (2 : Int32))).bind fun v37 => (F_X12_mill x2 v36 v37 z35.2).bind fun z38 => if z35.1 = z38.1 then (B_L_law_1293 (B_L_law_18 n) x0 x1 x2 x3 z38.2) else (mk_rz (0 : Int32) z38.2)) else (if (v2 &&& (63 : Int32)) = (7 : Int32) then ((mk_ld 100 t x0 (x3 + (1 : Int32))).bind fun v39 => (mk_ld 100 t x0 (x3 + (2 : Int32))).bind fun v40 => (F_X11_roof x1 v39 v40 t).bind fun z41 => (mk_ld 100 z41.2 x0 (x3 + (1 : Int32))).bind fun v42 => (mk_ld 100 z41.2 x0 (x3 + (2 : Int32))).bind fun v43 => (F_X12_roof x2 v42 v43 z41.2).bind fun z44 => if z41.1 = z44.1 then (B_L_law_1293 (B_L_law_18 n) x0 x1 x2 x3 z44.2) else (mk_rz (0 : Int32) z44.2)) else (if (v2 &&& (63 : Int32)) = (8 : Int32) then ((mk_ld 100 t x0 (x3 + (1 : Int32))).bind fun v45 => (F_X11_wind x1 v45 t).bind fun z46 => (mk_ld 100 z46.2 x0 (x3 + (1 : Int32))).bind fun v47 => (F_X12_wind x2 v47 z46.2).bind fun z48 => if z46.1 = z48.1 then (B_L_law_1293 (B_L_law_18 n) x0 x1 x2 x3 z48.2) else (mk_rz (0 : Int32) z48.2)) else (if (v2 &&& (63 : Int32)) = (9 : Int32) then ((F_X11_hour x1 t).bind fun z49 => (F_X12_hour x2 z49.2).bind fun z50 => if z49.1 = z50.1 then (B_L_law_1293 (B_L_law_18 n) x0 x1 x2 x3 z50.2) else (mk_rz (0 : Int32) z50.2)) else (if (v2 &&& (63 : Int32)) = (10 : Int32) then ((mk_ld 100 t x0 (x3 + (1 : Int32))).bind fun v51 => (mk_ld 100 t x0 (x3 + (2 : Int32))).bind fun v52 => (F_X11_wine x1 v51 v52 t).bind fun z53 => (mk_ld 100 z53.2 x0 (x3 + (1 : Int32))).bind fun v54 => (mk_ld 100 z53.2 x0 (x3 + (2 : Int32))).bind fun v55 => (F_X12_wine x2 v54 v55 z53.2).bind fun z56 => if z53.1 = z56.1 then (B_L_law_1293 (B_L_law_18 n) x0 x1 x2 x3 z56.2) else (mk_rz (0 : Int32) z56.2)) else (if (v2 &&& (63 : Int32)) = (11 : Int32) then ((mk_ld 100 t x0 (x3 + (1 : Int32))).bind fun v57 => (mk_ld 100 t x0 (x3 + (2 : Int32))).bind fun v58 => (F_X11_place x1 v57 v58 t).bind fun z59 => (mk_ld 100 z59.2 x0 (x3 + (1 : Int32))).bind fun v60 => (mk_ld 100 z59.2 x0 (x3 + (2 : Int32))).bind fun v61 => (F_X12_place x2 v60 v61 z59.2).bind fun z62 => if z59.1 = z62.1 then (B_L_law_1293 (B_L_law_18 n) x0 x1 x2 x3 z62.2) else (mk_rz (0 : Int32) z62.2)) else (if (v2 &&& (63 : Int32)) = (12 : Int32) then ((mk_ld 100 t x0 (x3 + (1 : Int32))).bind fun v63 => (mk_ld 100 t x0 (x3 + (2 : Int32))).bind fun v64 => (F_X11_face x1 v63 v64 t).bind fun z65 => (mk_ld 100 z65.2 x0 (x3 + (1 : Int32))).bind fun v66 => (mk_ld 100 z65.2 x0 (x3 + (2 : Int32))).bind fun v67 => (F_X12_face x2 v66 v67 z65.2).bind fun z68 => if z65.1 = z68.1 then (B_L_law_1293 (B_L_law_18 n) x0 x1 x2 x3 z68.2) else (mk_rz (0 : Int32) z68.2)) else (if (v2 &&& (63 : Int32)) = (13 : Int32) then ((mk_ld 100 t x0 (x3 + (1 : Int32))).bind fun v69 => (F_X11_mend x1 v69 t).bind fun z70 => (mk_ld 100 z70.2 x0 (x3 + (1 : Int32))).bind fun v71 => (F_X12_mend x2 v71 z70.2).bind fun z72 => if z70.1 = z72.1 then (B_L_law_1293 (B_L_law_18 n) x0 x1 x2 x3 z72.2) else (mk_rz (0 : Int32) z72.2)) else (if (v2 &&& (63 : Int32)) = (14 : Int32) then ((F_X11_undo x1 t).bind fun z73 => (F_X12_undo x2 z73.2).bind fun z74 => if z73.1 = z74.1 then (B_L_law_1293 (B_L_law_18 n) x0 x1 x2 x3 z74.2) else (mk_rz (0 : Int32) z74.2)) else (if (v2 &&& (63 : Int32)) = (15 : Int32) then ((mk_ld 100 t x0 (x3 + (1 : Int32))).bind fun v75 => (mk_ld 100 t x0 (x3 + (2 : Int32))).bind fun v76 => (mk_ld 100 t x0 (x3 + (3 : Int32))).bind fun v77 => (F_X11_ahead x1 v75 v76 v77 t).bind fun z78 => (mk_ld 100 z78.2 x0 (x3 + (1 : Int32))).bind fun v79 => (mk_ld 100 z78.2 x0 (x3 + (2 : Int32))).bind fun v80 => (mk_ld 100 z78.2 x0 (x3 + (3 : Int32))).bind fun v81 => (F_X12_ahead x2 v79 v80 v81 z78.2).bind fun z82 => if z78.1 = z82.1 then (B_L_law_1293 (B_L_law_18 n) x0 x1 x2 x3 z82.2) else (mk_rz (0 : Int32) z82.2)) else (if (v2 &&& (63 : Int32)) = (16 : Int32) then ((mk_ld 100 t x0 (x3 + (1 : Int32))).bind fun v83 => (F_X11_whim x1 v83 t).bind fun z84 => (mk_ld 100 z84.2 x0 (x3 + (1 : Int32))).bind fun v85 => (F_X12_whim x2 v85 z84.2).bind fun z86 => if z84.1 = z86.1 then (B_L_law_1293 (B_L_law_18 n) x0 x1 x2 x3 z86.2) else (mk_rz (0 : Int32) z86.2)) else (if (v2 &&& (63 : Int32)) = (17 : Int32) then ((mk_ld 100 t x0 (x3 + (1 : Int32))).bind fun v87 => (F_X11_storm x1 v87 t).bind fun z88 => (mk_ld 100 z88.2 x0 (x3 + (1 : Int32))).bind fun v89 => (F_X12_storm x2 v89 z88.2).bind fun z90 => if z88.1 = z90.1 then (B_L_law_1293 (B_L_law_18 n) x0 x1 x2 x3 z90.2) else (mk_rz (0 : Int32) z90.2)) else (if (v2 &&& (63 : Int32)) = (18 : Int32) then ((mk_ld 100 t x0 (x3 + (1 : Int32))).bind fun v91 => (mk_ld 100 t x0 (x3 + (2 : Int32))).bind fun v92 => (mk_ld 100 t x0 (x3 + (3 : Int32))).bind fun v93 => (F_X11_stand x1 v91 v92 v93 t).bind fun z94 => (mk_ld 100 z94.2 x0 (x3 + (1 : Int32))).bind fun v95 => (mk_ld 100 z94.2 x0 (x3 + (2 : Int32))).bind fun v96 => (mk_ld 100 z94.2 x0 (x3 + (3 : Int32))).bind fun v97 => (F_X12_stand x2 v95 v96 v97 z94.2).bind fun z98 => if z94.1 = z98.1 then (B_L_law_1293 (B_L_law_18 n) x0 x1 x2 x3 z98.2) else (mk_rz (0 : Int32) z98.2)) else (if (v2 &&& (63 : Int32)) = (19 : Int32) then ((mk_ld 100 t x0 (x3 + (1 : Int32))).bind fun v99 => (mk_ld 100 t x0 (x3 + (2 : Int32))).bind fun v100 => (mk_ld 100 t x0 (x3 + (3 : Int32))).bind fun v101 => (F_X11_turn x1 v99 v100 v101 t).bind fun z102 => (mk_ld 100 z102.2 x0 (x3 + (1 : Int32))).bind fun v103 => (mk_ld 100 z102.2 x0 (x3 + (2 : Int32))).bind fun v104 => (mk_ld 100 z102.2 x0 (x3 + (3 : Int32))).bind fun v105 => (F_X12_turn x2 v103 v104 v105 z102.2).bind fun z106 => if z102.1 = z106.1 then (B_L_law_1293 (B_L_law_18 n) x0 x1 x2 x3 z106.2) else (mk_rz (0 : Int32) z106.2)) else (if (v2 &&& (63 : Int32)) = (20 : Int32) then ((mk_ld 100 t x0 (x3 + (1 : Int32))).bind fun v107 => (mk_ld 100 t x0 (x3 + (2 : Int32))).bind fun v108 => (mk_ld 100 t x0 (x3 + (3 : Int32))).bind fun v109 => (mk_ld 100 t x0 (x3 + (4 : Int32))).bind fun v110 => (F_X11_takes x1 v107 v108 v109 v110 t).bind fun z111 => (mk_ld 100 z111.2 x0 (x3 + (1 : Int32))).bind fun v112 => (mk_ld 100 z111.2 x0 (x3 + (2 : Int32))).bind fun v113 => (mk_ld 100 z111.2 x0 (x3 + (3 : Int32))).bind fun v114 => (mk_ld 100 z111.2 x0 (x3 + (4 : Int32))).bind fun v115 => (F_X12_takes x2 v112 v113 v114 v115 z111.2).bind fun z116 => if z111.1 = z116.1 then (B_L_law_1293 (B_L_law_18 n) x0 x1 x2 x3 z116.2) else (mk_rz (0 : Int32) z116.2)) else (if (v2 &&& (63 : Int32)) = (21 : Int32) then ((mk_ld 100 t x0 (x3 + (1 : Int32))).bind fun v117 => (mk_ld 100 t x0 (x3 + (2 : Int32))).bind fun v118 => (mk_ld 100 t x0 (x3 + (3 : Int32))).bind fun v119 => (F_X11_blown x1 v117 v118 v119 t).bind fun z120 => (mk_ld 100 z120.2 x0 (x3 + (1 : Int32))).bind fun v121 => (mk_ld 100 z120.2 x0 (x3 + (2 : Int32))).bind fun v122 => (mk_ld 100 z120.2 x0 (x3 + (3 : Int32))).bind fun v123 => (F_X12_blown x2 v121 v122 v123 z120.2).bind fun z124 => if z120.1 = z124.1 then (B_L_law_1293 (B_L_law_18 n) x0 x1 x2 x3 z124.2) else (mk_rz (0 : Int32) z124.2)) else (if (v2 &&& (63 : Int32)) = (22 : Int32) then ((mk_ld 100 t x0 (x3 + (1 : Int32))).bind fun v125 => (mk_ld 100 t x0 (x3 + (2 : Int32))).bind fun v126 => (F_X11_still x1 v125 v126 t).bind fun z127 => (mk_ld 100 z127.2 x0 (x3 + (1 : Int32))).bind fun v128 => (mk_ld 100 z127.2 x0 (x3 + (2 : Int32))).bind fun v129 => (F_X12_still x2 v128 v129 z127.2).bind fun z130 => if z127.1 = z130.1 then (B_L_law_1293 (B_L_law_18 n) x0 x1 x2 x3 z130.2) else (mk_rz (0 : Int32) z130.2)) else (if (v2 &&& (63 : Int32)) = (23 : Int32) then ((mk_ld 100 t x0 (x3 + (1 : Int32))).bind fun v131 => (mk_ld 100 t x0 (x3 + (2 : Int32))).bind fun v132 => (F_X11_lull x1 v131 v132 t).bind fun z133 => (mk_ld 100 z133.2 x0 (x3 + (1 : Int32))).bind fun v134 => (mk_ld 100 z133.2 x0 (x3 + (2 : Int32))).bind fun v135 => (F_X12_lull x2 v134 v135 z133.2).bind fun z136 => if z133.1 = z136.1 then (B_L_law_1293 (B_L_law_18 n) x0 x1 x2 x3 z136.2) else (mk_rz (0 : Int32) z136.2)) else (if (v2 &&& (63 : Int32)) = (24 : Int32) then ((mk_ld 100 t x0 (x3 + (1 : Int32))).bind fun v137 => (mk_ld 100 t x0 (x3 + (2 : Int32))).bind fun v138 => (F_X11_harvest x1 v137 v138 t).bind fun z139 => (mk_ld 100 z139.2 x0 (x3 + (1 : Int32))).bind fun v140 => (mk_ld 100 z139.2 x0 (x3 + (2 : Int32))).bind fun v141 => (F_X12_harvest x2 v140 v141 z139.2).bind fun z142 => if z139.1 = z142.1 then (B_L_law_1293 (B_L_law_18 n) x0 x1 x2 x3 z142.2) else (mk_rz (0 : Int32) z142.2)) else (if (v2 &&& (63 : Int32)) = (25 : Int32) then ((mk_ld 100 t x0 (x3 + (1 : Int32))).bind fun v143 => (mk_ld 100 t x0 (x3 + (2 : Int32))).bind fun v144 => (mk_ld 100 t x0 (x3 + (3 : Int32))).bind fun v145 => (mk_ld 100 t x0 (x3 + (4 : Int32))).bind fun v146 => (F_X11_rests x1 v143 v144 v145 v146 t).bind fun z147 => (mk_ld 100 z147.2 x0 (x3 + (1 : Int32))).bind fun v148 => (mk_ld 100 z147.2 x0 (x3 + (2 : Int32))).bind fun v149 => (mk_ld 100 z147.2 x0 (x3 + (3 : Int32))).bind fun v150 => (mk_ld 100 z147.2 x0 (x3 + (4 : Int32))).bind fun v151 => (F_X12_rests x2 v148 v149 v150 v151 z147.2).bind fun z152 => if z147.1 = z152.1 then (B_L_law_1293 (B_L_law_18 n) x0 x1 x2 x3 z152.2) else (mk_rz (0 : Int32) z152.2)) else (if (v2 &&& (63 : Int32)) = (26 : Int32) then ((mk_ld 100 t x0 (x3 + (1 : Int32))).bind fun v153 => (mk_ld 100 t x0 (x3 + (2 : Int32))).bind fun v154 => (F_X11_pence x1 v153 v154 t).bind fun z155 => (mk_ld 100 z155.2 x0 (x3 + (1 : Int32))).bind fun v156 => (mk_ld 100 z155.2 x0 (x3 + (2 : Int32))).bind fun v157 => (F_X12_pence x2 v156 v157 z155.2).bind fun z158 => if z155.1 = z158.1 then (B_L_law_1293 (B_L_law_18 n) x0 x1 x2 x3 z158.2) else (mk_rz (0 : Int32) z158.2)) else (if (v2 &&& (63 : Int32)) = (27 : Int32) then ((mk_ld 100 t x0 (x3 + (1 : Int32))).bind fun v159 => (mk_ld 100 t x0 (x3 + (2 : Int32))).bind fun v160 => (mk_ld 100 t x0 (x3 + (3 : Int32))).bind fun v161 => (F_X11_note x1 v159 v160 v161 t).bind fun z162 => (mk_ld 100 z162.2 x0 (x3 + (1 : Int32))).bind fun v163 => (mk_ld 100 z162.2 x0 (x3 + (2 : Int32))).bind fun v164 => (mk_ld 100 z162.2 x0 (x3 + (3 : Int32))).bind fun v165 => (F_X12_note x2 v163 v164 v165 z162.2).bind fun z166 => if z162.1 = z166.1 then (B_L_law_1293 (B_L_law_18 n) x0 x1 x2 x3 z166.2) else (mk_rz (0 : Int32) z166.2)) else (if (v2 &&& (63 : Int32)) = (28 : Int32) then ((mk_ld 100 t x0 (x3 + (1 : Int32))).bind fun v167 => (F_X11_ruled x1 v167 t).bind fun z168 => (mk_ld 100 z168.2 x0 (x3 + (1 : Int32))).bind fun v169 => (F_X12_ruled x2 v169 z168.2).bind fun z170 => if z168.1 = z170.1 then (B_L_law_1293 (B_L_law_18 n) x0 x1 x2 x3 z170.2) else (mk_rz (0 : Int32) z170.2)) else (if (v2 &&& (63 : Int32)) = (29 : Int32) then ((mk_ld 100 t x0 (x3 + (1 : Int32))).bind fun v171 => (mk_ld 100 t x0 (x3 + (2 : Int32))).bind fun v172 => (F_X11_look x1 v171 v172 t).bind fun z173 => (mk_ld 100 z173.2 x0 (x3 + (1 : Int32))).bind fun v174 => (mk_ld 100 z173.2 x0 (x3 + (2 : Int32))).bind fun v175 => (F_X12_look x2 v174 v175 z173.2).bind fun z176 => if z173.1 = z176.1 then (B_L_law_1293 (B_L_law_18 n) x0 x1 x2 x3 z176.2) else (mk_rz (0 : Int32) z176.2)) else (if (v2 &&& (63 : Int32)) = (30 : Int32) then ((mk_ld 100 t x0 (x3 + (1 : Int32))).bind fun v177 => (F_X11_seed x1 v177 t).bind fun z178 => (mk_ld 100 z178.2 x0 (x3 + (1 : Int32))).bind fun v179 => (F_X12_seed x2 v179 z178.2).bind fun z180 => if z178.1 = z180.1 then (B_L_law_1293 (B_L_law_18 n) x0 x1 x2 x3 z180.2) else (mk_rz (0 : Int32) z180.2)) else (if (v2 &&& (63 : Int32)) = (31 : Int32) then ((mk_ld 100 t x0 (x3 + (1 : Int32))).bind fun v181 => (mk_ld 100 t x0 (x3 + (2 : Int32))).bind fun v182 => (mk_ld 100 t x0 (x3 + (3 : Int32))).bind fun v183 => (mk_ld 100 t x0 (x3 + (4 : Int32))).bind fun v184 => (F_X11_notions x1 v181 v182 v183 v184 t).bind fun z185 => (mk_ld 100 z185.2 x0 (x3 + (1 : Int32))).bind fun v186 => (mk_ld 100 z185.2 x0 (x3 + (2 : Int32))).bind fun v187 => (mk_ld 100 z185.2 x0 (x3 + (3 : Int32))).bind fun v188 => (mk_ld 100 z185.2 x0 (x3 + (4 : Int32))).bind fun v189 => (F_X12_notions x2 v186 v187 v188 v189 z185.2).bind fun z190 => if z185.1 = z190.1 then (B_L_law_1293 (B_L_law_18 n) x0 x1 x2 x3 z190.2) else (mk_rz (0 : Int32) z190.2)) else (if (v2 &&& (63 : Int32)) = (32 : Int32) then ((mk_ld 100 t x0 (x3 + (1 : Int32))).bind fun v191 => (F_X11_count x1 v191 t).bind fun z192 => (mk_ld 100 z192.2 x0 (x3 + (1 : Int32))).bind fun v193 => (F_X12_count x2 v193 z192.2).bind fun z194 => if z192.1 = z194.1 then (B_L_law_1293 (B_L_law_18 n) x0 x1 x2 x3 z194.2) else (mk_rz (0 : Int32) z194.2)) else (if (v2 &&& (63 : Int32)) = (33 : Int32) then ((mk_ld 100 t x0 (x3 + (1 : Int32))).bind fun v195 => (F_X11_image x1 v195 t).bind fun z196 => (mk_ld 100 z196.2 x0 (x3 + (1 : Int32))).bind fun v197 => (F_X12_image x2 v197 z196.2).bind fun z198 => if z196.1 = z198.1 then (B_L_law_1293 (B_L_law_18 n) x0 x1 x2 x3 z198.2) else (mk_rz (0 : Int32) z198.2)) else (if (v2 &&& (63 : Int32)) = (34 : Int32) then ((mk_ld 100 t x0 (x3 + (1 : Int32))).bind fun v199 => (F_X11_back x1 v199 t).bind fun z200 => (mk_ld 100 z200.2 x0 (x3 + (1 : Int32))).bind fun v201 => (F_X12_back x2 v201 z200.2).bind fun z202 => if z200.1 = z202.1 then (B_L_law_1293 (B_L_law_18 n) x0 x1 x2 x3 z202.2) else (mk_rz (0 : Int32) z202.2)) else (B_L_law_1293 (B_L_law_18 n) x0 x1 x2 x3 t))))))))))))))))))))))))))))))))))))
def F_L_law (t : mk_S) : Option (Int32 × mk_S) := (mk_new t 10 7).bind fun z1 => (F_X11_init z1.1 z1.2).bind fun z2 => (mk_new z2.2 11 64).bind fun z3 => (F_X12_init z3.1 z3.2).bind fun z4 => B_L_law_18 mk_fu 3000000 z1.1 z3.1 (0 : Int32) z4.2
theorem o_L_law_1293 (k18 : Nat → Nat → Nat → Int32 → mk_S → Option (Int32 × mk_S)) (h18 : ∀ (x0 : Nat) (x1 : Nat) (x2 : Nat) (x3 : Int32) (t : mk_S), mk_O mk_wi M_L_law 18 [some (.ref x0), some (.ref x1), some (.ref x2), some (.int x3)] [] t (k18 x0 x1 x2 x3 t)) (x0 : Nat) (x1 : Nat) (x2 : Nat) (x3 : Int32) (t : mk_S) : mk_O mk_wi M_L_law 1293 [some (.ref x0), some (.ref x1), some (.ref x2), some (.int x3)] [] t (B_L_law_1293 k18 x0 x1 x2 x3 t) := by
  unfold B_L_law_1293
  refine xo_iinc rfl (congrArg _ kc_6) (by decide) (mk_p1_v rfl rfl) dL_law_1293 ?_
  refine xo_goto (tgt := 18) dL_law_1296 rfl ?_
  exact mk_O.wk (h18 x0 x1 x2 (x3 + (6 : Int32)) t) ⟨rfl, ⟨rfl, ⟨rfl, ⟨rfl, trivial⟩⟩⟩⟩
theorem o_L_law_18 : ∀ (n : Nat) (x0 : Nat) (x1 : Nat) (x2 : Nat) (x3 : Int32) (t : mk_S), mk_O mk_wi M_L_law 18 [some (.ref x0), some (.ref x1), some (.ref x2), some (.int x3)] [] t (B_L_law_18 n x0 x1 x2 x3 t) := by
  intro n
  induction n with
  | zero =>
    intro x0 x1 x2 x3 t
    exact mk_O.none
  | succ n ih =>
    intro x0 x1 x2 x3 t
    rw [B_L_law_18]
    refine xo_iload_n rfl rfl dL_law_18 ?_
    refine xo_aload_n rfl rfl dL_law_19 ?_
    refine xo_alen dL_law_20 (fun v1 => ?_)
    refine xo_bipush kb_6 dL_law_21 ?_
    refine xo_isub dL_law_23 ?_
    refine xo_icmp_gt (tgt := 1299) dL_law_24 rfl (fun _ => ?_) (fun _ => ?_)
    · refine xo_iconst kc_1 dL_law_1299 ?_
      exact xo_zret dL_law_1300 rfl
    · refine xo_aload_n rfl rfl dL_law_27 ?_
      refine xo_iload_n rfl rfl dL_law_28 ?_
      refine xo_iald dL_law_29 (fun v2 => ?_)
      refine xo_bipush kb_63 dL_law_30 ?_
      refine xo_iand dL_law_32 ?_
      refine mk_O.cs (fun n0 => ?_) (fun n0 => ?_)
      · refine xo_tab (kx := 0) (j := 0) n0 dL_law_33 (by decide) (by decide) (by decide) rfl rfl ?_
        refine xo_aload_n rfl rfl dL_law_188 ?_
        refine xo_aload_n rfl rfl dL_law_189 ?_
        refine xo_iload_n rfl rfl dL_law_190 ?_
        refine xo_iconst kc_1 dL_law_191 ?_
        refine xo_iadd dL_law_192 ?_
        refine xo_iald dL_law_193 (fun v3 => ?_)
        refine xo_aload_n rfl rfl dL_law_194 ?_
        refine xo_iload_n rfl rfl dL_law_195 ?_
        refine xo_iconst kc_2 dL_law_196 ?_
        refine xo_iadd dL_law_197 ?_
        refine xo_iald dL_law_198 (fun v4 => ?_)
        refine xo_aload_n rfl rfl dL_law_199 ?_
        refine xo_iload_n rfl rfl dL_law_200 ?_
        refine xo_iconst kc_3 dL_law_201 ?_
        refine xo_iadd dL_law_202 ?_
        refine xo_iald dL_law_203 (fun v5 => ?_)
        refine xo_aload_n rfl rfl dL_law_204 ?_
        refine xo_iload_n rfl rfl dL_law_205 ?_
        refine xo_iconst kc_4 dL_law_206 ?_
        refine xo_iadd dL_law_207 ?_
        refine xo_iald dL_law_208 (fun v6 => ?_)
        refine xo_aload_n rfl rfl dL_law_209 ?_
        refine xo_iload_n rfl rfl dL_law_210 ?_
        refine xo_iconst kc_5 dL_law_211 ?_
        refine xo_iadd dL_law_212 ?_
        refine xo_iald dL_law_213 (fun v7 => ?_)
        refine mk_O.callV (N := M_X11_feed) (ci := 10) (q := (RX11, TX11, 7)) (b := x1) (As1 := [.int v3, .int v4, .int v5, .int v6, .int v7]) (S := []) md_X11_feed mv_X11_feed lk_RL_13 rfl (Nat.le_of_ble_eq_true rfl) (by decide) dL_law_214 rfl rfl rfl (fun z hz => (c_X11_feed x1 v3 v4 v5 v6 v7 t z hz).1) (fun z hz => (c_X11_feed x1 v3 v4 v5 v6 v7 t z hz).2) (fun z8 _ => ?_)
        show mk_O _ _ _ _ (.int z8.1 :: []) _ _
        refine xo_aload_n rfl rfl dL_law_217 ?_
        refine xo_aload_n rfl rfl dL_law_218 ?_
        refine xo_iload_n rfl rfl dL_law_219 ?_
        refine xo_iconst kc_1 dL_law_220 ?_
        refine xo_iadd dL_law_221 ?_
        refine xo_iald dL_law_222 (fun v9 => ?_)
        refine xo_aload_n rfl rfl dL_law_223 ?_
        refine xo_iload_n rfl rfl dL_law_224 ?_
        refine xo_iconst kc_2 dL_law_225 ?_
        refine xo_iadd dL_law_226 ?_
        refine xo_iald dL_law_227 (fun v10 => ?_)
        refine xo_aload_n rfl rfl dL_law_228 ?_
        refine xo_iload_n rfl rfl dL_law_229 ?_
        refine xo_iconst kc_3 dL_law_230 ?_
        refine xo_iadd dL_law_231 ?_
        refine xo_iald dL_law_232 (fun v11 => ?_)
        refine xo_aload_n rfl rfl dL_law_233 ?_
        refine xo_iload_n rfl rfl dL_law_234 ?_
        refine xo_iconst kc_4 dL_law_235 ?_
        refine xo_iadd dL_law_236 ?_
        refine xo_iald dL_law_237 (fun v12 => ?_)
        refine xo_aload_n rfl rfl dL_law_238 ?_
        refine xo_iload_n rfl rfl dL_law_239 ?_
        refine xo_iconst kc_5 dL_law_240 ?_
        refine xo_iadd dL_law_241 ?_
        refine xo_iald dL_law_242 (fun v13 => ?_)
        refine mk_O.callV (N := M_X12_feed) (ci := 11) (q := (RX12, TX12, 64)) (b := x2) (As1 := [.int v9, .int v10, .int v11, .int v12, .int v13]) (S := [.int z8.1]) md_X12_feed mv_X12_feed lk_RL_17 rfl (Nat.le_of_ble_eq_true rfl) (by decide) dL_law_243 rfl rfl rfl (fun z hz => (c_X12_feed x2 v9 v10 v11 v12 v13 z8.2 z hz).1) (fun z hz => (c_X12_feed x2 v9 v10 v11 v12 v13 z8.2 z hz).2) (fun z14 _ => ?_)
        show mk_O _ _ _ _ (.int z14.1 :: [.int z8.1]) _ _
        refine xo_icmp_eq (tgt := 1293) dL_law_246 rfl (fun _ => ?_) (fun _ => ?_)
        · exact mk_O.wk (o_L_law_1293 _ ih x0 x1 x2 x3 z14.2) ⟨rfl, ⟨rfl, ⟨rfl, ⟨rfl, trivial⟩⟩⟩⟩
        · refine xo_iconst kc_0 dL_law_249 ?_
          exact xo_zret dL_law_250 rfl
      · refine mk_O.cs (fun n1 => ?_) (fun n1 => ?_)
        · refine xo_tab (kx := 1) (j := 1) n1 dL_law_33 (by decide) (by decide) (by decide) rfl rfl ?_
          refine xo_aload_n rfl rfl dL_law_251 ?_
          refine xo_aload_n rfl rfl dL_law_252 ?_
          refine xo_iload_n rfl rfl dL_law_253 ?_
          refine xo_iconst kc_1 dL_law_254 ?_
          refine xo_iadd dL_law_255 ?_
          refine xo_iald dL_law_256 (fun v15 => ?_)
          refine mk_O.callV (N := M_X11_end) (ci := 10) (q := (RX11, TX11, 7)) (b := x1) (As1 := [.int v15]) (S := []) md_X11_end mv_X11_end lk_RL_18 rfl (Nat.le_of_ble_eq_true rfl) (by decide) dL_law_257 rfl rfl rfl (fun z hz => (c_X11_end x1 v15 t z hz).1) (fun z hz => (c_X11_end x1 v15 t z hz).2) (fun z16 _ => ?_)
          show mk_O _ _ _ _ (.int z16.1 :: []) _ _
          refine xo_aload_n rfl rfl dL_law_260 ?_
          refine xo_aload_n rfl rfl dL_law_261 ?_
          refine xo_iload_n rfl rfl dL_law_262 ?_
          refine xo_iconst kc_1 dL_law_263 ?_
          refine xo_iadd dL_law_264 ?_
          refine xo_iald dL_law_265 (fun v17 => ?_)
          refine mk_O.callV (N := M_X12_end) (ci := 11) (q := (RX12, TX12, 64)) (b := x2) (As1 := [.int v17]) (S := [.int z16.1]) md_X12_end mv_X12_end lk_RL_22 rfl (Nat.le_of_ble_eq_true rfl) (by decide) dL_law_266 rfl rfl rfl (fun z hz => (c_X12_end x2 v17 z16.2 z hz).1) (fun z hz => (c_X12_end x2 v17 z16.2 z hz).2) (fun z18 _ => ?_)
          show mk_O _ _ _ _ (.int z18.1 :: [.int z16.1]) _ _
          refine xo_icmp_eq (tgt := 1293) dL_law_269 rfl (fun _ => ?_) (fun _ => ?_)
          · exact mk_O.wk (o_L_law_1293 _ ih x0 x1 x2 x3 z18.2) ⟨rfl, ⟨rfl, ⟨rfl, ⟨rfl, trivial⟩⟩⟩⟩
          · refine xo_iconst kc_0 dL_law_272 ?_
            exact xo_zret dL_law_273 rfl
        · refine mk_O.cs (fun n2 => ?_) (fun n2 => ?_)
          · refine xo_tab (kx := 2) (j := 2) n2 dL_law_33 (by decide) (by decide) (by decide) rfl rfl ?_
            refine xo_aload_n rfl rfl dL_law_274 ?_
            refine mk_O.callV (N := M_X11_plateau) (ci := 10) (q := (RX11, TX11, 7)) (b := x1) (As1 := []) (S := []) md_X11_plateau mv_X11_plateau lk_RL_23 rfl (Nat.le_of_ble_eq_true rfl) (by decide) dL_law_275 rfl rfl rfl (fun z hz => (c_X11_plateau x1 t z hz).1) (fun z hz => (c_X11_plateau x1 t z hz).2) (fun z19 _ => ?_)
            show mk_O _ _ _ _ (.int z19.1 :: []) _ _
            refine xo_aload_n rfl rfl dL_law_278 ?_
            refine mk_O.callV (N := M_X12_plateau) (ci := 11) (q := (RX12, TX12, 64)) (b := x2) (As1 := []) (S := [.int z19.1]) md_X12_plateau mv_X12_plateau lk_RL_27 rfl (Nat.le_of_ble_eq_true rfl) (by decide) dL_law_279 rfl rfl rfl (fun z hz => (c_X12_plateau x2 z19.2 z hz).1) (fun z hz => (c_X12_plateau x2 z19.2 z hz).2) (fun z20 _ => ?_)
            show mk_O _ _ _ _ (.int z20.1 :: [.int z19.1]) _ _
            refine xo_icmp_eq (tgt := 1293) dL_law_282 rfl (fun _ => ?_) (fun _ => ?_)
            · exact mk_O.wk (o_L_law_1293 _ ih x0 x1 x2 x3 z20.2) ⟨rfl, ⟨rfl, ⟨rfl, ⟨rfl, trivial⟩⟩⟩⟩
            · refine xo_iconst kc_0 dL_law_285 ?_
              exact xo_zret dL_law_286 rfl
          · refine mk_O.cs (fun n3 => ?_) (fun n3 => ?_)
            · refine xo_tab (kx := 3) (j := 3) n3 dL_law_33 (by decide) (by decide) (by decide) rfl rfl ?_
              refine xo_aload_n rfl rfl dL_law_287 ?_
              refine mk_O.callV (N := M_X11_rule) (ci := 10) (q := (RX11, TX11, 7)) (b := x1) (As1 := []) (S := []) md_X11_rule mv_X11_rule lk_RL_28 rfl (Nat.le_of_ble_eq_true rfl) (by decide) dL_law_288 rfl rfl rfl (fun z hz => (c_X11_rule x1 t z hz).1) (fun z hz => (c_X11_rule x1 t z hz).2) (fun z21 _ => ?_)
              show mk_O _ _ _ _ (.int z21.1 :: []) _ _
              refine xo_aload_n rfl rfl dL_law_291 ?_
              refine mk_O.callV (N := M_X12_rule) (ci := 11) (q := (RX12, TX12, 64)) (b := x2) (As1 := []) (S := [.int z21.1]) md_X12_rule mv_X12_rule lk_RL_31 rfl (Nat.le_of_ble_eq_true rfl) (by decide) dL_law_292 rfl rfl rfl (fun z hz => (c_X12_rule x2 z21.2 z hz).1) (fun z hz => (c_X12_rule x2 z21.2 z hz).2) (fun z22 _ => ?_)
              show mk_O _ _ _ _ (.int z22.1 :: [.int z21.1]) _ _
              refine xo_icmp_eq (tgt := 1293) dL_law_295 rfl (fun _ => ?_) (fun _ => ?_)
              · exact mk_O.wk (o_L_law_1293 _ ih x0 x1 x2 x3 z22.2) ⟨rfl, ⟨rfl, ⟨rfl, ⟨rfl, trivial⟩⟩⟩⟩
              · refine xo_iconst kc_0 dL_law_298 ?_
                exact xo_zret dL_law_299 rfl
            · refine mk_O.cs (fun n4 => ?_) (fun n4 => ?_)
              · refine xo_tab (kx := 4) (j := 4) n4 dL_law_33 (by decide) (by decide) (by decide) rfl rfl ?_
                refine xo_aload_n rfl rfl dL_law_300 ?_
                refine xo_aload_n rfl rfl dL_law_301 ?_
                refine xo_iload_n rfl rfl dL_law_302 ?_
                refine xo_iconst kc_1 dL_law_303 ?_
                refine xo_iadd dL_law_304 ?_
                refine xo_iald dL_law_305 (fun v23 => ?_)
                refine mk_O.callV (N := M_X11_force) (ci := 10) (q := (RX11, TX11, 7)) (b := x1) (As1 := [.int v23]) (S := []) md_X11_force mv_X11_force lk_RL_32 rfl (Nat.le_of_ble_eq_true rfl) (by decide) dL_law_306 rfl rfl rfl (fun z hz => (c_X11_force x1 v23 t z hz).1) (fun z hz => (c_X11_force x1 v23 t z hz).2) (fun z24 _ => ?_)
                show mk_O _ _ _ _ (.int z24.1 :: []) _ _
                refine xo_aload_n rfl rfl dL_law_309 ?_
                refine xo_aload_n rfl rfl dL_law_310 ?_
                refine xo_iload_n rfl rfl dL_law_311 ?_
                refine xo_iconst kc_1 dL_law_312 ?_
                refine xo_iadd dL_law_313 ?_
                refine xo_iald dL_law_314 (fun v25 => ?_)
                refine mk_O.callV (N := M_X12_force) (ci := 11) (q := (RX12, TX12, 64)) (b := x2) (As1 := [.int v25]) (S := [.int z24.1]) md_X12_force mv_X12_force lk_RL_35 rfl (Nat.le_of_ble_eq_true rfl) (by decide) dL_law_315 rfl rfl rfl (fun z hz => (c_X12_force x2 v25 z24.2 z hz).1) (fun z hz => (c_X12_force x2 v25 z24.2 z hz).2) (fun z26 _ => ?_)
                show mk_O _ _ _ _ (.int z26.1 :: [.int z24.1]) _ _
                refine xo_icmp_eq (tgt := 1293) dL_law_318 rfl (fun _ => ?_) (fun _ => ?_)
                · exact mk_O.wk (o_L_law_1293 _ ih x0 x1 x2 x3 z26.2) ⟨rfl, ⟨rfl, ⟨rfl, ⟨rfl, trivial⟩⟩⟩⟩
                · refine xo_iconst kc_0 dL_law_321 ?_
                  exact xo_zret dL_law_322 rfl
              · refine mk_O.cs (fun n5 => ?_) (fun n5 => ?_)
                · refine xo_tab (kx := 5) (j := 5) n5 dL_law_33 (by decide) (by decide) (by decide) rfl rfl ?_
                  refine xo_aload_n rfl rfl dL_law_323 ?_
                  refine xo_aload_n rfl rfl dL_law_324 ?_
                  refine xo_iload_n rfl rfl dL_law_325 ?_
                  refine xo_iconst kc_1 dL_law_326 ?_
                  refine xo_iadd dL_law_327 ?_
                  refine xo_iald dL_law_328 (fun v27 => ?_)
                  refine xo_aload_n rfl rfl dL_law_329 ?_
                  refine xo_iload_n rfl rfl dL_law_330 ?_
                  refine xo_iconst kc_2 dL_law_331 ?_
                  refine xo_iadd dL_law_332 ?_
                  refine xo_iald dL_law_333 (fun v28 => ?_)
                  refine mk_O.callV (N := M_X11_person) (ci := 10) (q := (RX11, TX11, 7)) (b := x1) (As1 := [.int v27, .int v28]) (S := []) md_X11_person mv_X11_person lk_RL_36 rfl (Nat.le_of_ble_eq_true rfl) (by decide) dL_law_334 rfl rfl rfl (fun z hz => (c_X11_person x1 v27 v28 t z hz).1) (fun z hz => (c_X11_person x1 v27 v28 t z hz).2) (fun z29 _ => ?_)
                  show mk_O _ _ _ _ (.int z29.1 :: []) _ _
                  refine xo_aload_n rfl rfl dL_law_337 ?_
                  refine xo_aload_n rfl rfl dL_law_338 ?_
                  refine xo_iload_n rfl rfl dL_law_339 ?_
                  refine xo_iconst kc_1 dL_law_340 ?_
                  refine xo_iadd dL_law_341 ?_
                  refine xo_iald dL_law_342 (fun v30 => ?_)
                  refine xo_aload_n rfl rfl dL_law_343 ?_
                  refine xo_iload_n rfl rfl dL_law_344 ?_
                  refine xo_iconst kc_2 dL_law_345 ?_
                  refine xo_iadd dL_law_346 ?_
                  refine xo_iald dL_law_347 (fun v31 => ?_)
                  refine mk_O.callV (N := M_X12_person) (ci := 11) (q := (RX12, TX12, 64)) (b := x2) (As1 := [.int v30, .int v31]) (S := [.int z29.1]) md_X12_person mv_X12_person lk_RL_40 rfl (Nat.le_of_ble_eq_true rfl) (by decide) dL_law_348 rfl rfl rfl (fun z hz => (c_X12_person x2 v30 v31 z29.2 z hz).1) (fun z hz => (c_X12_person x2 v30 v31 z29.2 z hz).2) (fun z32 _ => ?_)
                  show mk_O _ _ _ _ (.int z32.1 :: [.int z29.1]) _ _
                  refine xo_icmp_eq (tgt := 1293) dL_law_351 rfl (fun _ => ?_) (fun _ => ?_)
                  · exact mk_O.wk (o_L_law_1293 _ ih x0 x1 x2 x3 z32.2) ⟨rfl, ⟨rfl, ⟨rfl, ⟨rfl, trivial⟩⟩⟩⟩
                  · refine xo_iconst kc_0 dL_law_354 ?_
                    exact xo_zret dL_law_355 rfl
                · refine mk_O.cs (fun n6 => ?_) (fun n6 => ?_)
                  · refine xo_tab (kx := 6) (j := 6) n6 dL_law_33 (by decide) (by decide) (by decide) rfl rfl ?_
                    refine xo_aload_n rfl rfl dL_law_356 ?_
                    refine xo_aload_n rfl rfl dL_law_357 ?_
                    refine xo_iload_n rfl rfl dL_law_358 ?_
                    refine xo_iconst kc_1 dL_law_359 ?_
                    refine xo_iadd dL_law_360 ?_
                    refine xo_iald dL_law_361 (fun v33 => ?_)
                    refine xo_aload_n rfl rfl dL_law_362 ?_
                    refine xo_iload_n rfl rfl dL_law_363 ?_
                    refine xo_iconst kc_2 dL_law_364 ?_
                    refine xo_iadd dL_law_365 ?_
                    refine xo_iald dL_law_366 (fun v34 => ?_)
                    refine mk_O.callV (N := M_X11_mill) (ci := 10) (q := (RX11, TX11, 7)) (b := x1) (As1 := [.int v33, .int v34]) (S := []) md_X11_mill mv_X11_mill lk_RL_41 rfl (Nat.le_of_ble_eq_true rfl) (by decide) dL_law_367 rfl rfl rfl (fun z hz => (c_X11_mill x1 v33 v34 t z hz).1) (fun z hz => (c_X11_mill x1 v33 v34 t z hz).2) (fun z35 _ => ?_)
                    show mk_O _ _ _ _ (.int z35.1 :: []) _ _
                    refine xo_aload_n rfl rfl dL_law_370 ?_
                    refine xo_aload_n rfl rfl dL_law_371 ?_
                    refine xo_iload_n rfl rfl dL_law_372 ?_
                    refine xo_iconst kc_1 dL_law_373 ?_
                    refine xo_iadd dL_law_374 ?_
                    refine xo_iald dL_law_375 (fun v36 => ?_)
                    refine xo_aload_n rfl rfl dL_law_376 ?_
                    refine xo_iload_n rfl rfl dL_law_377 ?_
                    refine xo_iconst kc_2 dL_law_378 ?_
                    refine xo_iadd dL_law_379 ?_
                    refine xo_iald dL_law_380 (fun v37 => ?_)
                    refine mk_O.callV (N := M_X12_mill) (ci := 11) (q := (RX12, TX12, 64)) (b := x2) (As1 := [.int v36, .int v37]) (S := [.int z35.1]) md_X12_mill mv_X12_mill lk_RL_44 rfl (Nat.le_of_ble_eq_true rfl) (by decide) dL_law_381 rfl rfl rfl (fun z hz => (c_X12_mill x2 v36 v37 z35.2 z hz).1) (fun z hz => (c_X12_mill x2 v36 v37 z35.2 z hz).2) (fun z38 _ => ?_)
                    show mk_O _ _ _ _ (.int z38.1 :: [.int z35.1]) _ _
                    refine xo_icmp_eq (tgt := 1293) dL_law_384 rfl (fun _ => ?_) (fun _ => ?_)
                    · exact mk_O.wk (o_L_law_1293 _ ih x0 x1 x2 x3 z38.2) ⟨rfl, ⟨rfl, ⟨rfl, ⟨rfl, trivial⟩⟩⟩⟩
                    · refine xo_iconst kc_0 dL_law_387 ?_
                      exact xo_zret dL_law_388 rfl
                  · refine mk_O.cs (fun n7 => ?_) (fun n7 => ?_)
                    · refine xo_tab (kx := 7) (j := 7) n7 dL_law_33 (by decide) (by decide) (by decide) rfl rfl ?_
                      refine xo_aload_n rfl rfl dL_law_389 ?_
                      refine xo_aload_n rfl rfl dL_law_390 ?_
                      refine xo_iload_n rfl rfl dL_law_391 ?_
                      refine xo_iconst kc_1 dL_law_392 ?_
                      refine xo_iadd dL_law_393 ?_
                      refine xo_iald dL_law_394 (fun v39 => ?_)
                      refine xo_aload_n rfl rfl dL_law_395 ?_
                      refine xo_iload_n rfl rfl dL_law_396 ?_
                      refine xo_iconst kc_2 dL_law_397 ?_
                      refine xo_iadd dL_law_398 ?_
                      refine xo_iald dL_law_399 (fun v40 => ?_)
                      refine mk_O.callV (N := M_X11_roof) (ci := 10) (q := (RX11, TX11, 7)) (b := x1) (As1 := [.int v39, .int v40]) (S := []) md_X11_roof mv_X11_roof lk_RL_45 rfl (Nat.le_of_ble_eq_true rfl) (by decide) dL_law_400 rfl rfl rfl (fun z hz => (c_X11_roof x1 v39 v40 t z hz).1) (fun z hz => (c_X11_roof x1 v39 v40 t z hz).2) (fun z41 _ => ?_)
                      show mk_O _ _ _ _ (.int z41.1 :: []) _ _
                      refine xo_aload_n rfl rfl dL_law_403 ?_
                      refine xo_aload_n rfl rfl dL_law_404 ?_
                      refine xo_iload_n rfl rfl dL_law_405 ?_
                      refine xo_iconst kc_1 dL_law_406 ?_
                      refine xo_iadd dL_law_407 ?_
                      refine xo_iald dL_law_408 (fun v42 => ?_)
                      refine xo_aload_n rfl rfl dL_law_409 ?_
                      refine xo_iload_n rfl rfl dL_law_410 ?_
                      refine xo_iconst kc_2 dL_law_411 ?_
                      refine xo_iadd dL_law_412 ?_
                      refine xo_iald dL_law_413 (fun v43 => ?_)
                      refine mk_O.callV (N := M_X12_roof) (ci := 11) (q := (RX12, TX12, 64)) (b := x2) (As1 := [.int v42, .int v43]) (S := [.int z41.1]) md_X12_roof mv_X12_roof lk_RL_48 rfl (Nat.le_of_ble_eq_true rfl) (by decide) dL_law_414 rfl rfl rfl (fun z hz => (c_X12_roof x2 v42 v43 z41.2 z hz).1) (fun z hz => (c_X12_roof x2 v42 v43 z41.2 z hz).2) (fun z44 _ => ?_)
                      show mk_O _ _ _ _ (.int z44.1 :: [.int z41.1]) _ _
                      refine xo_icmp_eq (tgt := 1293) dL_law_417 rfl (fun _ => ?_) (fun _ => ?_)
                      · exact mk_O.wk (o_L_law_1293 _ ih x0 x1 x2 x3 z44.2) ⟨rfl, ⟨rfl, ⟨rfl, ⟨rfl, trivial⟩⟩⟩⟩
                      · refine xo_iconst kc_0 dL_law_420 ?_
                        exact xo_zret dL_law_421 rfl
                    · refine mk_O.cs (fun n8 => ?_) (fun n8 => ?_)
                      · refine xo_tab (kx := 8) (j := 8) n8 dL_law_33 (by decide) (by decide) (by decide) rfl rfl ?_
                        refine xo_aload_n rfl rfl dL_law_422 ?_
                        refine xo_aload_n rfl rfl dL_law_423 ?_
                        refine xo_iload_n rfl rfl dL_law_424 ?_
                        refine xo_iconst kc_1 dL_law_425 ?_
                        refine xo_iadd dL_law_426 ?_
                        refine xo_iald dL_law_427 (fun v45 => ?_)
                        refine mk_O.callV (N := M_X11_wind) (ci := 10) (q := (RX11, TX11, 7)) (b := x1) (As1 := [.int v45]) (S := []) md_X11_wind mv_X11_wind lk_RL_49 rfl (Nat.le_of_ble_eq_true rfl) (by decide) dL_law_428 rfl rfl rfl (fun z hz => (c_X11_wind x1 v45 t z hz).1) (fun z hz => (c_X11_wind x1 v45 t z hz).2) (fun z46 _ => ?_)
                        show mk_O _ _ _ _ (.int z46.1 :: []) _ _
                        refine xo_aload_n rfl rfl dL_law_431 ?_
                        refine xo_aload_n rfl rfl dL_law_432 ?_
                        refine xo_iload_n rfl rfl dL_law_433 ?_
                        refine xo_iconst kc_1 dL_law_434 ?_
                        refine xo_iadd dL_law_435 ?_
                        refine xo_iald dL_law_436 (fun v47 => ?_)
                        refine mk_O.callV (N := M_X12_wind) (ci := 11) (q := (RX12, TX12, 64)) (b := x2) (As1 := [.int v47]) (S := [.int z46.1]) md_X12_wind mv_X12_wind lk_RL_52 rfl (Nat.le_of_ble_eq_true rfl) (by decide) dL_law_437 rfl rfl rfl (fun z hz => (c_X12_wind x2 v47 z46.2 z hz).1) (fun z hz => (c_X12_wind x2 v47 z46.2 z hz).2) (fun z48 _ => ?_)
                        show mk_O _ _ _ _ (.int z48.1 :: [.int z46.1]) _ _
                        refine xo_icmp_eq (tgt := 1293) dL_law_440 rfl (fun _ => ?_) (fun _ => ?_)
                        · exact mk_O.wk (o_L_law_1293 _ ih x0 x1 x2 x3 z48.2) ⟨rfl, ⟨rfl, ⟨rfl, ⟨rfl, trivial⟩⟩⟩⟩
                        · refine xo_iconst kc_0 dL_law_443 ?_
                          exact xo_zret dL_law_444 rfl
                      · refine mk_O.cs (fun n9 => ?_) (fun n9 => ?_)
                        · refine xo_tab (kx := 9) (j := 9) n9 dL_law_33 (by decide) (by decide) (by decide) rfl rfl ?_
                          refine xo_aload_n rfl rfl dL_law_445 ?_
                          refine mk_O.callV (N := M_X11_hour) (ci := 10) (q := (RX11, TX11, 7)) (b := x1) (As1 := []) (S := []) md_X11_hour mv_X11_hour lk_RL_53 rfl (Nat.le_of_ble_eq_true rfl) (by decide) dL_law_446 rfl rfl rfl (fun z hz => (c_X11_hour x1 t z hz).1) (fun z hz => (c_X11_hour x1 t z hz).2) (fun z49 _ => ?_)
                          show mk_O _ _ _ _ (.int z49.1 :: []) _ _
                          refine xo_aload_n rfl rfl dL_law_449 ?_
                          refine mk_O.callV (N := M_X12_hour) (ci := 11) (q := (RX12, TX12, 64)) (b := x2) (As1 := []) (S := [.int z49.1]) md_X12_hour mv_X12_hour lk_RL_56 rfl (Nat.le_of_ble_eq_true rfl) (by decide) dL_law_450 rfl rfl rfl (fun z hz => (c_X12_hour x2 z49.2 z hz).1) (fun z hz => (c_X12_hour x2 z49.2 z hz).2) (fun z50 _ => ?_)
                          show mk_O _ _ _ _ (.int z50.1 :: [.int z49.1]) _ _
                          refine xo_icmp_eq (tgt := 1293) dL_law_453 rfl (fun _ => ?_) (fun _ => ?_)
                          · exact mk_O.wk (o_L_law_1293 _ ih x0 x1 x2 x3 z50.2) ⟨rfl, ⟨rfl, ⟨rfl, ⟨rfl, trivial⟩⟩⟩⟩
                          · refine xo_iconst kc_0 dL_law_456 ?_
                            exact xo_zret dL_law_457 rfl
                        · refine mk_O.cs (fun n10 => ?_) (fun n10 => ?_)
                          · refine xo_tab (kx := 10) (j := 10) n10 dL_law_33 (by decide) (by decide) (by decide) rfl rfl ?_
                            refine xo_aload_n rfl rfl dL_law_458 ?_
                            refine xo_aload_n rfl rfl dL_law_459 ?_
                            refine xo_iload_n rfl rfl dL_law_460 ?_
                            refine xo_iconst kc_1 dL_law_461 ?_
                            refine xo_iadd dL_law_462 ?_
                            refine xo_iald dL_law_463 (fun v51 => ?_)
                            refine xo_aload_n rfl rfl dL_law_464 ?_
                            refine xo_iload_n rfl rfl dL_law_465 ?_
                            refine xo_iconst kc_2 dL_law_466 ?_
                            refine xo_iadd dL_law_467 ?_
                            refine xo_iald dL_law_468 (fun v52 => ?_)
                            refine mk_O.callV (N := M_X11_wine) (ci := 10) (q := (RX11, TX11, 7)) (b := x1) (As1 := [.int v51, .int v52]) (S := []) md_X11_wine mv_X11_wine lk_RL_57 rfl (Nat.le_of_ble_eq_true rfl) (by decide) dL_law_469 rfl rfl rfl (fun z hz => (c_X11_wine x1 v51 v52 t z hz).1) (fun z hz => (c_X11_wine x1 v51 v52 t z hz).2) (fun z53 _ => ?_)
                            show mk_O _ _ _ _ (.int z53.1 :: []) _ _
                            refine xo_aload_n rfl rfl dL_law_472 ?_
                            refine xo_aload_n rfl rfl dL_law_473 ?_
                            refine xo_iload_n rfl rfl dL_law_474 ?_
                            refine xo_iconst kc_1 dL_law_475 ?_
                            refine xo_iadd dL_law_476 ?_
                            refine xo_iald dL_law_477 (fun v54 => ?_)
                            refine xo_aload_n rfl rfl dL_law_478 ?_
                            refine xo_iload_n rfl rfl dL_law_479 ?_
                            refine xo_iconst kc_2 dL_law_480 ?_
                            refine xo_iadd dL_law_481 ?_
                            refine xo_iald dL_law_482 (fun v55 => ?_)
                            refine mk_O.callV (N := M_X12_wine) (ci := 11) (q := (RX12, TX12, 64)) (b := x2) (As1 := [.int v54, .int v55]) (S := [.int z53.1]) md_X12_wine mv_X12_wine lk_RL_60 rfl (Nat.le_of_ble_eq_true rfl) (by decide) dL_law_483 rfl rfl rfl (fun z hz => (c_X12_wine x2 v54 v55 z53.2 z hz).1) (fun z hz => (c_X12_wine x2 v54 v55 z53.2 z hz).2) (fun z56 _ => ?_)
                            show mk_O _ _ _ _ (.int z56.1 :: [.int z53.1]) _ _
                            refine xo_icmp_eq (tgt := 1293) dL_law_486 rfl (fun _ => ?_) (fun _ => ?_)
                            · exact mk_O.wk (o_L_law_1293 _ ih x0 x1 x2 x3 z56.2) ⟨rfl, ⟨rfl, ⟨rfl, ⟨rfl, trivial⟩⟩⟩⟩
                            · refine xo_iconst kc_0 dL_law_489 ?_
                              exact xo_zret dL_law_490 rfl
                          · refine mk_O.cs (fun n11 => ?_) (fun n11 => ?_)
                            · refine xo_tab (kx := 11) (j := 11) n11 dL_law_33 (by decide) (by decide) (by decide) rfl rfl ?_
                              refine xo_aload_n rfl rfl dL_law_491 ?_
                              refine xo_aload_n rfl rfl dL_law_492 ?_
                              refine xo_iload_n rfl rfl dL_law_493 ?_
                              refine xo_iconst kc_1 dL_law_494 ?_
                              refine xo_iadd dL_law_495 ?_
                              refine xo_iald dL_law_496 (fun v57 => ?_)
                              refine xo_aload_n rfl rfl dL_law_497 ?_
                              refine xo_iload_n rfl rfl dL_law_498 ?_
                              refine xo_iconst kc_2 dL_law_499 ?_
                              refine xo_iadd dL_law_500 ?_
                              refine xo_iald dL_law_501 (fun v58 => ?_)
                              refine mk_O.callV (N := M_X11_place) (ci := 10) (q := (RX11, TX11, 7)) (b := x1) (As1 := [.int v57, .int v58]) (S := []) md_X11_place mv_X11_place lk_RL_61 rfl (Nat.le_of_ble_eq_true rfl) (by decide) dL_law_502 rfl rfl rfl (fun z hz => (c_X11_place x1 v57 v58 t z hz).1) (fun z hz => (c_X11_place x1 v57 v58 t z hz).2) (fun z59 _ => ?_)
                              show mk_O _ _ _ _ (.int z59.1 :: []) _ _
                              refine xo_aload_n rfl rfl dL_law_505 ?_
                              refine xo_aload_n rfl rfl dL_law_506 ?_
                              refine xo_iload_n rfl rfl dL_law_507 ?_
                              refine xo_iconst kc_1 dL_law_508 ?_
                              refine xo_iadd dL_law_509 ?_
                              refine xo_iald dL_law_510 (fun v60 => ?_)
                              refine xo_aload_n rfl rfl dL_law_511 ?_
                              refine xo_iload_n rfl rfl dL_law_512 ?_
                              refine xo_iconst kc_2 dL_law_513 ?_
                              refine xo_iadd dL_law_514 ?_
                              refine xo_iald dL_law_515 (fun v61 => ?_)
                              refine mk_O.callV (N := M_X12_place) (ci := 11) (q := (RX12, TX12, 64)) (b := x2) (As1 := [.int v60, .int v61]) (S := [.int z59.1]) md_X12_place mv_X12_place lk_RL_64 rfl (Nat.le_of_ble_eq_true rfl) (by decide) dL_law_516 rfl rfl rfl (fun z hz => (c_X12_place x2 v60 v61 z59.2 z hz).1) (fun z hz => (c_X12_place x2 v60 v61 z59.2 z hz).2) (fun z62 _ => ?_)
                              show mk_O _ _ _ _ (.int z62.1 :: [.int z59.1]) _ _
                              refine xo_icmp_eq (tgt := 1293) dL_law_519 rfl (fun _ => ?_) (fun _ => ?_)
                              · exact mk_O.wk (o_L_law_1293 _ ih x0 x1 x2 x3 z62.2) ⟨rfl, ⟨rfl, ⟨rfl, ⟨rfl, trivial⟩⟩⟩⟩
                              · refine xo_iconst kc_0 dL_law_522 ?_
                                exact xo_zret dL_law_523 rfl
                            · refine mk_O.cs (fun n12 => ?_) (fun n12 => ?_)
                              · refine xo_tab (kx := 12) (j := 12) n12 dL_law_33 (by decide) (by decide) (by decide) rfl rfl ?_
                                refine xo_aload_n rfl rfl dL_law_524 ?_
                                refine xo_aload_n rfl rfl dL_law_525 ?_
                                refine xo_iload_n rfl rfl dL_law_526 ?_
                                refine xo_iconst kc_1 dL_law_527 ?_
                                refine xo_iadd dL_law_528 ?_
                                refine xo_iald dL_law_529 (fun v63 => ?_)
                                refine xo_aload_n rfl rfl dL_law_530 ?_
                                refine xo_iload_n rfl rfl dL_law_531 ?_
                                refine xo_iconst kc_2 dL_law_532 ?_
                                refine xo_iadd dL_law_533 ?_
                                refine xo_iald dL_law_534 (fun v64 => ?_)
                                refine mk_O.callV (N := M_X11_face) (ci := 10) (q := (RX11, TX11, 7)) (b := x1) (As1 := [.int v63, .int v64]) (S := []) md_X11_face mv_X11_face lk_RL_65 rfl (Nat.le_of_ble_eq_true rfl) (by decide) dL_law_535 rfl rfl rfl (fun z hz => (c_X11_face x1 v63 v64 t z hz).1) (fun z hz => (c_X11_face x1 v63 v64 t z hz).2) (fun z65 _ => ?_)
                                show mk_O _ _ _ _ (.int z65.1 :: []) _ _
                                refine xo_aload_n rfl rfl dL_law_538 ?_
                                refine xo_aload_n rfl rfl dL_law_539 ?_
                                refine xo_iload_n rfl rfl dL_law_540 ?_
                                refine xo_iconst kc_1 dL_law_541 ?_
                                refine xo_iadd dL_law_542 ?_
                                refine xo_iald dL_law_543 (fun v66 => ?_)
                                refine xo_aload_n rfl rfl dL_law_544 ?_
                                refine xo_iload_n rfl rfl dL_law_545 ?_
                                refine xo_iconst kc_2 dL_law_546 ?_
                                refine xo_iadd dL_law_547 ?_
                                refine xo_iald dL_law_548 (fun v67 => ?_)
                                refine mk_O.callV (N := M_X12_face) (ci := 11) (q := (RX12, TX12, 64)) (b := x2) (As1 := [.int v66, .int v67]) (S := [.int z65.1]) md_X12_face mv_X12_face lk_RL_68 rfl (Nat.le_of_ble_eq_true rfl) (by decide) dL_law_549 rfl rfl rfl (fun z hz => (c_X12_face x2 v66 v67 z65.2 z hz).1) (fun z hz => (c_X12_face x2 v66 v67 z65.2 z hz).2) (fun z68 _ => ?_)
                                show mk_O _ _ _ _ (.int z68.1 :: [.int z65.1]) _ _
                                refine xo_icmp_eq (tgt := 1293) dL_law_552 rfl (fun _ => ?_) (fun _ => ?_)
                                · exact mk_O.wk (o_L_law_1293 _ ih x0 x1 x2 x3 z68.2) ⟨rfl, ⟨rfl, ⟨rfl, ⟨rfl, trivial⟩⟩⟩⟩
                                · refine xo_iconst kc_0 dL_law_555 ?_
                                  exact xo_zret dL_law_556 rfl
                              · refine mk_O.cs (fun n13 => ?_) (fun n13 => ?_)
                                · refine xo_tab (kx := 13) (j := 13) n13 dL_law_33 (by decide) (by decide) (by decide) rfl rfl ?_
                                  refine xo_aload_n rfl rfl dL_law_557 ?_
                                  refine xo_aload_n rfl rfl dL_law_558 ?_
                                  refine xo_iload_n rfl rfl dL_law_559 ?_
                                  refine xo_iconst kc_1 dL_law_560 ?_
                                  refine xo_iadd dL_law_561 ?_
                                  refine xo_iald dL_law_562 (fun v69 => ?_)
                                  refine mk_O.callV (N := M_X11_mend) (ci := 10) (q := (RX11, TX11, 7)) (b := x1) (As1 := [.int v69]) (S := []) md_X11_mend mv_X11_mend lk_RL_69 rfl (Nat.le_of_ble_eq_true rfl) (by decide) dL_law_563 rfl rfl rfl (fun z hz => (c_X11_mend x1 v69 t z hz).1) (fun z hz => (c_X11_mend x1 v69 t z hz).2) (fun z70 _ => ?_)
                                  show mk_O _ _ _ _ (.int z70.1 :: []) _ _
                                  refine xo_aload_n rfl rfl dL_law_566 ?_
                                  refine xo_aload_n rfl rfl dL_law_567 ?_
                                  refine xo_iload_n rfl rfl dL_law_568 ?_
                                  refine xo_iconst kc_1 dL_law_569 ?_
                                  refine xo_iadd dL_law_570 ?_
                                  refine xo_iald dL_law_571 (fun v71 => ?_)
                                  refine mk_O.callV (N := M_X12_mend) (ci := 11) (q := (RX12, TX12, 64)) (b := x2) (As1 := [.int v71]) (S := [.int z70.1]) md_X12_mend mv_X12_mend lk_RL_72 rfl (Nat.le_of_ble_eq_true rfl) (by decide) dL_law_572 rfl rfl rfl (fun z hz => (c_X12_mend x2 v71 z70.2 z hz).1) (fun z hz => (c_X12_mend x2 v71 z70.2 z hz).2) (fun z72 _ => ?_)
                                  show mk_O _ _ _ _ (.int z72.1 :: [.int z70.1]) _ _
                                  refine xo_icmp_eq (tgt := 1293) dL_law_575 rfl (fun _ => ?_) (fun _ => ?_)
                                  · exact mk_O.wk (o_L_law_1293 _ ih x0 x1 x2 x3 z72.2) ⟨rfl, ⟨rfl, ⟨rfl, ⟨rfl, trivial⟩⟩⟩⟩
                                  · refine xo_iconst kc_0 dL_law_578 ?_
                                    exact xo_zret dL_law_579 rfl
                                · refine mk_O.cs (fun n14 => ?_) (fun n14 => ?_)
                                  · refine xo_tab (kx := 14) (j := 14) n14 dL_law_33 (by decide) (by decide) (by decide) rfl rfl ?_
                                    refine xo_aload_n rfl rfl dL_law_580 ?_
                                    refine mk_O.callV (N := M_X11_undo) (ci := 10) (q := (RX11, TX11, 7)) (b := x1) (As1 := []) (S := []) md_X11_undo mv_X11_undo lk_RL_73 rfl (Nat.le_of_ble_eq_true rfl) (by decide) dL_law_581 rfl rfl rfl (fun z hz => (c_X11_undo x1 t z hz).1) (fun z hz => (c_X11_undo x1 t z hz).2) (fun z73 _ => ?_)
                                    show mk_O _ _ _ _ (.int z73.1 :: []) _ _
                                    refine xo_aload_n rfl rfl dL_law_584 ?_
                                    refine mk_O.callV (N := M_X12_undo) (ci := 11) (q := (RX12, TX12, 64)) (b := x2) (As1 := []) (S := [.int z73.1]) md_X12_undo mv_X12_undo lk_RL_76 rfl (Nat.le_of_ble_eq_true rfl) (by decide) dL_law_585 rfl rfl rfl (fun z hz => (c_X12_undo x2 z73.2 z hz).1) (fun z hz => (c_X12_undo x2 z73.2 z hz).2) (fun z74 _ => ?_)
                                    show mk_O _ _ _ _ (.int z74.1 :: [.int z73.1]) _ _
                                    refine xo_icmp_eq (tgt := 1293) dL_law_588 rfl (fun _ => ?_) (fun _ => ?_)
                                    · exact mk_O.wk (o_L_law_1293 _ ih x0 x1 x2 x3 z74.2) ⟨rfl, ⟨rfl, ⟨rfl, ⟨rfl, trivial⟩⟩⟩⟩
                                    · refine xo_iconst kc_0 dL_law_591 ?_
                                      exact xo_zret dL_law_592 rfl
                                  · refine mk_O.cs (fun n15 => ?_) (fun n15 => ?_)
                                    · refine xo_tab (kx := 15) (j := 15) n15 dL_law_33 (by decide) (by decide) (by decide) rfl rfl ?_
                                      refine xo_aload_n rfl rfl dL_law_593 ?_
                                      refine xo_aload_n rfl rfl dL_law_594 ?_
                                      refine xo_iload_n rfl rfl dL_law_595 ?_
                                      refine xo_iconst kc_1 dL_law_596 ?_
                                      refine xo_iadd dL_law_597 ?_
                                      refine xo_iald dL_law_598 (fun v75 => ?_)
                                      refine xo_aload_n rfl rfl dL_law_599 ?_
                                      refine xo_iload_n rfl rfl dL_law_600 ?_
                                      refine xo_iconst kc_2 dL_law_601 ?_
                                      refine xo_iadd dL_law_602 ?_
                                      refine xo_iald dL_law_603 (fun v76 => ?_)
                                      refine xo_aload_n rfl rfl dL_law_604 ?_
                                      refine xo_iload_n rfl rfl dL_law_605 ?_
                                      refine xo_iconst kc_3 dL_law_606 ?_
                                      refine xo_iadd dL_law_607 ?_
                                      refine xo_iald dL_law_608 (fun v77 => ?_)
                                      refine mk_O.callV (N := M_X11_ahead) (ci := 10) (q := (RX11, TX11, 7)) (b := x1) (As1 := [.int v75, .int v76, .int v77]) (S := []) md_X11_ahead mv_X11_ahead lk_RL_77 rfl (Nat.le_of_ble_eq_true rfl) (by decide) dL_law_609 rfl rfl rfl (fun z hz => (c_X11_ahead x1 v75 v76 v77 t z hz).1) (fun z hz => (c_X11_ahead x1 v75 v76 v77 t z hz).2) (fun z78 _ => ?_)
                                      show mk_O _ _ _ _ (.int z78.1 :: []) _ _
                                      refine xo_aload_n rfl rfl dL_law_612 ?_
                                      refine xo_aload_n rfl rfl dL_law_613 ?_
                                      refine xo_iload_n rfl rfl dL_law_614 ?_
                                      refine xo_iconst kc_1 dL_law_615 ?_
                                      refine xo_iadd dL_law_616 ?_
                                      refine xo_iald dL_law_617 (fun v79 => ?_)
                                      refine xo_aload_n rfl rfl dL_law_618 ?_
                                      refine xo_iload_n rfl rfl dL_law_619 ?_
                                      refine xo_iconst kc_2 dL_law_620 ?_
                                      refine xo_iadd dL_law_621 ?_
                                      refine xo_iald dL_law_622 (fun v80 => ?_)
                                      refine xo_aload_n rfl rfl dL_law_623 ?_
                                      refine xo_iload_n rfl rfl dL_law_624 ?_
                                      refine xo_iconst kc_3 dL_law_625 ?_
                                      refine xo_iadd dL_law_626 ?_
                                      refine xo_iald dL_law_627 (fun v81 => ?_)
                                      refine mk_O.callV (N := M_X12_ahead) (ci := 11) (q := (RX12, TX12, 64)) (b := x2) (As1 := [.int v79, .int v80, .int v81]) (S := [.int z78.1]) md_X12_ahead mv_X12_ahead lk_RL_81 rfl (Nat.le_of_ble_eq_true rfl) (by decide) dL_law_628 rfl rfl rfl (fun z hz => (c_X12_ahead x2 v79 v80 v81 z78.2 z hz).1) (fun z hz => (c_X12_ahead x2 v79 v80 v81 z78.2 z hz).2) (fun z82 _ => ?_)
                                      show mk_O _ _ _ _ (.int z82.1 :: [.int z78.1]) _ _
                                      refine xo_icmp_eq (tgt := 1293) dL_law_631 rfl (fun _ => ?_) (fun _ => ?_)
                                      · exact mk_O.wk (o_L_law_1293 _ ih x0 x1 x2 x3 z82.2) ⟨rfl, ⟨rfl, ⟨rfl, ⟨rfl, trivial⟩⟩⟩⟩
                                      · refine xo_iconst kc_0 dL_law_634 ?_
                                        exact xo_zret dL_law_635 rfl
                                    · refine mk_O.cs (fun n16 => ?_) (fun n16 => ?_)
                                      · refine xo_tab (kx := 16) (j := 16) n16 dL_law_33 (by decide) (by decide) (by decide) rfl rfl ?_
                                        refine xo_aload_n rfl rfl dL_law_636 ?_
                                        refine xo_aload_n rfl rfl dL_law_637 ?_
                                        refine xo_iload_n rfl rfl dL_law_638 ?_
                                        refine xo_iconst kc_1 dL_law_639 ?_
                                        refine xo_iadd dL_law_640 ?_
                                        refine xo_iald dL_law_641 (fun v83 => ?_)
                                        refine mk_O.callV (N := M_X11_whim) (ci := 10) (q := (RX11, TX11, 7)) (b := x1) (As1 := [.int v83]) (S := []) md_X11_whim mv_X11_whim lk_RL_82 rfl (Nat.le_of_ble_eq_true rfl) (by decide) dL_law_642 rfl rfl rfl (fun z hz => (c_X11_whim x1 v83 t z hz).1) (fun z hz => (c_X11_whim x1 v83 t z hz).2) (fun z84 _ => ?_)
                                        show mk_O _ _ _ _ (.int z84.1 :: []) _ _
                                        refine xo_aload_n rfl rfl dL_law_645 ?_
                                        refine xo_aload_n rfl rfl dL_law_646 ?_
                                        refine xo_iload_n rfl rfl dL_law_647 ?_
                                        refine xo_iconst kc_1 dL_law_648 ?_
                                        refine xo_iadd dL_law_649 ?_
                                        refine xo_iald dL_law_650 (fun v85 => ?_)
                                        refine mk_O.callV (N := M_X12_whim) (ci := 11) (q := (RX12, TX12, 64)) (b := x2) (As1 := [.int v85]) (S := [.int z84.1]) md_X12_whim mv_X12_whim lk_RL_85 rfl (Nat.le_of_ble_eq_true rfl) (by decide) dL_law_651 rfl rfl rfl (fun z hz => (c_X12_whim x2 v85 z84.2 z hz).1) (fun z hz => (c_X12_whim x2 v85 z84.2 z hz).2) (fun z86 _ => ?_)
                                        show mk_O _ _ _ _ (.int z86.1 :: [.int z84.1]) _ _
                                        refine xo_icmp_eq (tgt := 1293) dL_law_654 rfl (fun _ => ?_) (fun _ => ?_)
                                        · exact mk_O.wk (o_L_law_1293 _ ih x0 x1 x2 x3 z86.2) ⟨rfl, ⟨rfl, ⟨rfl, ⟨rfl, trivial⟩⟩⟩⟩
                                        · refine xo_iconst kc_0 dL_law_657 ?_
                                          exact xo_zret dL_law_658 rfl
                                      · refine mk_O.cs (fun n17 => ?_) (fun n17 => ?_)
                                        · refine xo_tab (kx := 17) (j := 17) n17 dL_law_33 (by decide) (by decide) (by decide) rfl rfl ?_
                                          refine xo_aload_n rfl rfl dL_law_659 ?_
                                          refine xo_aload_n rfl rfl dL_law_660 ?_
                                          refine xo_iload_n rfl rfl dL_law_661 ?_
                                          refine xo_iconst kc_1 dL_law_662 ?_
                                          refine xo_iadd dL_law_663 ?_
                                          refine xo_iald dL_law_664 (fun v87 => ?_)
                                          refine mk_O.callV (N := M_X11_storm) (ci := 10) (q := (RX11, TX11, 7)) (b := x1) (As1 := [.int v87]) (S := []) md_X11_storm mv_X11_storm lk_RL_86 rfl (Nat.le_of_ble_eq_true rfl) (by decide) dL_law_665 rfl rfl rfl (fun z hz => (c_X11_storm x1 v87 t z hz).1) (fun z hz => (c_X11_storm x1 v87 t z hz).2) (fun z88 _ => ?_)
                                          show mk_O _ _ _ _ (.int z88.1 :: []) _ _
                                          refine xo_aload_n rfl rfl dL_law_668 ?_
                                          refine xo_aload_n rfl rfl dL_law_669 ?_
                                          refine xo_iload_n rfl rfl dL_law_670 ?_
                                          refine xo_iconst kc_1 dL_law_671 ?_
                                          refine xo_iadd dL_law_672 ?_
                                          refine xo_iald dL_law_673 (fun v89 => ?_)
                                          refine mk_O.callV (N := M_X12_storm) (ci := 11) (q := (RX12, TX12, 64)) (b := x2) (As1 := [.int v89]) (S := [.int z88.1]) md_X12_storm mv_X12_storm lk_RL_89 rfl (Nat.le_of_ble_eq_true rfl) (by decide) dL_law_674 rfl rfl rfl (fun z hz => (c_X12_storm x2 v89 z88.2 z hz).1) (fun z hz => (c_X12_storm x2 v89 z88.2 z hz).2) (fun z90 _ => ?_)
                                          show mk_O _ _ _ _ (.int z90.1 :: [.int z88.1]) _ _
                                          refine xo_icmp_eq (tgt := 1293) dL_law_677 rfl (fun _ => ?_) (fun _ => ?_)
                                          · exact mk_O.wk (o_L_law_1293 _ ih x0 x1 x2 x3 z90.2) ⟨rfl, ⟨rfl, ⟨rfl, ⟨rfl, trivial⟩⟩⟩⟩
                                          · refine xo_iconst kc_0 dL_law_680 ?_
                                            exact xo_zret dL_law_681 rfl
                                        · refine mk_O.cs (fun n18 => ?_) (fun n18 => ?_)
                                          · refine xo_tab (kx := 18) (j := 18) n18 dL_law_33 (by decide) (by decide) (by decide) rfl rfl ?_
                                            refine xo_aload_n rfl rfl dL_law_682 ?_
                                            refine xo_aload_n rfl rfl dL_law_683 ?_
                                            refine xo_iload_n rfl rfl dL_law_684 ?_
                                            refine xo_iconst kc_1 dL_law_685 ?_
                                            refine xo_iadd dL_law_686 ?_
                                            refine xo_iald dL_law_687 (fun v91 => ?_)
                                            refine xo_aload_n rfl rfl dL_law_688 ?_
                                            refine xo_iload_n rfl rfl dL_law_689 ?_
                                            refine xo_iconst kc_2 dL_law_690 ?_
                                            refine xo_iadd dL_law_691 ?_
                                            refine xo_iald dL_law_692 (fun v92 => ?_)
                                            refine xo_aload_n rfl rfl dL_law_693 ?_
                                            refine xo_iload_n rfl rfl dL_law_694 ?_
                                            refine xo_iconst kc_3 dL_law_695 ?_
                                            refine xo_iadd dL_law_696 ?_
                                            refine xo_iald dL_law_697 (fun v93 => ?_)
                                            refine mk_O.callV (N := M_X11_stand) (ci := 10) (q := (RX11, TX11, 7)) (b := x1) (As1 := [.int v91, .int v92, .int v93]) (S := []) md_X11_stand mv_X11_stand lk_RL_90 rfl (Nat.le_of_ble_eq_true rfl) (by decide) dL_law_698 rfl rfl rfl (fun z hz => (c_X11_stand x1 v91 v92 v93 t z hz).1) (fun z hz => (c_X11_stand x1 v91 v92 v93 t z hz).2) (fun z94 _ => ?_)
                                            show mk_O _ _ _ _ (.int z94.1 :: []) _ _
                                            refine xo_aload_n rfl rfl dL_law_701 ?_
                                            refine xo_aload_n rfl rfl dL_law_702 ?_
                                            refine xo_iload_n rfl rfl dL_law_703 ?_
                                            refine xo_iconst kc_1 dL_law_704 ?_
                                            refine xo_iadd dL_law_705 ?_
                                            refine xo_iald dL_law_706 (fun v95 => ?_)
                                            refine xo_aload_n rfl rfl dL_law_707 ?_
                                            refine xo_iload_n rfl rfl dL_law_708 ?_
                                            refine xo_iconst kc_2 dL_law_709 ?_
                                            refine xo_iadd dL_law_710 ?_
                                            refine xo_iald dL_law_711 (fun v96 => ?_)
                                            refine xo_aload_n rfl rfl dL_law_712 ?_
                                            refine xo_iload_n rfl rfl dL_law_713 ?_
                                            refine xo_iconst kc_3 dL_law_714 ?_
                                            refine xo_iadd dL_law_715 ?_
                                            refine xo_iald dL_law_716 (fun v97 => ?_)
                                            refine mk_O.callV (N := M_X12_stand) (ci := 11) (q := (RX12, TX12, 64)) (b := x2) (As1 := [.int v95, .int v96, .int v97]) (S := [.int z94.1]) md_X12_stand mv_X12_stand lk_RL_93 rfl (Nat.le_of_ble_eq_true rfl) (by decide) dL_law_717 rfl rfl rfl (fun z hz => (c_X12_stand x2 v95 v96 v97 z94.2 z hz).1) (fun z hz => (c_X12_stand x2 v95 v96 v97 z94.2 z hz).2) (fun z98 _ => ?_)
                                            show mk_O _ _ _ _ (.int z98.1 :: [.int z94.1]) _ _
                                            refine xo_icmp_eq (tgt := 1293) dL_law_720 rfl (fun _ => ?_) (fun _ => ?_)
                                            · exact mk_O.wk (o_L_law_1293 _ ih x0 x1 x2 x3 z98.2) ⟨rfl, ⟨rfl, ⟨rfl, ⟨rfl, trivial⟩⟩⟩⟩
                                            · refine xo_iconst kc_0 dL_law_723 ?_
                                              exact xo_zret dL_law_724 rfl
                                          · refine mk_O.cs (fun n19 => ?_) (fun n19 => ?_)
                                            · refine xo_tab (kx := 19) (j := 19) n19 dL_law_33 (by decide) (by decide) (by decide) rfl rfl ?_
                                              refine xo_aload_n rfl rfl dL_law_725 ?_
                                              refine xo_aload_n rfl rfl dL_law_726 ?_
                                              refine xo_iload_n rfl rfl dL_law_727 ?_
                                              refine xo_iconst kc_1 dL_law_728 ?_
                                              refine xo_iadd dL_law_729 ?_
                                              refine xo_iald dL_law_730 (fun v99 => ?_)
                                              refine xo_aload_n rfl rfl dL_law_731 ?_
                                              refine xo_iload_n rfl rfl dL_law_732 ?_
                                              refine xo_iconst kc_2 dL_law_733 ?_
                                              refine xo_iadd dL_law_734 ?_
                                              refine xo_iald dL_law_735 (fun v100 => ?_)
                                              refine xo_aload_n rfl rfl dL_law_736 ?_
                                              refine xo_iload_n rfl rfl dL_law_737 ?_
                                              refine xo_iconst kc_3 dL_law_738 ?_
                                              refine xo_iadd dL_law_739 ?_
                                              refine xo_iald dL_law_740 (fun v101 => ?_)
                                              refine mk_O.callV (N := M_X11_turn) (ci := 10) (q := (RX11, TX11, 7)) (b := x1) (As1 := [.int v99, .int v100, .int v101]) (S := []) md_X11_turn mv_X11_turn lk_RL_94 rfl (Nat.le_of_ble_eq_true rfl) (by decide) dL_law_741 rfl rfl rfl (fun z hz => (c_X11_turn x1 v99 v100 v101 t z hz).1) (fun z hz => (c_X11_turn x1 v99 v100 v101 t z hz).2) (fun z102 _ => ?_)
                                              show mk_O _ _ _ _ (.int z102.1 :: []) _ _
                                              refine xo_aload_n rfl rfl dL_law_744 ?_
                                              refine xo_aload_n rfl rfl dL_law_745 ?_
                                              refine xo_iload_n rfl rfl dL_law_746 ?_
                                              refine xo_iconst kc_1 dL_law_747 ?_
                                              refine xo_iadd dL_law_748 ?_
                                              refine xo_iald dL_law_749 (fun v103 => ?_)
                                              refine xo_aload_n rfl rfl dL_law_750 ?_
                                              refine xo_iload_n rfl rfl dL_law_751 ?_
                                              refine xo_iconst kc_2 dL_law_752 ?_
                                              refine xo_iadd dL_law_753 ?_
                                              refine xo_iald dL_law_754 (fun v104 => ?_)
                                              refine xo_aload_n rfl rfl dL_law_755 ?_
                                              refine xo_iload_n rfl rfl dL_law_756 ?_
                                              refine xo_iconst kc_3 dL_law_757 ?_
                                              refine xo_iadd dL_law_758 ?_
                                              refine xo_iald dL_law_759 (fun v105 => ?_)
                                              refine mk_O.callV (N := M_X12_turn) (ci := 11) (q := (RX12, TX12, 64)) (b := x2) (As1 := [.int v103, .int v104, .int v105]) (S := [.int z102.1]) md_X12_turn mv_X12_turn lk_RL_97 rfl (Nat.le_of_ble_eq_true rfl) (by decide) dL_law_760 rfl rfl rfl (fun z hz => (c_X12_turn x2 v103 v104 v105 z102.2 z hz).1) (fun z hz => (c_X12_turn x2 v103 v104 v105 z102.2 z hz).2) (fun z106 _ => ?_)
                                              show mk_O _ _ _ _ (.int z106.1 :: [.int z102.1]) _ _
                                              refine xo_icmp_eq (tgt := 1293) dL_law_763 rfl (fun _ => ?_) (fun _ => ?_)
                                              · exact mk_O.wk (o_L_law_1293 _ ih x0 x1 x2 x3 z106.2) ⟨rfl, ⟨rfl, ⟨rfl, ⟨rfl, trivial⟩⟩⟩⟩
                                              · refine xo_iconst kc_0 dL_law_766 ?_
                                                exact xo_zret dL_law_767 rfl
                                            · refine mk_O.cs (fun n20 => ?_) (fun n20 => ?_)
                                              · refine xo_tab (kx := 20) (j := 20) n20 dL_law_33 (by decide) (by decide) (by decide) rfl rfl ?_
                                                refine xo_aload_n rfl rfl dL_law_768 ?_
                                                refine xo_aload_n rfl rfl dL_law_769 ?_
                                                refine xo_iload_n rfl rfl dL_law_770 ?_
                                                refine xo_iconst kc_1 dL_law_771 ?_
                                                refine xo_iadd dL_law_772 ?_
                                                refine xo_iald dL_law_773 (fun v107 => ?_)
                                                refine xo_aload_n rfl rfl dL_law_774 ?_
                                                refine xo_iload_n rfl rfl dL_law_775 ?_
                                                refine xo_iconst kc_2 dL_law_776 ?_
                                                refine xo_iadd dL_law_777 ?_
                                                refine xo_iald dL_law_778 (fun v108 => ?_)
                                                refine xo_aload_n rfl rfl dL_law_779 ?_
                                                refine xo_iload_n rfl rfl dL_law_780 ?_
                                                refine xo_iconst kc_3 dL_law_781 ?_
                                                refine xo_iadd dL_law_782 ?_
                                                refine xo_iald dL_law_783 (fun v109 => ?_)
                                                refine xo_aload_n rfl rfl dL_law_784 ?_
                                                refine xo_iload_n rfl rfl dL_law_785 ?_
                                                refine xo_iconst kc_4 dL_law_786 ?_
                                                refine xo_iadd dL_law_787 ?_
                                                refine xo_iald dL_law_788 (fun v110 => ?_)
                                                refine mk_O.callV (N := M_X11_takes) (ci := 10) (q := (RX11, TX11, 7)) (b := x1) (As1 := [.int v107, .int v108, .int v109, .int v110]) (S := []) md_X11_takes mv_X11_takes lk_RL_98 rfl (Nat.le_of_ble_eq_true rfl) (by decide) dL_law_789 rfl rfl rfl (fun z hz => (c_X11_takes x1 v107 v108 v109 v110 t z hz).1) (fun z hz => (c_X11_takes x1 v107 v108 v109 v110 t z hz).2) (fun z111 _ => ?_)
                                                show mk_O _ _ _ _ (.int z111.1 :: []) _ _
                                                refine xo_aload_n rfl rfl dL_law_792 ?_
                                                refine xo_aload_n rfl rfl dL_law_793 ?_
                                                refine xo_iload_n rfl rfl dL_law_794 ?_
                                                refine xo_iconst kc_1 dL_law_795 ?_
                                                refine xo_iadd dL_law_796 ?_
                                                refine xo_iald dL_law_797 (fun v112 => ?_)
                                                refine xo_aload_n rfl rfl dL_law_798 ?_
                                                refine xo_iload_n rfl rfl dL_law_799 ?_
                                                refine xo_iconst kc_2 dL_law_800 ?_
                                                refine xo_iadd dL_law_801 ?_
                                                refine xo_iald dL_law_802 (fun v113 => ?_)
                                                refine xo_aload_n rfl rfl dL_law_803 ?_
                                                refine xo_iload_n rfl rfl dL_law_804 ?_
                                                refine xo_iconst kc_3 dL_law_805 ?_
                                                refine xo_iadd dL_law_806 ?_
                                                refine xo_iald dL_law_807 (fun v114 => ?_)
                                                refine xo_aload_n rfl rfl dL_law_808 ?_
                                                refine xo_iload_n rfl rfl dL_law_809 ?_
                                                refine xo_iconst kc_4 dL_law_810 ?_
                                                refine xo_iadd dL_law_811 ?_
                                                refine xo_iald dL_law_812 (fun v115 => ?_)
                                                refine mk_O.callV (N := M_X12_takes) (ci := 11) (q := (RX12, TX12, 64)) (b := x2) (As1 := [.int v112, .int v113, .int v114, .int v115]) (S := [.int z111.1]) md_X12_takes mv_X12_takes lk_RL_102 rfl (Nat.le_of_ble_eq_true rfl) (by decide) dL_law_813 rfl rfl rfl (fun z hz => (c_X12_takes x2 v112 v113 v114 v115 z111.2 z hz).1) (fun z hz => (c_X12_takes x2 v112 v113 v114 v115 z111.2 z hz).2) (fun z116 _ => ?_)
                                                show mk_O _ _ _ _ (.int z116.1 :: [.int z111.1]) _ _
                                                refine xo_icmp_eq (tgt := 1293) dL_law_816 rfl (fun _ => ?_) (fun _ => ?_)
                                                · exact mk_O.wk (o_L_law_1293 _ ih x0 x1 x2 x3 z116.2) ⟨rfl, ⟨rfl, ⟨rfl, ⟨rfl, trivial⟩⟩⟩⟩
                                                · refine xo_iconst kc_0 dL_law_819 ?_
                                                  exact xo_zret dL_law_820 rfl
                                              · refine mk_O.cs (fun n21 => ?_) (fun n21 => ?_)
                                                · refine xo_tab (kx := 21) (j := 21) n21 dL_law_33 (by decide) (by decide) (by decide) rfl rfl ?_
                                                  refine xo_aload_n rfl rfl dL_law_821 ?_
                                                  refine xo_aload_n rfl rfl dL_law_822 ?_
                                                  refine xo_iload_n rfl rfl dL_law_823 ?_
                                                  refine xo_iconst kc_1 dL_law_824 ?_
                                                  refine xo_iadd dL_law_825 ?_
                                                  refine xo_iald dL_law_826 (fun v117 => ?_)
                                                  refine xo_aload_n rfl rfl dL_law_827 ?_
                                                  refine xo_iload_n rfl rfl dL_law_828 ?_
                                                  refine xo_iconst kc_2 dL_law_829 ?_
                                                  refine xo_iadd dL_law_830 ?_
                                                  refine xo_iald dL_law_831 (fun v118 => ?_)
                                                  refine xo_aload_n rfl rfl dL_law_832 ?_
                                                  refine xo_iload_n rfl rfl dL_law_833 ?_
                                                  refine xo_iconst kc_3 dL_law_834 ?_
                                                  refine xo_iadd dL_law_835 ?_
                                                  refine xo_iald dL_law_836 (fun v119 => ?_)
                                                  refine mk_O.callV (N := M_X11_blown) (ci := 10) (q := (RX11, TX11, 7)) (b := x1) (As1 := [.int v117, .int v118, .int v119]) (S := []) md_X11_blown mv_X11_blown lk_RL_103 rfl (Nat.le_of_ble_eq_true rfl) (by decide) dL_law_837 rfl rfl rfl (fun z hz => (c_X11_blown x1 v117 v118 v119 t z hz).1) (fun z hz => (c_X11_blown x1 v117 v118 v119 t z hz).2) (fun z120 _ => ?_)
                                                  show mk_O _ _ _ _ (.int z120.1 :: []) _ _
                                                  refine xo_aload_n rfl rfl dL_law_840 ?_
                                                  refine xo_aload_n rfl rfl dL_law_841 ?_
                                                  refine xo_iload_n rfl rfl dL_law_842 ?_
                                                  refine xo_iconst kc_1 dL_law_843 ?_
                                                  refine xo_iadd dL_law_844 ?_
                                                  refine xo_iald dL_law_845 (fun v121 => ?_)
                                                  refine xo_aload_n rfl rfl dL_law_846 ?_
                                                  refine xo_iload_n rfl rfl dL_law_847 ?_
                                                  refine xo_iconst kc_2 dL_law_848 ?_
                                                  refine xo_iadd dL_law_849 ?_
                                                  refine xo_iald dL_law_850 (fun v122 => ?_)
                                                  refine xo_aload_n rfl rfl dL_law_851 ?_
                                                  refine xo_iload_n rfl rfl dL_law_852 ?_
                                                  refine xo_iconst kc_3 dL_law_853 ?_
                                                  refine xo_iadd dL_law_854 ?_
                                                  refine xo_iald dL_law_855 (fun v123 => ?_)
                                                  refine mk_O.callV (N := M_X12_blown) (ci := 11) (q := (RX12, TX12, 64)) (b := x2) (As1 := [.int v121, .int v122, .int v123]) (S := [.int z120.1]) md_X12_blown mv_X12_blown lk_RL_106 rfl (Nat.le_of_ble_eq_true rfl) (by decide) dL_law_856 rfl rfl rfl (fun z hz => (c_X12_blown x2 v121 v122 v123 z120.2 z hz).1) (fun z hz => (c_X12_blown x2 v121 v122 v123 z120.2 z hz).2) (fun z124 _ => ?_)
                                                  show mk_O _ _ _ _ (.int z124.1 :: [.int z120.1]) _ _
                                                  refine xo_icmp_eq (tgt := 1293) dL_law_859 rfl (fun _ => ?_) (fun _ => ?_)
                                                  · exact mk_O.wk (o_L_law_1293 _ ih x0 x1 x2 x3 z124.2) ⟨rfl, ⟨rfl, ⟨rfl, ⟨rfl, trivial⟩⟩⟩⟩
                                                  · refine xo_iconst kc_0 dL_law_862 ?_
                                                    exact xo_zret dL_law_863 rfl
                                                · refine mk_O.cs (fun n22 => ?_) (fun n22 => ?_)
                                                  · refine xo_tab (kx := 22) (j := 22) n22 dL_law_33 (by decide) (by decide) (by decide) rfl rfl ?_
                                                    refine xo_aload_n rfl rfl dL_law_864 ?_
                                                    refine xo_aload_n rfl rfl dL_law_865 ?_
                                                    refine xo_iload_n rfl rfl dL_law_866 ?_
                                                    refine xo_iconst kc_1 dL_law_867 ?_
                                                    refine xo_iadd dL_law_868 ?_
                                                    refine xo_iald dL_law_869 (fun v125 => ?_)
                                                    refine xo_aload_n rfl rfl dL_law_870 ?_
                                                    refine xo_iload_n rfl rfl dL_law_871 ?_
                                                    refine xo_iconst kc_2 dL_law_872 ?_
                                                    refine xo_iadd dL_law_873 ?_
                                                    refine xo_iald dL_law_874 (fun v126 => ?_)
                                                    refine mk_O.callV (N := M_X11_still) (ci := 10) (q := (RX11, TX11, 7)) (b := x1) (As1 := [.int v125, .int v126]) (S := []) md_X11_still mv_X11_still lk_RL_107 rfl (Nat.le_of_ble_eq_true rfl) (by decide) dL_law_875 rfl rfl rfl (fun z hz => (c_X11_still x1 v125 v126 t z hz).1) (fun z hz => (c_X11_still x1 v125 v126 t z hz).2) (fun z127 _ => ?_)
                                                    show mk_O _ _ _ _ (.int z127.1 :: []) _ _
                                                    refine xo_aload_n rfl rfl dL_law_878 ?_
                                                    refine xo_aload_n rfl rfl dL_law_879 ?_
                                                    refine xo_iload_n rfl rfl dL_law_880 ?_
                                                    refine xo_iconst kc_1 dL_law_881 ?_
                                                    refine xo_iadd dL_law_882 ?_
                                                    refine xo_iald dL_law_883 (fun v128 => ?_)
                                                    refine xo_aload_n rfl rfl dL_law_884 ?_
                                                    refine xo_iload_n rfl rfl dL_law_885 ?_
                                                    refine xo_iconst kc_2 dL_law_886 ?_
                                                    refine xo_iadd dL_law_887 ?_
                                                    refine xo_iald dL_law_888 (fun v129 => ?_)
                                                    refine mk_O.callV (N := M_X12_still) (ci := 11) (q := (RX12, TX12, 64)) (b := x2) (As1 := [.int v128, .int v129]) (S := [.int z127.1]) md_X12_still mv_X12_still lk_RL_110 rfl (Nat.le_of_ble_eq_true rfl) (by decide) dL_law_889 rfl rfl rfl (fun z hz => (c_X12_still x2 v128 v129 z127.2 z hz).1) (fun z hz => (c_X12_still x2 v128 v129 z127.2 z hz).2) (fun z130 _ => ?_)
                                                    show mk_O _ _ _ _ (.int z130.1 :: [.int z127.1]) _ _
                                                    refine xo_icmp_eq (tgt := 1293) dL_law_892 rfl (fun _ => ?_) (fun _ => ?_)
                                                    · exact mk_O.wk (o_L_law_1293 _ ih x0 x1 x2 x3 z130.2) ⟨rfl, ⟨rfl, ⟨rfl, ⟨rfl, trivial⟩⟩⟩⟩
                                                    · refine xo_iconst kc_0 dL_law_895 ?_
                                                      exact xo_zret dL_law_896 rfl
                                                  · refine mk_O.cs (fun n23 => ?_) (fun n23 => ?_)
                                                    · refine xo_tab (kx := 23) (j := 23) n23 dL_law_33 (by decide) (by decide) (by decide) rfl rfl ?_
                                                      refine xo_aload_n rfl rfl dL_law_897 ?_
                                                      refine xo_aload_n rfl rfl dL_law_898 ?_
                                                      refine xo_iload_n rfl rfl dL_law_899 ?_
                                                      refine xo_iconst kc_1 dL_law_900 ?_
                                                      refine xo_iadd dL_law_901 ?_
                                                      refine xo_iald dL_law_902 (fun v131 => ?_)
                                                      refine xo_aload_n rfl rfl dL_law_903 ?_
                                                      refine xo_iload_n rfl rfl dL_law_904 ?_
                                                      refine xo_iconst kc_2 dL_law_905 ?_
                                                      refine xo_iadd dL_law_906 ?_
                                                      refine xo_iald dL_law_907 (fun v132 => ?_)
                                                      refine mk_O.callV (N := M_X11_lull) (ci := 10) (q := (RX11, TX11, 7)) (b := x1) (As1 := [.int v131, .int v132]) (S := []) md_X11_lull mv_X11_lull lk_RL_111 rfl (Nat.le_of_ble_eq_true rfl) (by decide) dL_law_908 rfl rfl rfl (fun z hz => (c_X11_lull x1 v131 v132 t z hz).1) (fun z hz => (c_X11_lull x1 v131 v132 t z hz).2) (fun z133 _ => ?_)
                                                      show mk_O _ _ _ _ (.int z133.1 :: []) _ _
                                                      refine xo_aload_n rfl rfl dL_law_911 ?_
                                                      refine xo_aload_n rfl rfl dL_law_912 ?_
                                                      refine xo_iload_n rfl rfl dL_law_913 ?_
                                                      refine xo_iconst kc_1 dL_law_914 ?_
                                                      refine xo_iadd dL_law_915 ?_
                                                      refine xo_iald dL_law_916 (fun v134 => ?_)
                                                      refine xo_aload_n rfl rfl dL_law_917 ?_
                                                      refine xo_iload_n rfl rfl dL_law_918 ?_
                                                      refine xo_iconst kc_2 dL_law_919 ?_
                                                      refine xo_iadd dL_law_920 ?_
                                                      refine xo_iald dL_law_921 (fun v135 => ?_)
                                                      refine mk_O.callV (N := M_X12_lull) (ci := 11) (q := (RX12, TX12, 64)) (b := x2) (As1 := [.int v134, .int v135]) (S := [.int z133.1]) md_X12_lull mv_X12_lull lk_RL_114 rfl (Nat.le_of_ble_eq_true rfl) (by decide) dL_law_922 rfl rfl rfl (fun z hz => (c_X12_lull x2 v134 v135 z133.2 z hz).1) (fun z hz => (c_X12_lull x2 v134 v135 z133.2 z hz).2) (fun z136 _ => ?_)
                                                      show mk_O _ _ _ _ (.int z136.1 :: [.int z133.1]) _ _
                                                      refine xo_icmp_eq (tgt := 1293) dL_law_925 rfl (fun _ => ?_) (fun _ => ?_)
                                                      · exact mk_O.wk (o_L_law_1293 _ ih x0 x1 x2 x3 z136.2) ⟨rfl, ⟨rfl, ⟨rfl, ⟨rfl, trivial⟩⟩⟩⟩
                                                      · refine xo_iconst kc_0 dL_law_928 ?_
                                                        exact xo_zret dL_law_929 rfl
                                                    · refine mk_O.cs (fun n24 => ?_) (fun n24 => ?_)
                                                      · refine xo_tab (kx := 24) (j := 24) n24 dL_law_33 (by decide) (by decide) (by decide) rfl rfl ?_
                                                        refine xo_aload_n rfl rfl dL_law_930 ?_
                                                        refine xo_aload_n rfl rfl dL_law_931 ?_
                                                        refine xo_iload_n rfl rfl dL_law_932 ?_
                                                        refine xo_iconst kc_1 dL_law_933 ?_
                                                        refine xo_iadd dL_law_934 ?_
                                                        refine xo_iald dL_law_935 (fun v137 => ?_)
                                                        refine xo_aload_n rfl rfl dL_law_936 ?_
                                                        refine xo_iload_n rfl rfl dL_law_937 ?_
                                                        refine xo_iconst kc_2 dL_law_938 ?_
                                                        refine xo_iadd dL_law_939 ?_
                                                        refine xo_iald dL_law_940 (fun v138 => ?_)
                                                        refine mk_O.callV (N := M_X11_harvest) (ci := 10) (q := (RX11, TX11, 7)) (b := x1) (As1 := [.int v137, .int v138]) (S := []) md_X11_harvest mv_X11_harvest lk_RL_115 rfl (Nat.le_of_ble_eq_true rfl) (by decide) dL_law_941 rfl rfl rfl (fun z hz => (c_X11_harvest x1 v137 v138 t z hz).1) (fun z hz => (c_X11_harvest x1 v137 v138 t z hz).2) (fun z139 _ => ?_)
                                                        show mk_O _ _ _ _ (.int z139.1 :: []) _ _
                                                        refine xo_aload_n rfl rfl dL_law_944 ?_
                                                        refine xo_aload_n rfl rfl dL_law_945 ?_
                                                        refine xo_iload_n rfl rfl dL_law_946 ?_
                                                        refine xo_iconst kc_1 dL_law_947 ?_
                                                        refine xo_iadd dL_law_948 ?_
                                                        refine xo_iald dL_law_949 (fun v140 => ?_)
                                                        refine xo_aload_n rfl rfl dL_law_950 ?_
                                                        refine xo_iload_n rfl rfl dL_law_951 ?_
                                                        refine xo_iconst kc_2 dL_law_952 ?_
                                                        refine xo_iadd dL_law_953 ?_
                                                        refine xo_iald dL_law_954 (fun v141 => ?_)
                                                        refine mk_O.callV (N := M_X12_harvest) (ci := 11) (q := (RX12, TX12, 64)) (b := x2) (As1 := [.int v140, .int v141]) (S := [.int z139.1]) md_X12_harvest mv_X12_harvest lk_RL_118 rfl (Nat.le_of_ble_eq_true rfl) (by decide) dL_law_955 rfl rfl rfl (fun z hz => (c_X12_harvest x2 v140 v141 z139.2 z hz).1) (fun z hz => (c_X12_harvest x2 v140 v141 z139.2 z hz).2) (fun z142 _ => ?_)
                                                        show mk_O _ _ _ _ (.int z142.1 :: [.int z139.1]) _ _
                                                        refine xo_icmp_eq (tgt := 1293) dL_law_958 rfl (fun _ => ?_) (fun _ => ?_)
                                                        · exact mk_O.wk (o_L_law_1293 _ ih x0 x1 x2 x3 z142.2) ⟨rfl, ⟨rfl, ⟨rfl, ⟨rfl, trivial⟩⟩⟩⟩
                                                        · refine xo_iconst kc_0 dL_law_961 ?_
                                                          exact xo_zret dL_law_962 rfl
                                                      · refine mk_O.cs (fun n25 => ?_) (fun n25 => ?_)
                                                        · refine xo_tab (kx := 25) (j := 25) n25 dL_law_33 (by decide) (by decide) (by decide) rfl rfl ?_
                                                          refine xo_aload_n rfl rfl dL_law_963 ?_
                                                          refine xo_aload_n rfl rfl dL_law_964 ?_
                                                          refine xo_iload_n rfl rfl dL_law_965 ?_
                                                          refine xo_iconst kc_1 dL_law_966 ?_
                                                          refine xo_iadd dL_law_967 ?_
                                                          refine xo_iald dL_law_968 (fun v143 => ?_)
                                                          refine xo_aload_n rfl rfl dL_law_969 ?_
                                                          refine xo_iload_n rfl rfl dL_law_970 ?_
                                                          refine xo_iconst kc_2 dL_law_971 ?_
                                                          refine xo_iadd dL_law_972 ?_
                                                          refine xo_iald dL_law_973 (fun v144 => ?_)
                                                          refine xo_aload_n rfl rfl dL_law_974 ?_
                                                          refine xo_iload_n rfl rfl dL_law_975 ?_
                                                          refine xo_iconst kc_3 dL_law_976 ?_
                                                          refine xo_iadd dL_law_977 ?_
                                                          refine xo_iald dL_law_978 (fun v145 => ?_)
                                                          refine xo_aload_n rfl rfl dL_law_979 ?_
                                                          refine xo_iload_n rfl rfl dL_law_980 ?_
                                                          refine xo_iconst kc_4 dL_law_981 ?_
                                                          refine xo_iadd dL_law_982 ?_
                                                          refine xo_iald dL_law_983 (fun v146 => ?_)
                                                          refine mk_O.callV (N := M_X11_rests) (ci := 10) (q := (RX11, TX11, 7)) (b := x1) (As1 := [.int v143, .int v144, .int v145, .int v146]) (S := []) md_X11_rests mv_X11_rests lk_RL_119 rfl (Nat.le_of_ble_eq_true rfl) (by decide) dL_law_984 rfl rfl rfl (fun z hz => (c_X11_rests x1 v143 v144 v145 v146 t z hz).1) (fun z hz => (c_X11_rests x1 v143 v144 v145 v146 t z hz).2) (fun z147 _ => ?_)
                                                          show mk_O _ _ _ _ (.int z147.1 :: []) _ _
                                                          refine xo_aload_n rfl rfl dL_law_987 ?_
                                                          refine xo_aload_n rfl rfl dL_law_988 ?_
                                                          refine xo_iload_n rfl rfl dL_law_989 ?_
                                                          refine xo_iconst kc_1 dL_law_990 ?_
                                                          refine xo_iadd dL_law_991 ?_
                                                          refine xo_iald dL_law_992 (fun v148 => ?_)
                                                          refine xo_aload_n rfl rfl dL_law_993 ?_
                                                          refine xo_iload_n rfl rfl dL_law_994 ?_
                                                          refine xo_iconst kc_2 dL_law_995 ?_
                                                          refine xo_iadd dL_law_996 ?_
                                                          refine xo_iald dL_law_997 (fun v149 => ?_)
                                                          refine xo_aload_n rfl rfl dL_law_998 ?_
                                                          refine xo_iload_n rfl rfl dL_law_999 ?_
                                                          refine xo_iconst kc_3 dL_law_1000 ?_
                                                          refine xo_iadd dL_law_1001 ?_
                                                          refine xo_iald dL_law_1002 (fun v150 => ?_)
                                                          refine xo_aload_n rfl rfl dL_law_1003 ?_
                                                          refine xo_iload_n rfl rfl dL_law_1004 ?_
                                                          refine xo_iconst kc_4 dL_law_1005 ?_
                                                          refine xo_iadd dL_law_1006 ?_
                                                          refine xo_iald dL_law_1007 (fun v151 => ?_)
                                                          refine mk_O.callV (N := M_X12_rests) (ci := 11) (q := (RX12, TX12, 64)) (b := x2) (As1 := [.int v148, .int v149, .int v150, .int v151]) (S := [.int z147.1]) md_X12_rests mv_X12_rests lk_RL_122 rfl (Nat.le_of_ble_eq_true rfl) (by decide) dL_law_1008 rfl rfl rfl (fun z hz => (c_X12_rests x2 v148 v149 v150 v151 z147.2 z hz).1) (fun z hz => (c_X12_rests x2 v148 v149 v150 v151 z147.2 z hz).2) (fun z152 _ => ?_)
                                                          show mk_O _ _ _ _ (.int z152.1 :: [.int z147.1]) _ _
                                                          refine xo_icmp_eq (tgt := 1293) dL_law_1011 rfl (fun _ => ?_) (fun _ => ?_)
                                                          · exact mk_O.wk (o_L_law_1293 _ ih x0 x1 x2 x3 z152.2) ⟨rfl, ⟨rfl, ⟨rfl, ⟨rfl, trivial⟩⟩⟩⟩
                                                          · refine xo_iconst kc_0 dL_law_1014 ?_
                                                            exact xo_zret dL_law_1015 rfl
                                                        · refine mk_O.cs (fun n26 => ?_) (fun n26 => ?_)
                                                          · refine xo_tab (kx := 26) (j := 26) n26 dL_law_33 (by decide) (by decide) (by decide) rfl rfl ?_
                                                            refine xo_aload_n rfl rfl dL_law_1016 ?_
                                                            refine xo_aload_n rfl rfl dL_law_1017 ?_
                                                            refine xo_iload_n rfl rfl dL_law_1018 ?_
                                                            refine xo_iconst kc_1 dL_law_1019 ?_
                                                            refine xo_iadd dL_law_1020 ?_
                                                            refine xo_iald dL_law_1021 (fun v153 => ?_)
                                                            refine xo_aload_n rfl rfl dL_law_1022 ?_
                                                            refine xo_iload_n rfl rfl dL_law_1023 ?_
                                                            refine xo_iconst kc_2 dL_law_1024 ?_
                                                            refine xo_iadd dL_law_1025 ?_
                                                            refine xo_iald dL_law_1026 (fun v154 => ?_)
                                                            refine mk_O.callV (N := M_X11_pence) (ci := 10) (q := (RX11, TX11, 7)) (b := x1) (As1 := [.int v153, .int v154]) (S := []) md_X11_pence mv_X11_pence lk_RL_123 rfl (Nat.le_of_ble_eq_true rfl) (by decide) dL_law_1027 rfl rfl rfl (fun z hz => (c_X11_pence x1 v153 v154 t z hz).1) (fun z hz => (c_X11_pence x1 v153 v154 t z hz).2) (fun z155 _ => ?_)
                                                            show mk_O _ _ _ _ (.int z155.1 :: []) _ _
                                                            refine xo_aload_n rfl rfl dL_law_1030 ?_
                                                            refine xo_aload_n rfl rfl dL_law_1031 ?_
                                                            refine xo_iload_n rfl rfl dL_law_1032 ?_
                                                            refine xo_iconst kc_1 dL_law_1033 ?_
                                                            refine xo_iadd dL_law_1034 ?_
                                                            refine xo_iald dL_law_1035 (fun v156 => ?_)
                                                            refine xo_aload_n rfl rfl dL_law_1036 ?_
                                                            refine xo_iload_n rfl rfl dL_law_1037 ?_
                                                            refine xo_iconst kc_2 dL_law_1038 ?_
                                                            refine xo_iadd dL_law_1039 ?_
                                                            refine xo_iald dL_law_1040 (fun v157 => ?_)
                                                            refine mk_O.callV (N := M_X12_pence) (ci := 11) (q := (RX12, TX12, 64)) (b := x2) (As1 := [.int v156, .int v157]) (S := [.int z155.1]) md_X12_pence mv_X12_pence lk_RL_126 rfl (Nat.le_of_ble_eq_true rfl) (by decide) dL_law_1041 rfl rfl rfl (fun z hz => (c_X12_pence x2 v156 v157 z155.2 z hz).1) (fun z hz => (c_X12_pence x2 v156 v157 z155.2 z hz).2) (fun z158 _ => ?_)
                                                            show mk_O _ _ _ _ (.int z158.1 :: [.int z155.1]) _ _
                                                            refine xo_icmp_eq (tgt := 1293) dL_law_1044 rfl (fun _ => ?_) (fun _ => ?_)
                                                            · exact mk_O.wk (o_L_law_1293 _ ih x0 x1 x2 x3 z158.2) ⟨rfl, ⟨rfl, ⟨rfl, ⟨rfl, trivial⟩⟩⟩⟩
                                                            · refine xo_iconst kc_0 dL_law_1047 ?_
                                                              exact xo_zret dL_law_1048 rfl
                                                          · refine mk_O.cs (fun n27 => ?_) (fun n27 => ?_)
                                                            · refine xo_tab (kx := 27) (j := 27) n27 dL_law_33 (by decide) (by decide) (by decide) rfl rfl ?_
                                                              refine xo_aload_n rfl rfl dL_law_1049 ?_
                                                              refine xo_aload_n rfl rfl dL_law_1050 ?_
                                                              refine xo_iload_n rfl rfl dL_law_1051 ?_
                                                              refine xo_iconst kc_1 dL_law_1052 ?_
                                                              refine xo_iadd dL_law_1053 ?_
                                                              refine xo_iald dL_law_1054 (fun v159 => ?_)
                                                              refine xo_aload_n rfl rfl dL_law_1055 ?_
                                                              refine xo_iload_n rfl rfl dL_law_1056 ?_
                                                              refine xo_iconst kc_2 dL_law_1057 ?_
                                                              refine xo_iadd dL_law_1058 ?_
                                                              refine xo_iald dL_law_1059 (fun v160 => ?_)
                                                              refine xo_aload_n rfl rfl dL_law_1060 ?_
                                                              refine xo_iload_n rfl rfl dL_law_1061 ?_
                                                              refine xo_iconst kc_3 dL_law_1062 ?_
                                                              refine xo_iadd dL_law_1063 ?_
                                                              refine xo_iald dL_law_1064 (fun v161 => ?_)
                                                              refine mk_O.callV (N := M_X11_note) (ci := 10) (q := (RX11, TX11, 7)) (b := x1) (As1 := [.int v159, .int v160, .int v161]) (S := []) md_X11_note mv_X11_note lk_RL_127 rfl (Nat.le_of_ble_eq_true rfl) (by decide) dL_law_1065 rfl rfl rfl (fun z hz => (c_X11_note x1 v159 v160 v161 t z hz).1) (fun z hz => (c_X11_note x1 v159 v160 v161 t z hz).2) (fun z162 _ => ?_)
                                                              show mk_O _ _ _ _ (.int z162.1 :: []) _ _
                                                              refine xo_aload_n rfl rfl dL_law_1068 ?_
                                                              refine xo_aload_n rfl rfl dL_law_1069 ?_
                                                              refine xo_iload_n rfl rfl dL_law_1070 ?_
                                                              refine xo_iconst kc_1 dL_law_1071 ?_
                                                              refine xo_iadd dL_law_1072 ?_
                                                              refine xo_iald dL_law_1073 (fun v163 => ?_)
                                                              refine xo_aload_n rfl rfl dL_law_1074 ?_
                                                              refine xo_iload_n rfl rfl dL_law_1075 ?_
                                                              refine xo_iconst kc_2 dL_law_1076 ?_
                                                              refine xo_iadd dL_law_1077 ?_
                                                              refine xo_iald dL_law_1078 (fun v164 => ?_)
                                                              refine xo_aload_n rfl rfl dL_law_1079 ?_
                                                              refine xo_iload_n rfl rfl dL_law_1080 ?_
                                                              refine xo_iconst kc_3 dL_law_1081 ?_
                                                              refine xo_iadd dL_law_1082 ?_
                                                              refine xo_iald dL_law_1083 (fun v165 => ?_)
                                                              refine mk_O.callV (N := M_X12_note) (ci := 11) (q := (RX12, TX12, 64)) (b := x2) (As1 := [.int v163, .int v164, .int v165]) (S := [.int z162.1]) md_X12_note mv_X12_note lk_RL_130 rfl (Nat.le_of_ble_eq_true rfl) (by decide) dL_law_1084 rfl rfl rfl (fun z hz => (c_X12_note x2 v163 v164 v165 z162.2 z hz).1) (fun z hz => (c_X12_note x2 v163 v164 v165 z162.2 z hz).2) (fun z166 _ => ?_)
                                                              show mk_O _ _ _ _ (.int z166.1 :: [.int z162.1]) _ _
                                                              refine xo_icmp_eq (tgt := 1293) dL_law_1087 rfl (fun _ => ?_) (fun _ => ?_)
                                                              · exact mk_O.wk (o_L_law_1293 _ ih x0 x1 x2 x3 z166.2) ⟨rfl, ⟨rfl, ⟨rfl, ⟨rfl, trivial⟩⟩⟩⟩
                                                              · refine xo_iconst kc_0 dL_law_1090 ?_
                                                                exact xo_zret dL_law_1091 rfl
                                                            · refine mk_O.cs (fun n28 => ?_) (fun n28 => ?_)
                                                              · refine xo_tab (kx := 28) (j := 28) n28 dL_law_33 (by decide) (by decide) (by decide) rfl rfl ?_
                                                                refine xo_aload_n rfl rfl dL_law_1092 ?_
                                                                refine xo_aload_n rfl rfl dL_law_1093 ?_
                                                                refine xo_iload_n rfl rfl dL_law_1094 ?_
                                                                refine xo_iconst kc_1 dL_law_1095 ?_
                                                                refine xo_iadd dL_law_1096 ?_
                                                                refine xo_iald dL_law_1097 (fun v167 => ?_)
                                                                refine mk_O.callV (N := M_X11_ruled) (ci := 10) (q := (RX11, TX11, 7)) (b := x1) (As1 := [.int v167]) (S := []) md_X11_ruled mv_X11_ruled lk_RL_131 rfl (Nat.le_of_ble_eq_true rfl) (by decide) dL_law_1098 rfl rfl rfl (fun z hz => (c_X11_ruled x1 v167 t z hz).1) (fun z hz => (c_X11_ruled x1 v167 t z hz).2) (fun z168 _ => ?_)
                                                                show mk_O _ _ _ _ (.int z168.1 :: []) _ _
                                                                refine xo_aload_n rfl rfl dL_law_1101 ?_
                                                                refine xo_aload_n rfl rfl dL_law_1102 ?_
                                                                refine xo_iload_n rfl rfl dL_law_1103 ?_
                                                                refine xo_iconst kc_1 dL_law_1104 ?_
                                                                refine xo_iadd dL_law_1105 ?_
                                                                refine xo_iald dL_law_1106 (fun v169 => ?_)
                                                                refine mk_O.callV (N := M_X12_ruled) (ci := 11) (q := (RX12, TX12, 64)) (b := x2) (As1 := [.int v169]) (S := [.int z168.1]) md_X12_ruled mv_X12_ruled lk_RL_134 rfl (Nat.le_of_ble_eq_true rfl) (by decide) dL_law_1107 rfl rfl rfl (fun z hz => (c_X12_ruled x2 v169 z168.2 z hz).1) (fun z hz => (c_X12_ruled x2 v169 z168.2 z hz).2) (fun z170 _ => ?_)
                                                                show mk_O _ _ _ _ (.int z170.1 :: [.int z168.1]) _ _
                                                                refine xo_icmp_eq (tgt := 1293) dL_law_1110 rfl (fun _ => ?_) (fun _ => ?_)
                                                                · exact mk_O.wk (o_L_law_1293 _ ih x0 x1 x2 x3 z170.2) ⟨rfl, ⟨rfl, ⟨rfl, ⟨rfl, trivial⟩⟩⟩⟩
                                                                · refine xo_iconst kc_0 dL_law_1113 ?_
                                                                  exact xo_zret dL_law_1114 rfl
                                                              · refine mk_O.cs (fun n29 => ?_) (fun n29 => ?_)
                                                                · refine xo_tab (kx := 29) (j := 29) n29 dL_law_33 (by decide) (by decide) (by decide) rfl rfl ?_
                                                                  refine xo_aload_n rfl rfl dL_law_1115 ?_
                                                                  refine xo_aload_n rfl rfl dL_law_1116 ?_
                                                                  refine xo_iload_n rfl rfl dL_law_1117 ?_
                                                                  refine xo_iconst kc_1 dL_law_1118 ?_
                                                                  refine xo_iadd dL_law_1119 ?_
                                                                  refine xo_iald dL_law_1120 (fun v171 => ?_)
                                                                  refine xo_aload_n rfl rfl dL_law_1121 ?_
                                                                  refine xo_iload_n rfl rfl dL_law_1122 ?_
                                                                  refine xo_iconst kc_2 dL_law_1123 ?_
                                                                  refine xo_iadd dL_law_1124 ?_
                                                                  refine xo_iald dL_law_1125 (fun v172 => ?_)
                                                                  refine mk_O.callV (N := M_X11_look) (ci := 10) (q := (RX11, TX11, 7)) (b := x1) (As1 := [.int v171, .int v172]) (S := []) md_X11_look mv_X11_look lk_RL_135 rfl (Nat.le_of_ble_eq_true rfl) (by decide) dL_law_1126 rfl rfl rfl (fun z hz => (c_X11_look x1 v171 v172 t z hz).1) (fun z hz => (c_X11_look x1 v171 v172 t z hz).2) (fun z173 _ => ?_)
                                                                  show mk_O _ _ _ _ (.int z173.1 :: []) _ _
                                                                  refine xo_aload_n rfl rfl dL_law_1129 ?_
                                                                  refine xo_aload_n rfl rfl dL_law_1130 ?_
                                                                  refine xo_iload_n rfl rfl dL_law_1131 ?_
                                                                  refine xo_iconst kc_1 dL_law_1132 ?_
                                                                  refine xo_iadd dL_law_1133 ?_
                                                                  refine xo_iald dL_law_1134 (fun v174 => ?_)
                                                                  refine xo_aload_n rfl rfl dL_law_1135 ?_
                                                                  refine xo_iload_n rfl rfl dL_law_1136 ?_
                                                                  refine xo_iconst kc_2 dL_law_1137 ?_
                                                                  refine xo_iadd dL_law_1138 ?_
                                                                  refine xo_iald dL_law_1139 (fun v175 => ?_)
                                                                  refine mk_O.callV (N := M_X12_look) (ci := 11) (q := (RX12, TX12, 64)) (b := x2) (As1 := [.int v174, .int v175]) (S := [.int z173.1]) md_X12_look mv_X12_look lk_RL_138 rfl (Nat.le_of_ble_eq_true rfl) (by decide) dL_law_1140 rfl rfl rfl (fun z hz => (c_X12_look x2 v174 v175 z173.2 z hz).1) (fun z hz => (c_X12_look x2 v174 v175 z173.2 z hz).2) (fun z176 _ => ?_)
                                                                  show mk_O _ _ _ _ (.int z176.1 :: [.int z173.1]) _ _
                                                                  refine xo_icmp_eq (tgt := 1293) dL_law_1143 rfl (fun _ => ?_) (fun _ => ?_)
                                                                  · exact mk_O.wk (o_L_law_1293 _ ih x0 x1 x2 x3 z176.2) ⟨rfl, ⟨rfl, ⟨rfl, ⟨rfl, trivial⟩⟩⟩⟩
                                                                  · refine xo_iconst kc_0 dL_law_1146 ?_
                                                                    exact xo_zret dL_law_1147 rfl
                                                                · refine mk_O.cs (fun n30 => ?_) (fun n30 => ?_)
                                                                  · refine xo_tab (kx := 30) (j := 30) n30 dL_law_33 (by decide) (by decide) (by decide) rfl rfl ?_
                                                                    refine xo_aload_n rfl rfl dL_law_1148 ?_
                                                                    refine xo_aload_n rfl rfl dL_law_1149 ?_
                                                                    refine xo_iload_n rfl rfl dL_law_1150 ?_
                                                                    refine xo_iconst kc_1 dL_law_1151 ?_
                                                                    refine xo_iadd dL_law_1152 ?_
                                                                    refine xo_iald dL_law_1153 (fun v177 => ?_)
                                                                    refine mk_O.callV (N := M_X11_seed) (ci := 10) (q := (RX11, TX11, 7)) (b := x1) (As1 := [.int v177]) (S := []) md_X11_seed mv_X11_seed lk_RL_139 rfl (Nat.le_of_ble_eq_true rfl) (by decide) dL_law_1154 rfl rfl rfl (fun z hz => (c_X11_seed x1 v177 t z hz).1) (fun z hz => (c_X11_seed x1 v177 t z hz).2) (fun z178 _ => ?_)
                                                                    show mk_O _ _ _ _ (.int z178.1 :: []) _ _
                                                                    refine xo_aload_n rfl rfl dL_law_1157 ?_
                                                                    refine xo_aload_n rfl rfl dL_law_1158 ?_
                                                                    refine xo_iload_n rfl rfl dL_law_1159 ?_
                                                                    refine xo_iconst kc_1 dL_law_1160 ?_
                                                                    refine xo_iadd dL_law_1161 ?_
                                                                    refine xo_iald dL_law_1162 (fun v179 => ?_)
                                                                    refine mk_O.callV (N := M_X12_seed) (ci := 11) (q := (RX12, TX12, 64)) (b := x2) (As1 := [.int v179]) (S := [.int z178.1]) md_X12_seed mv_X12_seed lk_RL_142 rfl (Nat.le_of_ble_eq_true rfl) (by decide) dL_law_1163 rfl rfl rfl (fun z hz => (c_X12_seed x2 v179 z178.2 z hz).1) (fun z hz => (c_X12_seed x2 v179 z178.2 z hz).2) (fun z180 _ => ?_)
                                                                    show mk_O _ _ _ _ (.int z180.1 :: [.int z178.1]) _ _
                                                                    refine xo_icmp_eq (tgt := 1293) dL_law_1166 rfl (fun _ => ?_) (fun _ => ?_)
                                                                    · exact mk_O.wk (o_L_law_1293 _ ih x0 x1 x2 x3 z180.2) ⟨rfl, ⟨rfl, ⟨rfl, ⟨rfl, trivial⟩⟩⟩⟩
                                                                    · refine xo_iconst kc_0 dL_law_1169 ?_
                                                                      exact xo_zret dL_law_1170 rfl
                                                                  · refine mk_O.cs (fun n31 => ?_) (fun n31 => ?_)
                                                                    · refine xo_tab (kx := 31) (j := 31) n31 dL_law_33 (by decide) (by decide) (by decide) rfl rfl ?_
                                                                      refine xo_aload_n rfl rfl dL_law_1171 ?_
                                                                      refine xo_aload_n rfl rfl dL_law_1172 ?_
                                                                      refine xo_iload_n rfl rfl dL_law_1173 ?_
                                                                      refine xo_iconst kc_1 dL_law_1174 ?_
                                                                      refine xo_iadd dL_law_1175 ?_
                                                                      refine xo_iald dL_law_1176 (fun v181 => ?_)
                                                                      refine xo_aload_n rfl rfl dL_law_1177 ?_
                                                                      refine xo_iload_n rfl rfl dL_law_1178 ?_
                                                                      refine xo_iconst kc_2 dL_law_1179 ?_
                                                                      refine xo_iadd dL_law_1180 ?_
                                                                      refine xo_iald dL_law_1181 (fun v182 => ?_)
                                                                      refine xo_aload_n rfl rfl dL_law_1182 ?_
                                                                      refine xo_iload_n rfl rfl dL_law_1183 ?_
                                                                      refine xo_iconst kc_3 dL_law_1184 ?_
                                                                      refine xo_iadd dL_law_1185 ?_
                                                                      refine xo_iald dL_law_1186 (fun v183 => ?_)
                                                                      refine xo_aload_n rfl rfl dL_law_1187 ?_
                                                                      refine xo_iload_n rfl rfl dL_law_1188 ?_
                                                                      refine xo_iconst kc_4 dL_law_1189 ?_
                                                                      refine xo_iadd dL_law_1190 ?_
                                                                      refine xo_iald dL_law_1191 (fun v184 => ?_)
                                                                      refine mk_O.callV (N := M_X11_notions) (ci := 10) (q := (RX11, TX11, 7)) (b := x1) (As1 := [.int v181, .int v182, .int v183, .int v184]) (S := []) md_X11_notions mv_X11_notions lk_RL_143 rfl (Nat.le_of_ble_eq_true rfl) (by decide) dL_law_1192 rfl rfl rfl (fun z hz => (c_X11_notions x1 v181 v182 v183 v184 t z hz).1) (fun z hz => (c_X11_notions x1 v181 v182 v183 v184 t z hz).2) (fun z185 _ => ?_)
                                                                      show mk_O _ _ _ _ (.int z185.1 :: []) _ _
                                                                      refine xo_aload_n rfl rfl dL_law_1195 ?_
                                                                      refine xo_aload_n rfl rfl dL_law_1196 ?_
                                                                      refine xo_iload_n rfl rfl dL_law_1197 ?_
                                                                      refine xo_iconst kc_1 dL_law_1198 ?_
                                                                      refine xo_iadd dL_law_1199 ?_
                                                                      refine xo_iald dL_law_1200 (fun v186 => ?_)
                                                                      refine xo_aload_n rfl rfl dL_law_1201 ?_
                                                                      refine xo_iload_n rfl rfl dL_law_1202 ?_
                                                                      refine xo_iconst kc_2 dL_law_1203 ?_
                                                                      refine xo_iadd dL_law_1204 ?_
                                                                      refine xo_iald dL_law_1205 (fun v187 => ?_)
                                                                      refine xo_aload_n rfl rfl dL_law_1206 ?_
                                                                      refine xo_iload_n rfl rfl dL_law_1207 ?_
                                                                      refine xo_iconst kc_3 dL_law_1208 ?_
                                                                      refine xo_iadd dL_law_1209 ?_
                                                                      refine xo_iald dL_law_1210 (fun v188 => ?_)
                                                                      refine xo_aload_n rfl rfl dL_law_1211 ?_
                                                                      refine xo_iload_n rfl rfl dL_law_1212 ?_
                                                                      refine xo_iconst kc_4 dL_law_1213 ?_
                                                                      refine xo_iadd dL_law_1214 ?_
                                                                      refine xo_iald dL_law_1215 (fun v189 => ?_)
                                                                      refine mk_O.callV (N := M_X12_notions) (ci := 11) (q := (RX12, TX12, 64)) (b := x2) (As1 := [.int v186, .int v187, .int v188, .int v189]) (S := [.int z185.1]) md_X12_notions mv_X12_notions lk_RL_146 rfl (Nat.le_of_ble_eq_true rfl) (by decide) dL_law_1216 rfl rfl rfl (fun z hz => (c_X12_notions x2 v186 v187 v188 v189 z185.2 z hz).1) (fun z hz => (c_X12_notions x2 v186 v187 v188 v189 z185.2 z hz).2) (fun z190 _ => ?_)
                                                                      show mk_O _ _ _ _ (.int z190.1 :: [.int z185.1]) _ _
                                                                      refine xo_icmp_eq (tgt := 1293) dL_law_1219 rfl (fun _ => ?_) (fun _ => ?_)
                                                                      · exact mk_O.wk (o_L_law_1293 _ ih x0 x1 x2 x3 z190.2) ⟨rfl, ⟨rfl, ⟨rfl, ⟨rfl, trivial⟩⟩⟩⟩
                                                                      · refine xo_iconst kc_0 dL_law_1222 ?_
                                                                        exact xo_zret dL_law_1223 rfl
                                                                    · refine mk_O.cs (fun n32 => ?_) (fun n32 => ?_)
                                                                      · refine xo_tab (kx := 32) (j := 32) n32 dL_law_33 (by decide) (by decide) (by decide) rfl rfl ?_
                                                                        refine xo_aload_n rfl rfl dL_law_1224 ?_
                                                                        refine xo_aload_n rfl rfl dL_law_1225 ?_
                                                                        refine xo_iload_n rfl rfl dL_law_1226 ?_
                                                                        refine xo_iconst kc_1 dL_law_1227 ?_
                                                                        refine xo_iadd dL_law_1228 ?_
                                                                        refine xo_iald dL_law_1229 (fun v191 => ?_)
                                                                        refine mk_O.callV (N := M_X11_count) (ci := 10) (q := (RX11, TX11, 7)) (b := x1) (As1 := [.int v191]) (S := []) md_X11_count mv_X11_count lk_RL_147 rfl (Nat.le_of_ble_eq_true rfl) (by decide) dL_law_1230 rfl rfl rfl (fun z hz => (c_X11_count x1 v191 t z hz).1) (fun z hz => (c_X11_count x1 v191 t z hz).2) (fun z192 _ => ?_)
                                                                        show mk_O _ _ _ _ (.int z192.1 :: []) _ _
                                                                        refine xo_aload_n rfl rfl dL_law_1233 ?_
                                                                        refine xo_aload_n rfl rfl dL_law_1234 ?_
                                                                        refine xo_iload_n rfl rfl dL_law_1235 ?_
                                                                        refine xo_iconst kc_1 dL_law_1236 ?_
                                                                        refine xo_iadd dL_law_1237 ?_
                                                                        refine xo_iald dL_law_1238 (fun v193 => ?_)
                                                                        refine mk_O.callV (N := M_X12_count) (ci := 11) (q := (RX12, TX12, 64)) (b := x2) (As1 := [.int v193]) (S := [.int z192.1]) md_X12_count mv_X12_count lk_RL_150 rfl (Nat.le_of_ble_eq_true rfl) (by decide) dL_law_1239 rfl rfl rfl (fun z hz => (c_X12_count x2 v193 z192.2 z hz).1) (fun z hz => (c_X12_count x2 v193 z192.2 z hz).2) (fun z194 _ => ?_)
                                                                        show mk_O _ _ _ _ (.int z194.1 :: [.int z192.1]) _ _
                                                                        refine xo_icmp_eq (tgt := 1293) dL_law_1242 rfl (fun _ => ?_) (fun _ => ?_)
                                                                        · exact mk_O.wk (o_L_law_1293 _ ih x0 x1 x2 x3 z194.2) ⟨rfl, ⟨rfl, ⟨rfl, ⟨rfl, trivial⟩⟩⟩⟩
                                                                        · refine xo_iconst kc_0 dL_law_1245 ?_
                                                                          exact xo_zret dL_law_1246 rfl
                                                                      · refine mk_O.cs (fun n33 => ?_) (fun n33 => ?_)
                                                                        · refine xo_tab (kx := 33) (j := 33) n33 dL_law_33 (by decide) (by decide) (by decide) rfl rfl ?_
                                                                          refine xo_aload_n rfl rfl dL_law_1247 ?_
                                                                          refine xo_aload_n rfl rfl dL_law_1248 ?_
                                                                          refine xo_iload_n rfl rfl dL_law_1249 ?_
                                                                          refine xo_iconst kc_1 dL_law_1250 ?_
                                                                          refine xo_iadd dL_law_1251 ?_
                                                                          refine xo_iald dL_law_1252 (fun v195 => ?_)
                                                                          refine mk_O.callV (N := M_X11_image) (ci := 10) (q := (RX11, TX11, 7)) (b := x1) (As1 := [.int v195]) (S := []) md_X11_image mv_X11_image lk_RL_151 rfl (Nat.le_of_ble_eq_true rfl) (by decide) dL_law_1253 rfl rfl rfl (fun z hz => (c_X11_image x1 v195 t z hz).1) (fun z hz => (c_X11_image x1 v195 t z hz).2) (fun z196 _ => ?_)
                                                                          show mk_O _ _ _ _ (.int z196.1 :: []) _ _
                                                                          refine xo_aload_n rfl rfl dL_law_1256 ?_
                                                                          refine xo_aload_n rfl rfl dL_law_1257 ?_
                                                                          refine xo_iload_n rfl rfl dL_law_1258 ?_
                                                                          refine xo_iconst kc_1 dL_law_1259 ?_
                                                                          refine xo_iadd dL_law_1260 ?_
                                                                          refine xo_iald dL_law_1261 (fun v197 => ?_)
                                                                          refine mk_O.callV (N := M_X12_image) (ci := 11) (q := (RX12, TX12, 64)) (b := x2) (As1 := [.int v197]) (S := [.int z196.1]) md_X12_image mv_X12_image lk_RL_154 rfl (Nat.le_of_ble_eq_true rfl) (by decide) dL_law_1262 rfl rfl rfl (fun z hz => (c_X12_image x2 v197 z196.2 z hz).1) (fun z hz => (c_X12_image x2 v197 z196.2 z hz).2) (fun z198 _ => ?_)
                                                                          show mk_O _ _ _ _ (.int z198.1 :: [.int z196.1]) _ _
                                                                          refine xo_icmp_eq (tgt := 1293) dL_law_1265 rfl (fun _ => ?_) (fun _ => ?_)
                                                                          · exact mk_O.wk (o_L_law_1293 _ ih x0 x1 x2 x3 z198.2) ⟨rfl, ⟨rfl, ⟨rfl, ⟨rfl, trivial⟩⟩⟩⟩
                                                                          · refine xo_iconst kc_0 dL_law_1268 ?_
                                                                            exact xo_zret dL_law_1269 rfl
                                                                        · refine mk_O.cs (fun n34 => ?_) (fun n34 => ?_)
                                                                          · refine xo_tab (kx := 34) (j := 34) n34 dL_law_33 (by decide) (by decide) (by decide) rfl rfl ?_
                                                                            refine xo_aload_n rfl rfl dL_law_1270 ?_
                                                                            refine xo_aload_n rfl rfl dL_law_1271 ?_
                                                                            refine xo_iload_n rfl rfl dL_law_1272 ?_
                                                                            refine xo_iconst kc_1 dL_law_1273 ?_
                                                                            refine xo_iadd dL_law_1274 ?_
                                                                            refine xo_iald dL_law_1275 (fun v199 => ?_)
                                                                            refine mk_O.callV (N := M_X11_back) (ci := 10) (q := (RX11, TX11, 7)) (b := x1) (As1 := [.int v199]) (S := []) md_X11_back mv_X11_back lk_RL_155 rfl (Nat.le_of_ble_eq_true rfl) (by decide) dL_law_1276 rfl rfl rfl (fun z hz => (c_X11_back x1 v199 t z hz).1) (fun z hz => (c_X11_back x1 v199 t z hz).2) (fun z200 _ => ?_)
                                                                            show mk_O _ _ _ _ (.int z200.1 :: []) _ _
                                                                            refine xo_aload_n rfl rfl dL_law_1279 ?_
                                                                            refine xo_aload_n rfl rfl dL_law_1280 ?_
                                                                            refine xo_iload_n rfl rfl dL_law_1281 ?_
                                                                            refine xo_iconst kc_1 dL_law_1282 ?_
                                                                            refine xo_iadd dL_law_1283 ?_
                                                                            refine xo_iald dL_law_1284 (fun v201 => ?_)
                                                                            refine mk_O.callV (N := M_X12_back) (ci := 11) (q := (RX12, TX12, 64)) (b := x2) (As1 := [.int v201]) (S := [.int z200.1]) md_X12_back mv_X12_back lk_RL_158 rfl (Nat.le_of_ble_eq_true rfl) (by decide) dL_law_1285 rfl rfl rfl (fun z hz => (c_X12_back x2 v201 z200.2 z hz).1) (fun z hz => (c_X12_back x2 v201 z200.2 z hz).2) (fun z202 _ => ?_)
                                                                            show mk_O _ _ _ _ (.int z202.1 :: [.int z200.1]) _ _
                                                                            refine xo_icmp_eq (tgt := 1293) dL_law_1288 rfl (fun _ => ?_) (fun _ => ?_)
                                                                            · exact mk_O.wk (o_L_law_1293 _ ih x0 x1 x2 x3 z202.2) ⟨rfl, ⟨rfl, ⟨rfl, ⟨rfl, trivial⟩⟩⟩⟩
                                                                            · refine xo_iconst kc_0 dL_law_1291 ?_
                                                                              exact xo_zret dL_law_1292 rfl
                                                                          · refine xo_tabo dL_law_33 (by have q0 := lv_neT (a := 0) n0 (by decide); have q1 := lv_neT (a := 1) n1 (by decide); have q2 := lv_neT (a := 2) n2 (by decide); have q3 := lv_neT (a := 3) n3 (by decide); have q4 := lv_neT (a := 4) n4 (by decide); have q5 := lv_neT (a := 5) n5 (by decide); have q6 := lv_neT (a := 6) n6 (by decide); have q7 := lv_neT (a := 7) n7 (by decide); have q8 := lv_neT (a := 8) n8 (by decide); have q9 := lv_neT (a := 9) n9 (by decide); have q10 := lv_neT (a := 10) n10 (by decide); have q11 := lv_neT (a := 11) n11 (by decide); have q12 := lv_neT (a := 12) n12 (by decide); have q13 := lv_neT (a := 13) n13 (by decide); have q14 := lv_neT (a := 14) n14 (by decide); have q15 := lv_neT (a := 15) n15 (by decide); have q16 := lv_neT (a := 16) n16 (by decide); have q17 := lv_neT (a := 17) n17 (by decide); have q18 := lv_neT (a := 18) n18 (by decide); have q19 := lv_neT (a := 19) n19 (by decide); have q20 := lv_neT (a := 20) n20 (by decide); have q21 := lv_neT (a := 21) n21 (by decide); have q22 := lv_neT (a := 22) n22 (by decide); have q23 := lv_neT (a := 23) n23 (by decide); have q24 := lv_neT (a := 24) n24 (by decide); have q25 := lv_neT (a := 25) n25 (by decide); have q26 := lv_neT (a := 26) n26 (by decide); have q27 := lv_neT (a := 27) n27 (by decide); have q28 := lv_neT (a := 28) n28 (by decide); have q29 := lv_neT (a := 29) n29 (by decide); have q30 := lv_neT (a := 30) n30 (by decide); have q31 := lv_neT (a := 31) n31 (by decide); have q32 := lv_neT (a := 32) n32 (by decide); have q33 := lv_neT (a := 33) n33 (by decide); have q34 := lv_neT (a := 34) n34 (by decide); omega) rfl ?_
                                                                            exact mk_O.wk (o_L_law_1293 _ ih x0 x1 x2 x3 t) ⟨rfl, ⟨rfl, ⟨rfl, ⟨rfl, trivial⟩⟩⟩⟩
theorem p_L_law (t : mk_S) : mk_O mk_wi M_L_law 0 [some (.ref 3000000), none, none, none] [] t ((mk_new t 10 7).bind fun z1 => (F_X11_init z1.1 z1.2).bind fun z2 => (mk_new z2.2 11 64).bind fun z3 => (F_X12_init z3.1 z3.2).bind fun z4 => B_L_law_18 mk_fu 3000000 z1.1 z3.1 (0 : Int32) z4.2) := by
  refine xo_new dL_law_0 cl_10 ln_RL_7 (fun z1 _ => ?_)
  refine xo_dup rfl dL_law_3 ?_
  refine mk_O.callI (N := M_X11_init) (b := z1.1) (As1 := []) (S := [.ref z1.1]) md_X11_init rfl rfl mi_X11_init lk_RL_9 rfl (Nat.le_of_ble_eq_true rfl) (by decide) dL_law_4 rfl (fun z hz => (c_X11_init z1.1 z1.2 z hz).2) (fun z2 _ => ?_)
  show mk_O _ _ _ _ [.ref z1.1] _ _
  refine xo_astore_n rfl (by decide) (mk_p1_v rfl rfl) dL_law_7 ?_
  refine xo_new dL_law_8 cl_11 ln_RL_10 (fun z3 _ => ?_)
  refine xo_dup rfl dL_law_11 ?_
  refine mk_O.callI (N := M_X12_init) (b := z3.1) (As1 := []) (S := [.ref z3.1]) md_X12_init rfl rfl mi_X12_init lk_RL_12 rfl (Nat.le_of_ble_eq_true rfl) (by decide) dL_law_12 rfl (fun z hz => (c_X12_init z3.1 z3.2 z hz).2) (fun z4 _ => ?_)
  show mk_O _ _ _ _ [.ref z3.1] _ _
  refine xo_astore_n rfl (by decide) (mk_p1_v rfl rfl) dL_law_15 ?_
  refine xo_iconst kc_0 dL_law_16 ?_
  refine xo_istore_n rfl (by decide) (mk_p1_v rfl rfl) dL_law_17 ?_
  exact mk_O.wk (o_L_law_18 mk_fu 3000000 z1.1 z3.1 (0 : Int32) z4.2) ⟨rfl, ⟨rfl, ⟨rfl, ⟨rfl, trivial⟩⟩⟩⟩
