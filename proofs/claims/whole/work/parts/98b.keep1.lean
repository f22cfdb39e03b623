set_option maxRecDepth 4000 in
theorem ke_B_X2_offer_43 (x0 : Nat) (x1 : Int32) (x2 : Int32) (x3 : Int32) (t : mk_S) : KeP t (B_X2_offer_43 x0 x1 x2 x3 t) := by
  have h0 : Ke t t := Ke.rf
  unfold B_X2_offer_43
  repeat' (with_reducible first | exact ke_none | exact ke_some (by assumption) | exact ke_rz (by assumption) | refine ke_ite ?_ ?_ | refine ke_gd ?_ | refine ke_bindS (by first | exact KeS.tr (by assumption) (kes_pi _ _ _ _ _) | exact KeS.tr (by assumption) (kes_st _ _ _ _ _) | exact KeS.tr (by assumption) (kes_stl _ _ _ _) | exact KeS.tr (by assumption) (kes_cp _ _ _ _ _ _)) (fun _ _ => ?_) | refine ke_bindV (fun _ => ?_))
set_option maxRecDepth 4000 in
theorem ke_F_X2_offer (x0 : Nat) (x1 : Int32) (t : mk_S) : KeP t (F_X2_offer x0 x1 t) := by
  have h0 : Ke t t := Ke.rf
  unfold F_X2_offer
  repeat' (with_reducible first | exact ke_none | exact ke_some (by assumption) | exact ke_rz (by assumption) | exact KeP.tr (by assumption) (ke_F_J6_bitCount_0f7a4 _ _) | exact KeP.tr (by assumption) (ke_F_X7_groundInAll _ _) | exact KeP.tr (by assumption) (ke_B_X2_offer_43 _ _ _ _ _) | refine ke_ite ?_ ?_ | refine ke_gd ?_ | refine ke_bindO (by first | exact KeP.tr (by assumption) (ke_F_J6_bitCount_0f7a4 _ _) | exact KeP.tr (by assumption) (ke_F_X7_groundInAll _ _) | exact KeP.tr (by assumption) (ke_B_X2_offer_43 _ _ _ _ _)) (fun _ _ => ?_) | refine ke_bindS (by first | exact KeS.tr (by assumption) (kes_pi _ _ _ _ _) | exact KeS.tr (by assumption) (kes_st _ _ _ _ _) | exact KeS.tr (by assumption) (kes_stl _ _ _ _) | exact KeS.tr (by assumption) (kes_cp _ _ _ _ _ _)) (fun _ _ => ?_) | refine ke_bindV (fun _ => ?_))
set_option maxRecDepth 4000 in
theorem ke_F_X2_best (x0 : Nat) (x1 : Int32) (t : mk_S) : KeP t (F_X2_best x0 x1 t) := by
  have h0 : Ke t t := Ke.rf
  unfold F_X2_best
  repeat' (with_reducible first | exact ke_none | exact ke_some (by assumption) | exact ke_rz (by assumption) | refine ke_ite ?_ ?_ | refine ke_gd ?_ | refine ke_bindS (by first | exact KeS.tr (by assumption) (kes_pi _ _ _ _ _) | exact KeS.tr (by assumption) (kes_st _ _ _ _ _) | exact KeS.tr (by assumption) (kes_stl _ _ _ _) | exact KeS.tr (by assumption) (kes_cp _ _ _ _ _ _)) (fun _ _ => ?_) | refine ke_bindV (fun _ => ?_))
set_option maxRecDepth 4000 in
theorem ke_F_X3_cells (x0 : Nat) (t : mk_S) : KeP t (F_X3_cells x0 t) := by
  have h0 : Ke t t := Ke.rf
  unfold F_X3_cells
  repeat' (with_reducible first | exact ke_none | exact ke_some (by assumption) | exact ke_rz (by assumption) | refine ke_ite ?_ ?_ | refine ke_gd ?_ | refine ke_bindS (by first | exact KeS.tr (by assumption) (kes_pi _ _ _ _ _) | exact KeS.tr (by assumption) (kes_st _ _ _ _ _) | exact KeS.tr (by assumption) (kes_stl _ _ _ _) | exact KeS.tr (by assumption) (kes_cp _ _ _ _ _ _)) (fun _ _ => ?_) | refine ke_bindV (fun _ => ?_))
set_option maxRecDepth 4000 in
theorem ke_B_X2_bestCell_7 : ∀ (n : Nat) (x0 : Nat) (x1 : Int32) (x2 : Int32) (x3 : Int32) (x4 : Int32) (t : mk_S), KeP t (B_X2_bestCell_7  n x0 x1 x2 x3 x4 t) := by
  intro n
  induction n with
  | zero =>
    intro x0 x1 x2 x3 x4 t
    exact ke_none
  | succ n ih =>
    intro x0 x1 x2 x3 x4 t
    have h0 : Ke t t := Ke.rf
    rw [B_X2_bestCell_7]
    repeat' (with_reducible first | exact ke_none | exact ke_some (by assumption) | exact ke_rz (by assumption) | exact KeP.tr (by assumption) (ke_F_X3_cells _ _) | exact KeP.tr (by assumption) (ke_F_X2_best _ _ _) | exact KeP.tr (by assumption) (ke_F_X7_copyFrom _ _ _) | exact KeP.tr (by assumption) (ke_F_X2_goOn _ _ _ _) | exact KeP.tr (by assumption) (ke_F_X2_offer _ _ _) | exact KeP.tr (by assumption) (ih _ _ _ _ _ _) | refine ke_ite ?_ ?_ | refine ke_gd ?_ | refine ke_bindO (by first | exact KeP.tr (by assumption) (ke_F_X3_cells _ _) | exact KeP.tr (by assumption) (ke_F_X2_best _ _ _) | exact KeP.tr (by assumption) (ke_F_X7_copyFrom _ _ _) | exact KeP.tr (by assumption) (ke_F_X2_goOn _ _ _ _) | exact KeP.tr (by assumption) (ke_F_X2_offer _ _ _) | exact KeP.tr (by assumption) (ih _ _ _ _ _ _)) (fun _ _ => ?_) | refine ke_bindS (by first | exact KeS.tr (by assumption) (kes_pi _ _ _ _ _) | exact KeS.tr (by assumption) (kes_st _ _ _ _ _) | exact KeS.tr (by assumption) (kes_stl _ _ _ _) | exact KeS.tr (by assumption) (kes_cp _ _ _ _ _ _)) (fun _ _ => ?_) | refine ke_bindV (fun _ => ?_))
set_option maxRecDepth 4000 in
theorem ke_F_X2_bestCell (x0 : Nat) (x1 : Int32) (x2 : Int32) (x3 : Int32) (t : mk_S) : KeP t (F_X2_bestCell x0 x1 x2 x3 t) := by
  have h0 : Ke t t := Ke.rf
  unfold F_X2_bestCell
  repeat' (with_reducible first | exact ke_none | exact ke_some (by assumption) | exact ke_rz (by assumption) | exact KeP.tr (by assumption) (ke_F_X2_forgetWays _ _) | exact KeP.tr (by assumption) (ke_B_X2_bestCell_7 _ _ _ _ _ _ _) | refine ke_ite ?_ ?_ | refine ke_gd ?_ | refine ke_bindO (by first | exact KeP.tr (by assumption) (ke_F_X2_forgetWays _ _) | exact KeP.tr (by assumption) (ke_B_X2_bestCell_7 _ _ _ _ _ _ _)) (fun _ _ => ?_) | refine ke_bindS (by first | exact KeS.tr (by assumption) (kes_pi _ _ _ _ _) | exact KeS.tr (by assumption) (kes_st _ _ _ _ _) | exact KeS.tr (by assumption) (kes_stl _ _ _ _) | exact KeS.tr (by assumption) (kes_cp _ _ _ _ _ _)) (fun _ _ => ?_) | refine ke_bindV (fun _ => ?_))
set_option maxRecDepth 4000 in
theorem ke_B_X2_bestFace_7 : ∀ (n : Nat) (x0 : Nat) (x1 : Int32) (x2 : Int32) (x3 : Int32) (x4 : Int32) (t : mk_S), KeP t (B_X2_bestFace_7  n x0 x1 x2 x3 x4 t) := by
  intro n
  induction n with
  | zero =>
    intro x0 x1 x2 x3 x4 t
    exact ke_none
  | succ n ih =>
    intro x0 x1 x2 x3 x4 t
    have h0 : Ke t t := Ke.rf
    rw [B_X2_bestFace_7]
    repeat' (with_reducible first | exact ke_none | exact ke_some (by assumption) | exact ke_rz (by assumption) | exact KeP.tr (by assumption) (ke_F_X2_best _ _ _) | exact KeP.tr (by assumption) (ke_F_X7_copyFrom _ _ _) | exact KeP.tr (by assumption) (ke_F_X2_goOn _ _ _ _) | exact KeP.tr (by assumption) (ke_F_X2_offer _ _ _) | exact KeP.tr (by assumption) (ih _ _ _ _ _ _) | refine ke_ite ?_ ?_ | refine ke_gd ?_ | refine ke_bindO (by first | exact KeP.tr (by assumption) (ke_F_X2_best _ _ _) | exact KeP.tr (by assumption) (ke_F_X7_copyFrom _ _ _) | exact KeP.tr (by assumption) (ke_F_X2_goOn _ _ _ _) | exact KeP.tr (by assumption) (ke_F_X2_offer _ _ _) | exact KeP.tr (by assumption) (ih _ _ _ _ _ _)) (fun _ _ => ?_) | refine ke_bindS (by first | exact KeS.tr (by assumption) (kes_pi _ _ _ _ _) | exact KeS.tr (by assumption) (kes_st _ _ _ _ _) | exact KeS.tr (by assumption) (kes_stl _ _ _ _) | exact KeS.tr (by assumption) (kes_cp _ _ _ _ _ _)) (fun _ _ => ?_) | refine ke_bindV (fun _ => ?_))
set_option maxRecDepth 4000 in
theorem ke_F_X2_bestFace (x0 : Nat) (x1 : Int32) (x2 : Int32) (x3 : Int32) (t : mk_S) : KeP t (F_X2_bestFace x0 x1 x2 x3 t) := by
  have h0 : Ke t t := Ke.rf
  unfold F_X2_bestFace
  repeat' (with_reducible first | exact ke_none | exact ke_some (by assumption) | exact ke_rz (by assumption) | exact KeP.tr (by assumption) (ke_F_X2_forgetWays _ _) | exact KeP.tr (by assumption) (ke_B_X2_bestFace_7 _ _ _ _ _ _ _) | refine ke_ite ?_ ?_ | refine ke_gd ?_ | refine ke_bindO (by first | exact KeP.tr (by assumption) (ke_F_X2_forgetWays _ _) | exact KeP.tr (by assumption) (ke_B_X2_bestFace_7 _ _ _ _ _ _ _)) (fun _ _ => ?_) | refine ke_bindS (by first | exact KeS.tr (by assumption) (kes_pi _ _ _ _ _) | exact KeS.tr (by assumption) (kes_st _ _ _ _ _) | exact KeS.tr (by assumption) (kes_stl _ _ _ _) | exact KeS.tr (by assumption) (kes_cp _ _ _ _ _ _)) (fun _ _ => ?_) | refine ke_bindV (fun _ => ?_))
set_option maxRecDepth 4000 in
theorem ke_B_X2_bestStill_6 : ∀ (n : Nat) (x0 : Nat) (x1 : Int32) (x2 : Int32) (x3 : Int32) (t : mk_S), KeP t (B_X2_bestStill_6  n x0 x1 x2 x3 t) := by
  intro n
  induction n with
  | zero =>
    intro x0 x1 x2 x3 t
    exact ke_none
  | succ n ih =>
    intro x0 x1 x2 x3 t
    have h0 : Ke t t := Ke.rf
    rw [B_X2_bestStill_6]
    repeat' (with_reducible first | exact ke_none | exact ke_some (by assumption) | exact ke_rz (by assumption) | exact KeP.tr (by assumption) (ke_F_X2_best _ _ _) | exact KeP.tr (by assumption) (ke_F_X7_copyFrom _ _ _) | exact KeP.tr (by assumption) (ke_F_X2_goOn _ _ _ _) | exact KeP.tr (by assumption) (ke_F_X2_offer _ _ _) | exact KeP.tr (by assumption) (ih _ _ _ _ _) | refine ke_ite ?_ ?_ | refine ke_gd ?_ | refine ke_bindO (by first | exact KeP.tr (by assumption) (ke_F_X2_best _ _ _) | exact KeP.tr (by assumption) (ke_F_X7_copyFrom _ _ _) | exact KeP.tr (by assumption) (ke_F_X2_goOn _ _ _ _) | exact KeP.tr (by assumption) (ke_F_X2_offer _ _ _) | exact KeP.tr (by assumption) (ih _ _ _ _ _)) (fun _ _ => ?_) | refine ke_bindS (by first | exact KeS.tr (by assumption) (kes_pi _ _ _ _ _) | exact KeS.tr (by assumption) (kes_st _ _ _ _ _) | exact KeS.tr (by assumption) (kes_stl _ _ _ _) | exact KeS.tr (by assumption) (kes_cp _ _ _ _ _ _)) (fun _ _ => ?_) | refine ke_bindV (fun _ => ?_))
set_option maxRecDepth 4000 in
theorem ke_F_X2_bestStill (x0 : Nat) (x1 : Int32) (x2 : Int32) (t : mk_S) : KeP t (F_X2_bestStill x0 x1 x2 t) := by
  have h0 : Ke t t := Ke.rf
  unfold F_X2_bestStill
  repeat' (with_reducible first | exact ke_none | exact ke_some (by assumption) | exact ke_rz (by assumption) | exact KeP.tr (by assumption) (ke_F_X2_forgetWays _ _) | exact KeP.tr (by assumption) (ke_B_X2_bestStill_6 _ _ _ _ _ _) | refine ke_ite ?_ ?_ | refine ke_gd ?_ | refine ke_bindO (by first | exact KeP.tr (by assumption) (ke_F_X2_forgetWays _ _) | exact KeP.tr (by assumption) (ke_B_X2_bestStill_6 _ _ _ _ _ _)) (fun _ _ => ?_) | refine ke_bindS (by first | exact KeS.tr (by assumption) (kes_pi _ _ _ _ _) | exact KeS.tr (by assumption) (kes_st _ _ _ _ _) | exact KeS.tr (by assumption) (kes_stl _ _ _ _) | exact KeS.tr (by assumption) (kes_cp _ _ _ _ _ _)) (fun _ _ => ?_) | refine ke_bindV (fun _ => ?_))
set_option maxRecDepth 4000 in
theorem ke_B_X2_leastWine_3 : ∀ (n : Nat) (x0 : Nat) (x1 : Int32) (x2 : Int32) (x3 : Int32) (x4 : Int32) (x5 : Int32) (t : mk_S), KeP t (B_X2_leastWine_3  n x0 x1 x2 x3 x4 x5 t) := by
  intro n
  induction n with
  | zero =>
    intro x0 x1 x2 x3 x4 x5 t
    exact ke_none
  | succ n ih =>
    intro x0 x1 x2 x3 x4 x5 t
    have h0 : Ke t t := Ke.rf
    rw [B_X2_leastWine_3]
    repeat' (with_reducible first | exact ke_none | exact ke_some (by assumption) | exact ke_rz (by assumption) | exact KeP.tr (by assumption) (ke_F_X7_copyFrom _ _ _) | exact KeP.tr (by assumption) (ke_F_X7_urgeOn _ _ _ _) | exact KeP.tr (by assumption) (ke_F_X2_goOn _ _ _ _) | exact KeP.tr (by assumption) (ih _ _ _ _ _ _ _) | refine ke_ite ?_ ?_ | refine ke_gd ?_ | refine ke_bindO (by first | exact KeP.tr (by assumption) (ke_F_X7_copyFrom _ _ _) | exact KeP.tr (by assumption) (ke_F_X7_urgeOn _ _ _ _) | exact KeP.tr (by assumption) (ke_F_X2_goOn _ _ _ _) | exact KeP.tr (by assumption) (ih _ _ _ _ _ _ _)) (fun _ _ => ?_) | refine ke_bindS (by first | exact KeS.tr (by assumption) (kes_pi _ _ _ _ _) | exact KeS.tr (by assumption) (kes_st _ _ _ _ _) | exact KeS.tr (by assumption) (kes_stl _ _ _ _) | exact KeS.tr (by assumption) (kes_cp _ _ _ _ _ _)) (fun _ _ => ?_) | refine ke_bindV (fun _ => ?_))
set_option maxRecDepth 4000 in
theorem ke_F_X2_leastWine (x0 : Nat) (x1 : Int32) (x2 : Int32) (x3 : Int32) (x4 : Int32) (t : mk_S) : KeP t (F_X2_leastWine x0 x1 x2 x3 x4 t) := by
  have h0 : Ke t t := Ke.rf
  unfold F_X2_leastWine
  repeat' (with_reducible first | exact ke_none | exact ke_some (by assumption) | exact ke_rz (by assumption) | exact KeP.tr (by assumption) (ke_B_X2_leastWine_3 _ _ _ _ _ _ _ _) | refine ke_ite ?_ ?_ | refine ke_gd ?_ | refine ke_bindO (by first | exact KeP.tr (by assumption) (ke_B_X2_leastWine_3 _ _ _ _ _ _ _ _)) (fun _ _ => ?_) | refine ke_bindS (by first | exact KeS.tr (by assumption) (kes_pi _ _ _ _ _) | exact KeS.tr (by assumption) (kes_st _ _ _ _ _) | exact KeS.tr (by assumption) (kes_stl _ _ _ _) | exact KeS.tr (by assumption) (kes_cp _ _ _ _ _ _)) (fun _ _ => ?_) | refine ke_bindV (fun _ => ?_))
set_option maxRecDepth 4000 in
theorem ke_B_X2_sharesOf_27 (k4 : Nat → Int32 → Int32 → Int32 → mk_S → Option (Int32 × mk_S)) (h_k4 : ∀ (y0 : Nat) (y1 : Int32) (y2 : Int32) (y3 : Int32) (y4 : mk_S), KeP y4 (k4 y0 y1 y2 y3 y4)) (x0 : Nat) (x1 : Int32) (x2 : Int32) (x3 : Int32) (t : mk_S) : KeP t (B_X2_sharesOf_27 k4 x0 x1 x2 x3 t) := by
  have h0 : Ke t t := Ke.rf
  unfold B_X2_sharesOf_27
  repeat' (with_reducible first | exact ke_none | exact ke_some (by assumption) | exact ke_rz (by assumption) | exact KeP.tr (by assumption) (h_k4 _ _ _ _ _) | refine ke_ite ?_ ?_ | refine ke_gd ?_ | refine ke_bindO (by first | exact KeP.tr (by assumption) (h_k4 _ _ _ _ _)) (fun _ _ => ?_) | refine ke_bindS (by first | exact KeS.tr (by assumption) (kes_pi _ _ _ _ _) | exact KeS.tr (by assumption) (kes_st _ _ _ _ _) | exact KeS.tr (by assumption) (kes_stl _ _ _ _) | exact KeS.tr (by assumption) (kes_cp _ _ _ _ _ _)) (fun _ _ => ?_) | refine ke_bindV (fun _ => ?_))
set_option maxRecDepth 4000 in
theorem ke_B_X2_sharesOf_4 : ∀ (n : Nat) (x0 : Nat) (x1 : Int32) (x2 : Int32) (x3 : Int32) (t : mk_S), KeP t (B_X2_sharesOf_4  n x0 x1 x2 x3 t) := by
  intro n
  induction n with
  | zero =>
    intro x0 x1 x2 x3 t
    exact ke_none
  | succ n ih =>
    intro x0 x1 x2 x3 t
    have h0 : Ke t t := Ke.rf
    rw [B_X2_sharesOf_4]
    repeat' (with_reducible first | exact ke_none | exact ke_some (by assumption) | exact ke_rz (by assumption) | exact KeP.tr (by assumption) (ke_B_X2_sharesOf_27 _ (by assumption) _ _ _ _ _) | exact KeP.tr (by assumption) (ih _ _ _ _ _) | refine ke_ite ?_ ?_ | refine ke_gd ?_ | refine ke_bindO (by first | exact KeP.tr (by assumption) (ke_B_X2_sharesOf_27 _ (by assumption) _ _ _ _ _) | exact KeP.tr (by assumption) (ih _ _ _ _ _)) (fun _ _ => ?_) | refine ke_bindS (by first | exact KeS.tr (by assumption) (kes_pi _ _ _ _ _) | exact KeS.tr (by assumption) (kes_st _ _ _ _ _) | exact KeS.tr (by assumption) (kes_stl _ _ _ _) | exact KeS.tr (by assumption) (kes_cp _ _ _ _ _ _)) (fun _ _ => ?_) | refine ke_bindV (fun _ => ?_))
set_option maxRecDepth 4000 in
theorem ke_F_X2_sharesOf (x0 : Nat) (x1 : Int32) (t : mk_S) : KeP t (F_X2_sharesOf x0 x1 t) := by
  have h0 : Ke t t := Ke.rf
  unfold F_X2_sharesOf
  repeat' (with_reducible first | exact ke_none | exact ke_some (by assumption) | exact ke_rz (by assumption) | exact KeP.tr (by assumption) (ke_B_X2_sharesOf_4 _ _ _ _ _ _) | refine ke_ite ?_ ?_ | refine ke_gd ?_ | refine ke_bindO (by first | exact KeP.tr (by assumption) (ke_B_X2_sharesOf_4 _ _ _ _ _ _)) (fun _ _ => ?_) | refine ke_bindS (by first | exact KeS.tr (by assumption) (kes_pi _ _ _ _ _) | exact KeS.tr (by assumption) (kes_st _ _ _ _ _) | exact KeS.tr (by assumption) (kes_stl _ _ _ _) | exact KeS.tr (by assumption) (kes_cp _ _ _ _ _ _)) (fun _ _ => ?_) | refine ke_bindV (fun _ => ?_))
set_option maxRecDepth 4000 in
theorem ke_B_X2_blowers_133 (k90 : Nat → Int32 → Int32 → Int32 → Int32 → Int32 → Int32 → Int32 → mk_S → Option (Int32 × mk_S)) (h_k90 : ∀ (y0 : Nat) (y1 : Int32) (y2 : Int32) (y3 : Int32) (y4 : Int32) (y5 : Int32) (y6 : Int32) (y7 : Int32) (y8 : mk_S), KeP y8 (k90 y0 y1 y2 y3 y4 y5 y6 y7 y8)) (x0 : Nat) (x2 : Int32) (x3 : Int32) (x4 : Int32) (x5 : Int32) (x6 : Int32) (x7 : Int32) (x8 : Int32) (t : mk_S) : KeP t (B_X2_blowers_133 k90 x0 x2 x3 x4 x5 x6 x7 x8 t) := by
  have h0 : Ke t t := Ke.rf
  unfold B_X2_blowers_133
  repeat' (with_reducible first | exact ke_none | exact ke_some (by assumption) | exact ke_rz (by assumption) | exact KeP.tr (by assumption) (h_k90 _ _ _ _ _ _ _ _ _) | refine ke_ite ?_ ?_ | refine ke_gd ?_ | refine ke_bindO (by first | exact KeP.tr (by assumption) (h_k90 _ _ _ _ _ _ _ _ _)) (fun _ _ => ?_) | refine ke_bindS (by first | exact KeS.tr (by assumption) (kes_pi _ _ _ _ _) | exact KeS.tr (by assumption) (kes_st _ _ _ _ _) | exact KeS.tr (by assumption) (kes_stl _ _ _ _) | exact KeS.tr (by assumption) (kes_cp _ _ _ _ _ _)) (fun _ _ => ?_) | refine ke_bindV (fun _ => ?_))
set_option maxRecDepth 4000 in
theorem ke_B_X2_blowers_121 (k90 : Nat → Int32 → Int32 → Int32 → Int32 → Int32 → Int32 → Int32 → mk_S → Option (Int32 × mk_S)) (h_k90 : ∀ (y0 : Nat) (y1 : Int32) (y2 : Int32) (y3 : Int32) (y4 : Int32) (y5 : Int32) (y6 : Int32) (y7 : Int32) (y8 : mk_S), KeP y8 (k90 y0 y1 y2 y3 y4 y5 y6 y7 y8)) (x0 : Nat) (x2 : Int32) (x3 : Int32) (x4 : Int32) (x5 : Int32) (x7 : Int32) (x8 : Int32) (s0 : Int32) (t : mk_S) : KeP t (B_X2_blowers_121 k90 x0 x2 x3 x4 x5 x7 x8 s0 t) := by
  have h0 : Ke t t := Ke.rf
  unfold B_X2_blowers_121
  repeat' (with_reducible first | exact ke_none | exact ke_some (by assumption) | exact ke_rz (by assumption) | exact KeP.tr (by assumption) (ke_B_X2_blowers_133 _ (by assumption) _ _ _ _ _ _ _ _ _) | exact KeP.tr (by assumption) (h_k90 _ _ _ _ _ _ _ _ _) | refine ke_ite ?_ ?_ | refine ke_gd ?_ | refine ke_bindO (by first | exact KeP.tr (by assumption) (ke_B_X2_blowers_133 _ (by assumption) _ _ _ _ _ _ _ _ _) | exact KeP.tr (by assumption) (h_k90 _ _ _ _ _ _ _ _ _)) (fun _ _ => ?_) | refine ke_bindS (by first | exact KeS.tr (by assumption) (kes_pi _ _ _ _ _) | exact KeS.tr (by assumption) (kes_st _ _ _ _ _) | exact KeS.tr (by assumption) (kes_stl _ _ _ _) | exact KeS.tr (by assumption) (kes_cp _ _ _ _ _ _)) (fun _ _ => ?_) | refine ke_bindV (fun _ => ?_))
set_option maxRecDepth 4000 in
theorem ke_B_X2_blowers_90 : ∀ (n : Nat) (x0 : Nat) (x2 : Int32) (x3 : Int32) (x4 : Int32) (x5 : Int32) (x6 : Int32) (x7 : Int32) (x8 : Int32) (t : mk_S), KeP t (B_X2_blowers_90  n x0 x2 x3 x4 x5 x6 x7 x8 t) := by
  intro n
  induction n with
  | zero =>
    intro x0 x2 x3 x4 x5 x6 x7 x8 t
    exact ke_none
  | succ n ih =>
    intro x0 x2 x3 x4 x5 x6 x7 x8 t
    have h0 : Ke t t := Ke.rf
    rw [B_X2_blowers_90]
    repeat' (with_reducible first | exact ke_none | exact ke_some (by assumption) | exact ke_rz (by assumption) | exact KeP.tr (by assumption) (ke_F_X2_sharesOf _ _ _) | exact KeP.tr (by assumption) (ke_B_X2_blowers_121 _ (by assumption) _ _ _ _ _ _ _ _ _) | exact KeP.tr (by assumption) (ke_B_X2_blowers_133 _ (by assumption) _ _ _ _ _ _ _ _ _) | exact KeP.tr (by assumption) (ih _ _ _ _ _ _ _ _ _) | refine ke_ite ?_ ?_ | refine ke_gd ?_ | refine ke_bindO (by first | exact KeP.tr (by assumption) (ke_F_X2_sharesOf _ _ _) | exact KeP.tr (by assumption) (ke_B_X2_blowers_121 _ (by assumption) _ _ _ _ _ _ _ _ _) | exact KeP.tr (by assumption) (ke_B_X2_blowers_133 _ (by assumption) _ _ _ _ _ _ _ _ _) | exact KeP.tr (by assumption) (ih _ _ _ _ _ _ _ _ _)) (fun _ _ => ?_) | refine ke_bindS (by first | exact KeS.tr (by assumption) (kes_pi _ _ _ _ _) | exact KeS.tr (by assumption) (kes_st _ _ _ _ _) | exact KeS.tr (by assumption) (kes_stl _ _ _ _) | exact KeS.tr (by assumption) (kes_cp _ _ _ _ _ _)) (fun _ _ => ?_) | refine ke_bindV (fun _ => ?_))
set_option maxRecDepth 4000 in
theorem ke_B_X2_blowers_15 : ∀ (n : Nat) (x0 : Nat) (x1 : Int32) (x2 : Int32) (x3 : Int32) (x4 : Int32) (x5 : Int32) (t : mk_S), KeP t (B_X2_blowers_15  n x0 x1 x2 x3 x4 x5 t) := by
  intro n
  induction n with
  | zero =>
    intro x0 x1 x2 x3 x4 x5 t
    exact ke_none
  | succ n ih =>
    intro x0 x1 x2 x3 x4 x5 t
    have h0 : Ke t t := Ke.rf
    rw [B_X2_blowers_15]
    repeat' (with_reducible first | exact ke_none | exact ke_some (by assumption) | exact ke_rz (by assumption) | exact KeP.tr (by assumption) (ke_B_X2_blowers_90 _ _ _ _ _ _ _ _ _ _) | exact KeP.tr (by assumption) (ke_F_J7_fill_53178 _ _ _) | exact KeP.tr (by assumption) (ke_F_X9_puff _ _ _ _ _) | exact KeP.tr (by assumption) (ih _ _ _ _ _ _ _) | refine ke_ite ?_ ?_ | refine ke_gd ?_ | refine ke_bindO (by first | exact KeP.tr (by assumption) (ke_B_X2_blowers_90 _ _ _ _ _ _ _ _ _ _) | exact KeP.tr (by assumption) (ke_F_J7_fill_53178 _ _ _) | exact KeP.tr (by assumption) (ke_F_X9_puff _ _ _ _ _) | exact KeP.tr (by assumption) (ih _ _ _ _ _ _ _)) (fun _ _ => ?_) | refine ke_bindS (by first | exact KeS.tr (by assumption) (kes_pi _ _ _ _ _) | exact KeS.tr (by assumption) (kes_st _ _ _ _ _) | exact KeS.tr (by assumption) (kes_stl _ _ _ _) | exact KeS.tr (by assumption) (kes_cp _ _ _ _ _ _)) (fun _ _ => ?_) | refine ke_bindV (fun _ => ?_))
set_option maxRecDepth 4000 in
theorem ke_F_X2_blowers (x0 : Nat) (x1 : Int32) (x2 : Int32) (x3 : Int32) (t : mk_S) : KeP t (F_X2_blowers x0 x1 x2 x3 t) := by
  have h0 : Ke t t := Ke.rf
  unfold F_X2_blowers
  repeat' (with_reducible first | exact ke_none | exact ke_some (by assumption) | exact ke_rz (by assumption) | exact KeP.tr (by assumption) (ke_B_X2_blowers_15 _ _ _ _ _ _ _ _) | refine ke_ite ?_ ?_ | refine ke_gd ?_ | refine ke_bindO (by first | exact KeP.tr (by assumption) (ke_B_X2_blowers_15 _ _ _ _ _ _ _ _)) (fun _ _ => ?_) | refine ke_bindS (by first | exact KeS.tr (by assumption) (kes_pi _ _ _ _ _) | exact KeS.tr (by assumption) (kes_st _ _ _ _ _) | exact KeS.tr (by assumption) (kes_stl _ _ _ _) | exact KeS.tr (by assumption) (kes_cp _ _ _ _ _ _)) (fun _ _ => ?_) | refine ke_bindV (fun _ => ?_))
set_option maxRecDepth 4000 in
theorem ke_F_X7_windInAll (x0 : Nat) (t : mk_S) : KeP t (F_X7_windInAll x0 t) := by
  have h0 : Ke t t := Ke.rf
  unfold F_X7_windInAll
  repeat' (with_reducible first | exact ke_none | exact ke_some (by assumption) | exact ke_rz (by assumption) | exact KeP.tr (by assumption) (ke_F_X7_sum _ _) | refine ke_ite ?_ ?_ | refine ke_gd ?_ | refine ke_bindO (by first | exact KeP.tr (by assumption) (ke_F_X7_sum _ _)) (fun _ _ => ?_) | refine ke_bindS (by first | exact KeS.tr (by assumption) (kes_pi _ _ _ _ _) | exact KeS.tr (by assumption) (kes_st _ _ _ _ _) | exact KeS.tr (by assumption) (kes_stl _ _ _ _) | exact KeS.tr (by assumption) (kes_cp _ _ _ _ _ _)) (fun _ _ => ?_) | refine ke_bindV (fun _ => ?_))
set_option maxRecDepth 4000 in
theorem ke_B_X2_longestLull_110 (k32 : Nat → Int32 → Int32 → Option Nat → Int32 → Int32 → Int32 → Int32 → mk_S → Option (Int32 × mk_S)) (h_k32 : ∀ (y0 : Nat) (y1 : Int32) (y2 : Int32) (y3 : Option Nat) (y4 : Int32) (y5 : Int32) (y6 : Int32) (y7 : Int32) (y8 : mk_S), KeP y8 (k32 y0 y1 y2 y3 y4 y5 y6 y7 y8)) (x0 : Nat) (x1 : Int32) (x2 : Int32) (x3 : Option Nat) (x4 : Int32) (x5 : Int32) (x6 : Int32) (x7 : Int32) (t : mk_S) : KeP t (B_X2_longestLull_110 k32 x0 x1 x2 x3 x4 x5 x6 x7 t) := by
  have h0 : Ke t t := Ke.rf
  unfold B_X2_longestLull_110
  repeat' (with_reducible first | exact ke_none | exact ke_some (by assumption) | exact ke_rz (by assumption) | exact KeP.tr (by assumption) (h_k32 _ _ _ _ _ _ _ _ _) | refine ke_ite ?_ ?_ | refine ke_gd ?_ | refine ke_bindO (by first | exact KeP.tr (by assumption) (h_k32 _ _ _ _ _ _ _ _ _)) (fun _ _ => ?_) | refine ke_bindS (by first | exact KeS.tr (by assumption) (kes_pi _ _ _ _ _) | exact KeS.tr (by assumption) (kes_st _ _ _ _ _) | exact KeS.tr (by assumption) (kes_stl _ _ _ _) | exact KeS.tr (by assumption) (kes_cp _ _ _ _ _ _)) (fun _ _ => ?_) | refine ke_bindV (fun _ => ?_))
set_option maxRecDepth 4000 in
theorem ke_B_X2_longestLull_77 (k32 : Nat → Int32 → Int32 → Option Nat → Int32 → Int32 → Int32 → Int32 → mk_S → Option (Int32 × mk_S)) (h_k32 : ∀ (y0 : Nat) (y1 : Int32) (y2 : Int32) (y3 : Option Nat) (y4 : Int32) (y5 : Int32) (y6 : Int32) (y7 : Int32) (y8 : mk_S), KeP y8 (k32 y0 y1 y2 y3 y4 y5 y6 y7 y8)) (x0 : Nat) (x1 : Int32) (x2 : Int32) (x3 : Option Nat) (x4 : Int32) (x5 : Int32) (x7 : Int32) (s0 : Int32) (t : mk_S) : KeP t (B_X2_longestLull_77 k32 x0 x1 x2 x3 x4 x5 x7 s0 t) := by
  have h0 : Ke t t := Ke.rf
  unfold B_X2_longestLull_77
  repeat' (with_reducible first | exact ke_none | exact ke_some (by assumption) | exact ke_rz (by assumption) | exact KeP.tr (by assumption) (ke_B_X2_longestLull_110 _ (by assumption) _ _ _ _ _ _ _ _ _) | exact KeP.tr (by assumption) (h_k32 _ _ _ _ _ _ _ _ _) | refine ke_ite ?_ ?_ | refine ke_gd ?_ | refine ke_bindO (by first | exact KeP.tr (by assumption) (ke_B_X2_longestLull_110 _ (by assumption) _ _ _ _ _ _ _ _ _) | exact KeP.tr (by assumption) (h_k32 _ _ _ _ _ _ _ _ _)) (fun _ _ => ?_) | refine ke_bindS (by first | exact KeS.tr (by assumption) (kes_pi _ _ _ _ _) | exact KeS.tr (by assumption) (kes_st _ _ _ _ _) | exact KeS.tr (by assumption) (kes_stl _ _ _ _) | exact KeS.tr (by assumption) (kes_cp _ _ _ _ _ _)) (fun _ _ => ?_) | refine ke_bindV (fun _ => ?_))
set_option maxRecDepth 4000 in
theorem ke_B_X2_longestLull_32 : ∀ (n : Nat) (x0 : Nat) (x1 : Int32) (x2 : Int32) (x3 : Option Nat) (x4 : Int32) (x5 : Int32) (x6 : Int32) (x7 : Int32) (t : mk_S), KeP t (B_X2_longestLull_32  n x0 x1 x2 x3 x4 x5 x6 x7 t) := by
  intro n
  induction n with
  | zero =>
    intro x0 x1 x2 x3 x4 x5 x6 x7 t
    exact ke_none
  | succ n ih =>
    intro x0 x1 x2 x3 x4 x5 x6 x7 t
    have h0 : Ke t t := Ke.rf
    rw [B_X2_longestLull_32]
    repeat' (with_reducible first | exact ke_none | exact ke_some (by assumption) | exact ke_rz (by assumption) | exact KeP.tr (by assumption) (ke_F_X9_pass _ _ _ _ _ _) | exact KeP.tr (by assumption) (ke_F_X7_windInAll _ _) | exact KeP.tr (by assumption) (ke_B_X2_longestLull_77 _ (by assumption) _ _ _ _ _ _ _ _ _) | exact KeP.tr (by assumption) (ih _ _ _ _ _ _ _ _ _) | refine ke_ite ?_ ?_ | refine ke_gd ?_ | refine ke_bindO (by first | exact KeP.tr (by assumption) (ke_F_X9_pass _ _ _ _ _ _) | exact KeP.tr (by assumption) (ke_F_X7_windInAll _ _) | exact KeP.tr (by assumption) (ke_B_X2_longestLull_77 _ (by assumption) _ _ _ _ _ _ _ _ _) | exact KeP.tr (by assumption) (ih _ _ _ _ _ _ _ _ _)) (fun _ _ => ?_) | refine ke_bindS (by first | exact KeS.tr (by assumption) (kes_pi _ _ _ _ _) | exact KeS.tr (by assumption) (kes_st _ _ _ _ _) | exact KeS.tr (by assumption) (kes_stl _ _ _ _) | exact KeS.tr (by assumption) (kes_cp _ _ _ _ _ _)) (fun _ _ => ?_) | refine ke_bindV (fun _ => ?_))
set_option maxRecDepth 4000 in
theorem ke_F_X2_longestLull (x0 : Nat) (x1 : Int32) (x2 : Int32) (t : mk_S) : KeP t (F_X2_longestLull x0 x1 x2 t) := by
  have h0 : Ke t t := Ke.rf
  unfold F_X2_longestLull
  repeat' (with_reducible first | exact ke_none | exact ke_some (by assumption) | exact ke_rz (by assumption) | exact KeP.tr (by assumption) (ke_F_X7_copyFrom _ _ _) | exact KeP.tr (by assumption) (ke_F_X2_inForce _ _) | exact KeP.tr (by assumption) (ke_B_X2_longestLull_32 _ _ _ _ _ _ _ _ _ _) | refine ke_ite ?_ ?_ | refine ke_gd ?_ | refine ke_bindO (by first | exact KeP.tr (by assumption) (ke_F_X7_copyFrom _ _ _) | exact KeP.tr (by assumption) (ke_F_X2_inForce _ _) | exact KeP.tr (by assumption) (ke_B_X2_longestLull_32 _ _ _ _ _ _ _ _ _ _)) (fun _ _ => ?_) | refine ke_bindS (by first | exact KeS.tr (by assumption) (kes_pi _ _ _ _ _) | exact KeS.tr (by assumption) (kes_st _ _ _ _ _) | exact KeS.tr (by assumption) (kes_stl _ _ _ _) | exact KeS.tr (by assumption) (kes_cp _ _ _ _ _ _)) (fun _ _ => ?_) | refine ke_bindV (fun _ => ?_))
set_option maxRecDepth 4000 in
theorem ke_B_X2_windiest_99 (k37 : Nat → Int32 → Int32 → Option Nat → Int32 → Int32 → Int32 → mk_S → Option (Int32 × mk_S)) (h_k37 : ∀ (y0 : Nat) (y1 : Int32) (y2 : Int32) (y3 : Option Nat) (y4 : Int32) (y5 : Int32) (y6 : Int32) (y7 : mk_S), KeP y7 (k37 y0 y1 y2 y3 y4 y5 y6 y7)) (x0 : Nat) (x1 : Int32) (x2 : Int32) (x3 : Option Nat) (x4 : Int32) (x5 : Int32) (x6 : Int32) (t : mk_S) : KeP t (B_X2_windiest_99 k37 x0 x1 x2 x3 x4 x5 x6 t) := by
  have h0 : Ke t t := Ke.rf
  unfold B_X2_windiest_99
  repeat' (with_reducible first | exact ke_none | exact ke_some (by assumption) | exact ke_rz (by assumption) | exact KeP.tr (by assumption) (h_k37 _ _ _ _ _ _ _ _) | refine ke_ite ?_ ?_ | refine ke_gd ?_ | refine ke_bindO (by first | exact KeP.tr (by assumption) (h_k37 _ _ _ _ _ _ _ _)) (fun _ _ => ?_) | refine ke_bindS (by first | exact KeS.tr (by assumption) (kes_pi _ _ _ _ _) | exact KeS.tr (by assumption) (kes_st _ _ _ _ _) | exact KeS.tr (by assumption) (kes_stl _ _ _ _) | exact KeS.tr (by assumption) (kes_cp _ _ _ _ _ _)) (fun _ _ => ?_) | refine ke_bindV (fun _ => ?_))
set_option maxRecDepth 4000 in
theorem ke_B_X2_windiest_37 : ∀ (n : Nat) (x0 : Nat) (x1 : Int32) (x2 : Int32) (x3 : Option Nat) (x4 : Int32) (x5 : Int32) (x6 : Int32) (t : mk_S), KeP t (B_X2_windiest_37  n x0 x1 x2 x3 x4 x5 x6 t) := by
  intro n
  induction n with
  | zero =>
    intro x0 x1 x2 x3 x4 x5 x6 t
    exact ke_none
  | succ n ih =>
    intro x0 x1 x2 x3 x4 x5 x6 t
    have h0 : Ke t t := Ke.rf
    rw [B_X2_windiest_37]
    repeat' (with_reducible first | exact ke_none | exact ke_some (by assumption) | exact ke_rz (by assumption) | exact KeP.tr (by assumption) (ke_F_X9_pass _ _ _ _ _ _) | exact KeP.tr (by assumption) (ke_F_X7_windInAll _ _) | exact KeP.tr (by assumption) (ke_B_X2_windiest_99 _ (by assumption) _ _ _ _ _ _ _ _) | exact KeP.tr (by assumption) (ih _ _ _ _ _ _ _ _) | refine ke_ite ?_ ?_ | refine ke_gd ?_ | refine ke_bindO (by first | exact KeP.tr (by assumption) (ke_F_X9_pass _ _ _ _ _ _) | exact KeP.tr (by assumption) (ke_F_X7_windInAll _ _) | exact KeP.tr (by assumption) (ke_B_X2_windiest_99 _ (by assumption) _ _ _ _ _ _ _ _) | exact KeP.tr (by assumption) (ih _ _ _ _ _ _ _ _)) (fun _ _ => ?_) | refine ke_bindS (by first | exact KeS.tr (by assumption) (kes_pi _ _ _ _ _) | exact KeS.tr (by assumption) (kes_st _ _ _ _ _) | exact KeS.tr (by assumption) (kes_stl _ _ _ _) | exact KeS.tr (by assumption) (kes_cp _ _ _ _ _ _)) (fun _ _ => ?_) | refine ke_bindV (fun _ => ?_))
set_option maxRecDepth 4000 in
theorem ke_F_X2_windiest (x0 : Nat) (x1 : Int32) (x2 : Int32) (t : mk_S) : KeP t (F_X2_windiest x0 x1 x2 t) := by
  have h0 : Ke t t := Ke.rf
  unfold F_X2_windiest
  repeat' (with_reducible first | exact ke_none | exact ke_some (by assumption) | exact ke_rz (by assumption) | exact KeP.tr (by assumption) (ke_F_X7_copyFrom _ _ _) | exact KeP.tr (by assumption) (ke_F_X2_inForce _ _) | exact KeP.tr (by assumption) (ke_B_X2_windiest_37 _ _ _ _ _ _ _ _ _) | refine ke_ite ?_ ?_ | refine ke_gd ?_ | refine ke_bindO (by first | exact KeP.tr (by assumption) (ke_F_X7_copyFrom _ _ _) | exact KeP.tr (by assumption) (ke_F_X2_inForce _ _) | exact KeP.tr (by assumption) (ke_B_X2_windiest_37 _ _ _ _ _ _ _ _ _)) (fun _ _ => ?_) | refine ke_bindS (by first | exact KeS.tr (by assumption) (kes_pi _ _ _ _ _) | exact KeS.tr (by assumption) (kes_st _ _ _ _ _) | exact KeS.tr (by assumption) (kes_stl _ _ _ _) | exact KeS.tr (by assumption) (kes_cp _ _ _ _ _ _)) (fun _ _ => ?_) | refine ke_bindV (fun _ => ?_))
set_option maxRecDepth 4000 in
theorem ke_B_X2_playTwo_47 : ∀ (n : Nat) (x0 : Nat) (x1 : Int32) (x2 : Int32) (x3 : Int32) (x4 : Int32) (x5 : Option Nat) (x6 : Int32) (t : mk_S), KeP t (B_X2_playTwo_47  n x0 x1 x2 x3 x4 x5 x6 t) := by
  intro n
  induction n with
  | zero =>
    intro x0 x1 x2 x3 x4 x5 x6 t
    exact ke_none
  | succ n ih =>
    intro x0 x1 x2 x3 x4 x5 x6 t
    have h0 : Ke t t := Ke.rf
    rw [B_X2_playTwo_47]
    repeat' (with_reducible first | exact ke_none | exact ke_some (by assumption) | exact ke_rz (by assumption) | exact KeP.tr (by assumption) (ke_F_X9_pass _ _ _ _ _ _) | exact KeP.tr (by assumption) (ih _ _ _ _ _ _ _ _) | refine ke_ite ?_ ?_ | refine ke_gd ?_ | refine ke_bindO (by first | exact KeP.tr (by assumption) (ke_F_X9_pass _ _ _ _ _ _) | exact KeP.tr (by assumption) (ih _ _ _ _ _ _ _ _)) (fun _ _ => ?_) | refine ke_bindS (by first | exact KeS.tr (by assumption) (kes_pi _ _ _ _ _) | exact KeS.tr (by assumption) (kes_st _ _ _ _ _) | exact KeS.tr (by assumption) (kes_stl _ _ _ _) | exact KeS.tr (by assumption) (kes_cp _ _ _ _ _ _)) (fun _ _ => ?_) | refine ke_bindV (fun _ => ?_))
set_option maxRecDepth 4000 in
theorem ke_F_X2_playTwo (x0 : Nat) (x1 : Int32) (x2 : Int32) (x3 : Int32) (x4 : Int32) (t : mk_S) : KeP t (F_X2_playTwo x0 x1 x2 x3 x4 t) := by
  have h0 : Ke t t := Ke.rf
  unfold F_X2_playTwo
  repeat' (with_reducible first | exact ke_none | exact ke_some (by assumption) | exact ke_rz (by assumption) | exact KeP.tr (by assumption) (ke_F_X7_copyFrom _ _ _) | exact KeP.tr (by assumption) (ke_F_X2_inForce _ _) | exact KeP.tr (by assumption) (ke_B_X2_playTwo_47 _ _ _ _ _ _ _ _ _) | refine ke_ite ?_ ?_ | refine ke_gd ?_ | refine ke_bindO (by first | exact KeP.tr (by assumption) (ke_F_X7_copyFrom _ _ _) | exact KeP.tr (by assumption) (ke_F_X2_inForce _ _) | exact KeP.tr (by assumption) (ke_B_X2_playTwo_47 _ _ _ _ _ _ _ _ _)) (fun _ _ => ?_) | refine ke_bindS (by first | exact KeS.tr (by assumption) (kes_pi _ _ _ _ _) | exact KeS.tr (by assumption) (kes_st _ _ _ _ _) | exact KeS.tr (by assumption) (kes_stl _ _ _ _) | exact KeS.tr (by assumption) (kes_cp _ _ _ _ _ _)) (fun _ _ => ?_) | refine ke_bindV (fun _ => ?_))
set_option maxRecDepth 4000 in
theorem ke_B_X2_isRest_2 : ∀ (n : Nat) (x0 : Nat) (x1 : Int32) (x2 : Int32) (t : mk_S), KeP t (B_X2_isRest_2  n x0 x1 x2 t) := by
  intro n
  induction n with
  | zero =>
    intro x0 x1 x2 t
    exact ke_none
  | succ n ih =>
    intro x0 x1 x2 t
    have h0 : Ke t t := Ke.rf
    rw [B_X2_isRest_2]
    repeat' (with_reducible first | exact ke_none | exact ke_some (by assumption) | exact ke_rz (by assumption) | exact KeP.tr (by assumption) (ih _ _ _ _) | refine ke_ite ?_ ?_ | refine ke_gd ?_ | refine ke_bindO (by first | exact KeP.tr (by assumption) (ih _ _ _ _)) (fun _ _ => ?_) | refine ke_bindS (by first | exact KeS.tr (by assumption) (kes_pi _ _ _ _ _) | exact KeS.tr (by assumption) (kes_st _ _ _ _ _) | exact KeS.tr (by assumption) (kes_stl _ _ _ _) | exact KeS.tr (by assumption) (kes_cp _ _ _ _ _ _)) (fun _ _ => ?_) | refine ke_bindV (fun _ => ?_))
set_option maxRecDepth 4000 in
theorem ke_F_X2_isRest (x0 : Nat) (x1 : Int32) (t : mk_S) : KeP t (F_X2_isRest x0 x1 t) := by
  have h0 : Ke t t := Ke.rf
  unfold F_X2_isRest
  repeat' (with_reducible first | exact ke_none | exact ke_some (by assumption) | exact ke_rz (by assumption) | exact KeP.tr (by assumption) (ke_B_X2_isRest_2 _ _ _ _ _) | refine ke_ite ?_ ?_ | refine ke_gd ?_ | refine ke_bindO (by first | exact KeP.tr (by assumption) (ke_B_X2_isRest_2 _ _ _ _ _)) (fun _ _ => ?_) | refine ke_bindS (by first | exact KeS.tr (by assumption) (kes_pi _ _ _ _ _) | exact KeS.tr (by assumption) (kes_st _ _ _ _ _) | exact KeS.tr (by assumption) (kes_stl _ _ _ _) | exact KeS.tr (by assumption) (kes_cp _ _ _ _ _ _)) (fun _ _ => ?_) | refine ke_bindV (fun _ => ?_))
set_option maxRecDepth 4000 in
theorem ke_B_X2_restsOf_67 (k34 : Nat → Int32 → Int32 → Int32 → Int32 → mk_S → Option (Int32 × mk_S)) (h_k34 : ∀ (y0 : Nat) (y1 : Int32) (y2 : Int32) (y3 : Int32) (y4 : Int32) (y5 : mk_S), KeP y5 (k34 y0 y1 y2 y3 y4 y5)) (x0 : Nat) (x4 : Int32) (x5 : Int32) (x6 : Int32) (x7 : Int32) (t : mk_S) : KeP t (B_X2_restsOf_67 k34 x0 x4 x5 x6 x7 t) := by
  have h0 : Ke t t := Ke.rf
  unfold B_X2_restsOf_67
  repeat' (with_reducible first | exact ke_none | exact ke_some (by assumption) | exact ke_rz (by assumption) | exact KeP.tr (by assumption) (h_k34 _ _ _ _ _ _) | refine ke_ite ?_ ?_ | refine ke_gd ?_ | refine ke_bindO (by first | exact KeP.tr (by assumption) (h_k34 _ _ _ _ _ _)) (fun _ _ => ?_) | refine ke_bindS (by first | exact KeS.tr (by assumption) (kes_pi _ _ _ _ _) | exact KeS.tr (by assumption) (kes_st _ _ _ _ _) | exact KeS.tr (by assumption) (kes_stl _ _ _ _) | exact KeS.tr (by assumption) (kes_cp _ _ _ _ _ _)) (fun _ _ => ?_) | refine ke_bindV (fun _ => ?_))
set_option maxRecDepth 4000 in
theorem ke_B_X2_restsOf_62 (k34 : Nat → Int32 → Int32 → Int32 → Int32 → mk_S → Option (Int32 × mk_S)) (h_k34 : ∀ (y0 : Nat) (y1 : Int32) (y2 : Int32) (y3 : Int32) (y4 : Int32) (y5 : mk_S), KeP y5 (k34 y0 y1 y2 y3 y4 y5)) (x0 : Nat) (x4 : Int32) (x5 : Int32) (x7 : Int32) (s0 : Int32) (t : mk_S) : KeP t (B_X2_restsOf_62 k34 x0 x4 x5 x7 s0 t) := by
  have h0 : Ke t t := Ke.rf
  unfold B_X2_restsOf_62
  repeat' (with_reducible first | exact ke_none | exact ke_some (by assumption) | exact ke_rz (by assumption) | exact KeP.tr (by assumption) (ke_B_X2_restsOf_67 _ (by assumption) _ _ _ _ _ _) | exact KeP.tr (by assumption) (h_k34 _ _ _ _ _ _) | refine ke_ite ?_ ?_ | refine ke_gd ?_ | refine ke_bindO (by first | exact KeP.tr (by assumption) (ke_B_X2_restsOf_67 _ (by assumption) _ _ _ _ _ _) | exact KeP.tr (by assumption) (h_k34 _ _ _ _ _ _)) (fun _ _ => ?_) | refine ke_bindS (by first | exact KeS.tr (by assumption) (kes_pi _ _ _ _ _) | exact KeS.tr (by assumption) (kes_st _ _ _ _ _) | exact KeS.tr (by assumption) (kes_stl _ _ _ _) | exact KeS.tr (by assumption) (kes_cp _ _ _ _ _ _)) (fun _ _ => ?_) | refine ke_bindV (fun _ => ?_))
set_option maxRecDepth 4000 in
theorem ke_B_X2_restsOf_34 : ∀ (n : Nat) (x0 : Nat) (x4 : Int32) (x5 : Int32) (x6 : Int32) (x7 : Int32) (t : mk_S), KeP t (B_X2_restsOf_34  n x0 x4 x5 x6 x7 t) := by
  intro n
  induction n with
  | zero =>
    intro x0 x4 x5 x6 x7 t
    exact ke_none
  | succ n ih =>
    intro x0 x4 x5 x6 x7 t
    have h0 : Ke t t := Ke.rf
    rw [B_X2_restsOf_34]
    repeat' (with_reducible first | exact ke_none | exact ke_some (by assumption) | exact ke_rz (by assumption) | exact KeP.tr (by assumption) (ke_F_X2_isRest _ _ _) | exact KeP.tr (by assumption) (ke_B_X2_restsOf_67 _ (by assumption) _ _ _ _ _ _) | exact KeP.tr (by assumption) (ke_B_X2_restsOf_62 _ (by assumption) _ _ _ _ _ _) | exact KeP.tr (by assumption) (ih _ _ _ _ _ _) | refine ke_ite ?_ ?_ | refine ke_gd ?_ | refine ke_bindO (by first | exact KeP.tr (by assumption) (ke_F_X2_isRest _ _ _) | exact KeP.tr (by assumption) (ke_B_X2_restsOf_67 _ (by assumption) _ _ _ _ _ _) | exact KeP.tr (by assumption) (ke_B_X2_restsOf_62 _ (by assumption) _ _ _ _ _ _) | exact KeP.tr (by assumption) (ih _ _ _ _ _ _)) (fun _ _ => ?_) | refine ke_bindS (by first | exact KeS.tr (by assumption) (kes_pi _ _ _ _ _) | exact KeS.tr (by assumption) (kes_st _ _ _ _ _) | exact KeS.tr (by assumption) (kes_stl _ _ _ _) | exact KeS.tr (by assumption) (kes_cp _ _ _ _ _ _)) (fun _ _ => ?_) | refine ke_bindV (fun _ => ?_))
set_option maxRecDepth 4000 in
theorem ke_B_X2_restsOf_3 : ∀ (n : Nat) (x0 : Nat) (x1 : Int32) (x2 : Int32) (x3 : Int32) (x4 : Int32) (x5 : Int32) (t : mk_S), KeP t (B_X2_restsOf_3  n x0 x1 x2 x3 x4 x5 t) := by
  intro n
  induction n with
  | zero =>
    intro x0 x1 x2 x3 x4 x5 t
    exact ke_none
  | succ n ih =>
    intro x0 x1 x2 x3 x4 x5 t
    have h0 : Ke t t := Ke.rf
    rw [B_X2_restsOf_3]
    repeat' (with_reducible first | exact ke_none | exact ke_some (by assumption) | exact ke_rz (by assumption) | exact KeP.tr (by assumption) (ke_B_X2_restsOf_34 _ _ _ _ _ _ _) | exact KeP.tr (by assumption) (ke_F_X2_playTwo _ _ _ _ _ _) | exact KeP.tr (by assumption) (ih _ _ _ _ _ _ _) | refine ke_ite ?_ ?_ | refine ke_gd ?_ | refine ke_bindO (by first | exact KeP.tr (by assumption) (ke_B_X2_restsOf_34 _ _ _ _ _ _ _) | exact KeP.tr (by assumption) (ke_F_X2_playTwo _ _ _ _ _ _) | exact KeP.tr (by assumption) (ih _ _ _ _ _ _ _)) (fun _ _ => ?_) | refine ke_bindS (by first | exact KeS.tr (by assumption) (kes_pi _ _ _ _ _) | exact KeS.tr (by assumption) (kes_st _ _ _ _ _) | exact KeS.tr (by assumption) (kes_stl _ _ _ _) | exact KeS.tr (by assumption) (kes_cp _ _ _ _ _ _)) (fun _ _ => ?_) | refine ke_bindV (fun _ => ?_))
set_option maxRecDepth 4000 in
theorem ke_F_X2_restsOf (x0 : Nat) (x1 : Int32) (x2 : Int32) (x3 : Int32) (x4 : Int32) (t : mk_S) : KeP t (F_X2_restsOf x0 x1 x2 x3 x4 t) := by
  have h0 : Ke t t := Ke.rf
  unfold F_X2_restsOf
  repeat' (with_reducible first | exact ke_none | exact ke_some (by assumption) | exact ke_rz (by assumption) | exact KeP.tr (by assumption) (ke_B_X2_restsOf_3 _ _ _ _ _ _ _ _) | refine ke_ite ?_ ?_ | refine ke_gd ?_ | refine ke_bindO (by first | exact KeP.tr (by assumption) (ke_B_X2_restsOf_3 _ _ _ _ _ _ _ _)) (fun _ _ => ?_) | refine ke_bindS (by first | exact KeS.tr (by assumption) (kes_pi _ _ _ _ _) | exact KeS.tr (by assumption) (kes_st _ _ _ _ _) | exact KeS.tr (by assumption) (kes_stl _ _ _ _) | exact KeS.tr (by assumption) (kes_cp _ _ _ _ _ _)) (fun _ _ => ?_) | refine ke_bindV (fun _ => ?_))
set_option maxRecDepth 4000 in
theorem ke_F_X7_begin (x0 : Nat) (x1 : Nat) (t : mk_S) : KeP t (F_X7_begin x0 x1 t) := by
  have h0 : Ke t t := Ke.rf
  unfold F_X7_begin
  repeat' (with_reducible first | exact ke_none | exact ke_some (by assumption) | exact ke_rz (by assumption) | exact KeP.tr (by assumption) (ke_F_J7_fill_53178 _ _ _) | refine ke_ite ?_ ?_ | refine ke_gd ?_ | refine ke_bindO (by first | exact KeP.tr (by assumption) (ke_F_J7_fill_53178 _ _ _)) (fun _ _ => ?_) | refine ke_bindS (by first | exact KeS.tr (by assumption) (kes_pi _ _ _ _ _) | exact KeS.tr (by assumption) (kes_st _ _ _ _ _) | exact KeS.tr (by assumption) (kes_stl _ _ _ _) | exact KeS.tr (by assumption) (kes_cp _ _ _ _ _ _)) (fun _ _ => ?_) | refine ke_bindV (fun _ => ?_))
set_option maxRecDepth 4000 in
theorem ke_B_X2_isFitting_27 : ∀ (n : Nat) (x0 : Nat) (x1 : Option Nat) (x2 : Int32) (x3 : Int32) (t : mk_S), KeP t (B_X2_isFitting_27  n x0 x1 x2 x3 t) := by
  intro n
  induction n with
  | zero =>
    intro x0 x1 x2 x3 t
    exact ke_none
  | succ n ih =>
    intro x0 x1 x2 x3 t
    have h0 : Ke t t := Ke.rf
    rw [B_X2_isFitting_27]
    repeat' (with_reducible first | exact ke_none | exact ke_some (by assumption) | exact ke_rz (by assumption) | exact KeP.tr (by assumption) (ke_F_X9_pass _ _ _ _ _ _) | exact KeP.tr (by assumption) (ke_F_X1_areSo _ _ _ _) | exact KeP.tr (by assumption) (ih _ _ _ _ _) | refine ke_ite ?_ ?_ | refine ke_gd ?_ | refine ke_bindO (by first | exact KeP.tr (by assumption) (ke_F_X9_pass _ _ _ _ _ _) | exact KeP.tr (by assumption) (ke_F_X1_areSo _ _ _ _) | exact KeP.tr (by assumption) (ih _ _ _ _ _)) (fun _ _ => ?_) | refine ke_bindS (by first | exact KeS.tr (by assumption) (kes_pi _ _ _ _ _) | exact KeS.tr (by assumption) (kes_st _ _ _ _ _) | exact KeS.tr (by assumption) (kes_stl _ _ _ _) | exact KeS.tr (by assumption) (kes_cp _ _ _ _ _ _)) (fun _ _ => ?_) | refine ke_bindV (fun _ => ?_))
set_option maxRecDepth 4000 in
theorem ke_F_X2_isFitting (x0 : Nat) (x1 : Option Nat) (t : mk_S) : KeP t (F_X2_isFitting x0 x1 t) := by
  have h0 : Ke t t := Ke.rf
  unfold F_X2_isFitting
  repeat' (with_reducible first | exact ke_none | exact ke_some (by assumption) | exact ke_rz (by assumption) | exact KeP.tr (by assumption) (ke_F_X7_begin _ _ _) | exact KeP.tr (by assumption) (ke_F_X1_lastHour _ _) | exact KeP.tr (by assumption) (ke_B_X2_isFitting_27 _ _ _ _ _ _) | refine ke_ite ?_ ?_ | refine ke_gd ?_ | refine ke_bindO (by first | exact KeP.tr (by assumption) (ke_F_X7_begin _ _ _) | exact KeP.tr (by assumption) (ke_F_X1_lastHour _ _) | exact KeP.tr (by assumption) (ke_B_X2_isFitting_27 _ _ _ _ _ _)) (fun _ _ => ?_) | refine ke_bindS (by first | exact KeS.tr (by assumption) (kes_pi _ _ _ _ _) | exact KeS.tr (by assumption) (kes_st _ _ _ _ _) | exact KeS.tr (by assumption) (kes_stl _ _ _ _) | exact KeS.tr (by assumption) (kes_cp _ _ _ _ _ _)) (fun _ _ => ?_) | refine ke_bindV (fun _ => ?_))
set_option maxRecDepth 4000 in
theorem ke_B_X2_fitting_32 (k4 : Nat → Int32 → Int32 → mk_S → Option (Int32 × mk_S)) (h_k4 : ∀ (y0 : Nat) (y1 : Int32) (y2 : Int32) (y3 : mk_S), KeP y3 (k4 y0 y1 y2 y3)) (x0 : Nat) (x1 : Int32) (x2 : Int32) (t : mk_S) : KeP t (B_X2_fitting_32 k4 x0 x1 x2 t) := by
  have h0 : Ke t t := Ke.rf
  unfold B_X2_fitting_32
  repeat' (with_reducible first | exact ke_none | exact ke_some (by assumption) | exact ke_rz (by assumption) | exact KeP.tr (by assumption) (h_k4 _ _ _ _) | refine ke_ite ?_ ?_ | refine ke_gd ?_ | refine ke_bindO (by first | exact KeP.tr (by assumption) (h_k4 _ _ _ _)) (fun _ _ => ?_) | refine ke_bindS (by first | exact KeS.tr (by assumption) (kes_pi _ _ _ _ _) | exact KeS.tr (by assumption) (kes_st _ _ _ _ _) | exact KeS.tr (by assumption) (kes_stl _ _ _ _) | exact KeS.tr (by assumption) (kes_cp _ _ _ _ _ _)) (fun _ _ => ?_) | refine ke_bindV (fun _ => ?_))
set_option maxRecDepth 4000 in
theorem ke_B_X2_fitting_4 : ∀ (n : Nat) (x0 : Nat) (x1 : Int32) (x2 : Int32) (t : mk_S), KeP t (B_X2_fitting_4  n x0 x1 x2 t) := by
  intro n
  induction n with
  | zero =>
    intro x0 x1 x2 t
    exact ke_none
  | succ n ih =>
    intro x0 x1 x2 t
    have h0 : Ke t t := Ke.rf
    rw [B_X2_fitting_4]
    repeat' (with_reducible first | exact ke_none | exact ke_some (by assumption) | exact ke_rz (by assumption) | exact KeP.tr (by assumption) (ke_F_X2_numbered _ _ _) | exact KeP.tr (by assumption) (ke_F_X2_isFitting _ _ _) | exact KeP.tr (by assumption) (ke_B_X2_fitting_32 _ (by assumption) _ _ _ _) | exact KeP.tr (by assumption) (ih _ _ _ _) | refine ke_ite ?_ ?_ | refine ke_gd ?_ | refine ke_bindO (by first | exact KeP.tr (by assumption) (ke_F_X2_numbered _ _ _) | exact KeP.tr (by assumption) (ke_F_X2_isFitting _ _ _) | exact KeP.tr (by assumption) (ke_B_X2_fitting_32 _ (by assumption) _ _ _ _) | exact KeP.tr (by assumption) (ih _ _ _ _)) (fun _ _ => ?_) | refine ke_bindS (by first | exact KeS.tr (by assumption) (kes_pi _ _ _ _ _) | exact KeS.tr (by assumption) (kes_st _ _ _ _ _) | exact KeS.tr (by assumption) (kes_stl _ _ _ _) | exact KeS.tr (by assumption) (kes_cp _ _ _ _ _ _)) (fun _ _ => ?_) | refine ke_bindV (fun _ => ?_))
set_option maxRecDepth 4000 in
theorem ke_F_X2_fitting (x0 : Nat) (t : mk_S) : KeP t (F_X2_fitting x0 t) := by
  have h0 : Ke t t := Ke.rf
  unfold F_X2_fitting
  repeat' (with_reducible first | exact ke_none | exact ke_some (by assumption) | exact ke_rz (by assumption) | exact KeP.tr (by assumption) (ke_B_X2_fitting_4 _ _ _ _ _) | refine ke_ite ?_ ?_ | refine ke_gd ?_ | refine ke_bindO (by first | exact KeP.tr (by assumption) (ke_B_X2_fitting_4 _ _ _ _ _)) (fun _ _ => ?_) | refine ke_bindS (by first | exact KeS.tr (by assumption) (kes_pi _ _ _ _ _) | exact KeS.tr (by assumption) (kes_st _ _ _ _ _) | exact KeS.tr (by assumption) (kes_stl _ _ _ _) | exact KeS.tr (by assumption) (kes_cp _ _ _ _ _ _)) (fun _ _ => ?_) | refine ke_bindV (fun _ => ?_))
set_option maxRecDepth 4000 in
theorem ke_B_X2_fillWinds_92 (k2 : Nat → Int32 → Int32 → Int32 → mk_S → Option (Unit × mk_S)) (h_k2 : ∀ (y0 : Nat) (y1 : Int32) (y2 : Int32) (y3 : Int32) (y4 : mk_S), KeP y4 (k2 y0 y1 y2 y3 y4)) (x0 : Nat) (x1 : Int32) (x2 : Int32) (x3 : Int32) (t : mk_S) : KeP t (B_X2_fillWinds_92 k2 x0 x1 x2 x3 t) := by
  have h0 : Ke t t := Ke.rf
  unfold B_X2_fillWinds_92
  repeat' (with_reducible first | exact ke_none | exact ke_some (by assumption) | exact ke_rz (by assumption) | exact KeP.tr (by assumption) (h_k2 _ _ _ _ _) | refine ke_ite ?_ ?_ | refine ke_gd ?_ | refine ke_bindO (by first | exact KeP.tr (by assumption) (h_k2 _ _ _ _ _)) (fun _ _ => ?_) | refine ke_bindS (by first | exact KeS.tr (by assumption) (kes_pi _ _ _ _ _) | exact KeS.tr (by assumption) (kes_st _ _ _ _ _) | exact KeS.tr (by assumption) (kes_stl _ _ _ _) | exact KeS.tr (by assumption) (kes_cp _ _ _ _ _ _)) (fun _ _ => ?_) | refine ke_bindV (fun _ => ?_))
set_option maxRecDepth 4000 in
theorem ke_B_X2_fillWinds_33 (k2 : Nat → Int32 → Int32 → Int32 → mk_S → Option (Unit × mk_S)) (h_k2 : ∀ (y0 : Nat) (y1 : Int32) (y2 : Int32) (y3 : Int32) (y4 : mk_S), KeP y4 (k2 y0 y1 y2 y3 y4)) : ∀ (n : Nat) (x0 : Nat) (x1 : Int32) (x2 : Int32) (x3 : Int32) (x4 : Int32) (t : mk_S), KeP t (B_X2_fillWinds_33 k2 n x0 x1 x2 x3 x4 t) := by
  intro n
  induction n with
  | zero =>
    intro x0 x1 x2 x3 x4 t
    exact ke_none
  | succ n ih =>
    intro x0 x1 x2 x3 x4 t
    have h0 : Ke t t := Ke.rf
    rw [B_X2_fillWinds_33]
    repeat' (with_reducible first | exact ke_none | exact ke_some (by assumption) | exact ke_rz (by assumption) | exact KeP.tr (by assumption) (ke_B_X2_fillWinds_92 _ (by assumption) _ _ _ _ _) | exact KeP.tr (by assumption) (ke_F_X2_numbered _ _ _) | exact KeP.tr (by assumption) (ke_F_X9_pass _ _ _ _ _ _) | exact KeP.tr (by assumption) (h_k2 _ _ _ _ _) | exact KeP.tr (by assumption) (ih _ _ _ _ _ _) | refine ke_ite ?_ ?_ | refine ke_gd ?_ | refine ke_bindO (by first | exact KeP.tr (by assumption) (ke_B_X2_fillWinds_92 _ (by assumption) _ _ _ _ _) | exact KeP.tr (by assumption) (ke_F_X2_numbered _ _ _) | exact KeP.tr (by assumption) (ke_F_X9_pass _ _ _ _ _ _) | exact KeP.tr (by assumption) (h_k2 _ _ _ _ _) | exact KeP.tr (by assumption) (ih _ _ _ _ _ _)) (fun _ _ => ?_) | refine ke_bindS (by first | exact KeS.tr (by assumption) (kes_pi _ _ _ _ _) | exact KeS.tr (by assumption) (kes_st _ _ _ _ _) | exact KeS.tr (by assumption) (kes_stl _ _ _ _) | exact KeS.tr (by assumption) (kes_cp _ _ _ _ _ _)) (fun _ _ => ?_) | refine ke_bindV (fun _ => ?_))
set_option maxRecDepth 4000 in
theorem ke_B_X2_fillWinds_2 : ∀ (n : Nat) (x0 : Nat) (x1 : Int32) (x2 : Int32) (x3 : Int32) (t : mk_S), KeP t (B_X2_fillWinds_2  n x0 x1 x2 x3 t) := by
  intro n
  induction n with
  | zero =>
    intro x0 x1 x2 x3 t
    exact ke_none
  | succ n ih =>
    intro x0 x1 x2 x3 t
    have h0 : Ke t t := Ke.rf
    rw [B_X2_fillWinds_2]
    repeat' (with_reducible first | exact ke_none | exact ke_some (by assumption) | exact ke_rz (by assumption) | exact KeP.tr (by assumption) (ke_B_X2_fillWinds_92 _ (by assumption) _ _ _ _ _) | exact KeP.tr (by assumption) (ke_F_X7_begin _ _ _) | exact KeP.tr (by assumption) (ke_B_X2_fillWinds_33 _ (by assumption) _ _ _ _ _ _ _) | exact KeP.tr (by assumption) (ih _ _ _ _ _) | refine ke_ite ?_ ?_ | refine ke_gd ?_ | refine ke_bindO (by first | exact KeP.tr (by assumption) (ke_B_X2_fillWinds_92 _ (by assumption) _ _ _ _ _) | exact KeP.tr (by assumption) (ke_F_X7_begin _ _ _) | exact KeP.tr (by assumption) (ke_B_X2_fillWinds_33 _ (by assumption) _ _ _ _ _ _ _) | exact KeP.tr (by assumption) (ih _ _ _ _ _)) (fun _ _ => ?_) | refine ke_bindS (by first | exact KeS.tr (by assumption) (kes_pi _ _ _ _ _) | exact KeS.tr (by assumption) (kes_st _ _ _ _ _) | exact KeS.tr (by assumption) (kes_stl _ _ _ _) | exact KeS.tr (by assumption) (kes_cp _ _ _ _ _ _)) (fun _ _ => ?_) | refine ke_bindV (fun _ => ?_))
set_option maxRecDepth 4000 in
theorem ke_F_X2_fillWinds (x0 : Nat) (x1 : Int32) (x2 : Int32) (t : mk_S) : KeP t (F_X2_fillWinds x0 x1 x2 t) := by
  have h0 : Ke t t := Ke.rf
  unfold F_X2_fillWinds
  repeat' (with_reducible first | exact ke_none | exact ke_some (by assumption) | exact ke_rz (by assumption) | exact KeP.tr (by assumption) (ke_B_X2_fillWinds_2 _ _ _ _ _ _) | refine ke_ite ?_ ?_ | refine ke_gd ?_ | refine ke_bindO (by first | exact KeP.tr (by assumption) (ke_B_X2_fillWinds_2 _ _ _ _ _ _)) (fun _ _ => ?_) | refine ke_bindS (by first | exact KeS.tr (by assumption) (kes_pi _ _ _ _ _) | exact KeS.tr (by assumption) (kes_st _ _ _ _ _) | exact KeS.tr (by assumption) (kes_stl _ _ _ _) | exact KeS.tr (by assumption) (kes_cp _ _ _ _ _ _)) (fun _ _ => ?_) | refine ke_bindV (fun _ => ?_))
set_option maxRecDepth 4000 in
theorem ke_B_X2_mostAlike_75 (k5 : Nat → Int32 → Int32 → Int32 → Int32 → mk_S → Option (Int32 × mk_S)) (h_k5 : ∀ (y0 : Nat) (y1 : Int32) (y2 : Int32) (y3 : Int32) (y4 : Int32) (y5 : mk_S), KeP y5 (k5 y0 y1 y2 y3 y4 y5)) (k18 : Nat → Int32 → Int32 → Int32 → Int32 → Int32 → Int32 → mk_S → Option (Int32 × mk_S)) (h_k18 : ∀ (y0 : Nat) (y1 : Int32) (y2 : Int32) (y3 : Int32) (y4 : Int32) (y5 : Int32) (y6 : Int32) (y7 : mk_S), KeP y7 (k18 y0 y1 y2 y3 y4 y5 y6 y7)) (x0 : Nat) (x1 : Int32) (x2 : Int32) (x3 : Int32) (x4 : Int32) (x5 : Int32) (x6 : Int32) (t : mk_S) : KeP t (B_X2_mostAlike_75 k5 k18 x0 x1 x2 x3 x4 x5 x6 t) := by
  have h0 : Ke t t := Ke.rf
  unfold B_X2_mostAlike_75
  repeat' (with_reducible first | exact ke_none | exact ke_some (by assumption) | exact ke_rz (by assumption) | exact KeP.tr (by assumption) (h_k5 _ _ _ _ _ _) | exact KeP.tr (by assumption) (h_k18 _ _ _ _ _ _ _ _) | refine ke_ite ?_ ?_ | refine ke_gd ?_ | refine ke_bindO (by first | exact KeP.tr (by assumption) (h_k5 _ _ _ _ _ _) | exact KeP.tr (by assumption) (h_k18 _ _ _ _ _ _ _ _)) (fun _ _ => ?_) | refine ke_bindS (by first | exact KeS.tr (by assumption) (kes_pi _ _ _ _ _) | exact KeS.tr (by assumption) (kes_st _ _ _ _ _) | exact KeS.tr (by assumption) (kes_stl _ _ _ _) | exact KeS.tr (by assumption) (kes_cp _ _ _ _ _ _)) (fun _ _ => ?_) | refine ke_bindV (fun _ => ?_))
set_option maxRecDepth 4000 in
theorem ke_B_X2_mostAlike_44 (k5 : Nat → Int32 → Int32 → Int32 → Int32 → mk_S → Option (Int32 × mk_S)) (h_k5 : ∀ (y0 : Nat) (y1 : Int32) (y2 : Int32) (y3 : Int32) (y4 : Int32) (y5 : mk_S), KeP y5 (k5 y0 y1 y2 y3 y4 y5)) (k18 : Nat → Int32 → Int32 → Int32 → Int32 → Int32 → Int32 → mk_S → Option (Int32 × mk_S)) (h_k18 : ∀ (y0 : Nat) (y1 : Int32) (y2 : Int32) (y3 : Int32) (y4 : Int32) (y5 : Int32) (y6 : Int32) (y7 : mk_S), KeP y7 (k18 y0 y1 y2 y3 y4 y5 y6 y7)) (x0 : Nat) (x1 : Int32) (x2 : Int32) (x3 : Int32) (x4 : Int32) (x5 : Int32) (x6 : Int32) (s0 : Int32) (t : mk_S) : KeP t (B_X2_mostAlike_44 k5 k18 x0 x1 x2 x3 x4 x5 x6 s0 t) := by
  have h0 : Ke t t := Ke.rf
  unfold B_X2_mostAlike_44
  repeat' (with_reducible first | exact ke_none | exact ke_some (by assumption) | exact ke_rz (by assumption) | exact KeP.tr (by assumption) (ke_B_X2_mostAlike_75 _ (by assumption) _ (by assumption) _ _ _ _ _ _ _ _) | exact KeP.tr (by assumption) (h_k5 _ _ _ _ _ _) | exact KeP.tr (by assumption) (h_k18 _ _ _ _ _ _ _ _) | refine ke_ite ?_ ?_ | refine ke_gd ?_ | refine ke_bindO (by first | exact KeP.tr (by assumption) (ke_B_X2_mostAlike_75 _ (by assumption) _ (by assumption) _ _ _ _ _ _ _ _) | exact KeP.tr (by assumption) (h_k5 _ _ _ _ _ _) | exact KeP.tr (by assumption) (h_k18 _ _ _ _ _ _ _ _)) (fun _ _ => ?_) | refine ke_bindS (by first | exact KeS.tr (by assumption) (kes_pi _ _ _ _ _) | exact KeS.tr (by assumption) (kes_st _ _ _ _ _) | exact KeS.tr (by assumption) (kes_stl _ _ _ _) | exact KeS.tr (by assumption) (kes_cp _ _ _ _ _ _)) (fun _ _ => ?_) | refine ke_bindV (fun _ => ?_))
set_option maxRecDepth 4000 in
theorem ke_B_X2_mostAlike_18 (k5 : Nat → Int32 → Int32 → Int32 → Int32 → mk_S → Option (Int32 × mk_S)) (h_k5 : ∀ (y0 : Nat) (y1 : Int32) (y2 : Int32) (y3 : Int32) (y4 : Int32) (y5 : mk_S), KeP y5 (k5 y0 y1 y2 y3 y4 y5)) : ∀ (n : Nat) (x0 : Nat) (x1 : Int32) (x2 : Int32) (x3 : Int32) (x4 : Int32) (x5 : Int32) (x6 : Int32) (t : mk_S), KeP t (B_X2_mostAlike_18 k5 n x0 x1 x2 x3 x4 x5 x6 t) := by
  intro n
  induction n with
  | zero =>
    intro x0 x1 x2 x3 x4 x5 x6 t
    exact ke_none
  | succ n ih =>
    intro x0 x1 x2 x3 x4 x5 x6 t
    have h0 : Ke t t := Ke.rf
    rw [B_X2_mostAlike_18]
    repeat' (with_reducible first | exact ke_none | exact ke_some (by assumption) | exact ke_rz (by assumption) | exact KeP.tr (by assumption) (ke_B_X2_mostAlike_44 _ (by assumption) _ (by assumption) _ _ _ _ _ _ _ _ _) | exact KeP.tr (by assumption) (h_k5 _ _ _ _ _ _) | exact KeP.tr (by assumption) (ih _ _ _ _ _ _ _ _) | refine ke_ite ?_ ?_ | refine ke_gd ?_ | refine ke_bindO (by first | exact KeP.tr (by assumption) (ke_B_X2_mostAlike_44 _ (by assumption) _ (by assumption) _ _ _ _ _ _ _ _ _) | exact KeP.tr (by assumption) (h_k5 _ _ _ _ _ _) | exact KeP.tr (by assumption) (ih _ _ _ _ _ _ _ _)) (fun _ _ => ?_) | refine ke_bindS (by first | exact KeS.tr (by assumption) (kes_pi _ _ _ _ _) | exact KeS.tr (by assumption) (kes_st _ _ _ _ _) | exact KeS.tr (by assumption) (kes_stl _ _ _ _) | exact KeS.tr (by assumption) (kes_cp _ _ _ _ _ _)) (fun _ _ => ?_) | refine ke_bindV (fun _ => ?_))
set_option maxRecDepth 4000 in
theorem ke_B_X2_mostAlike_5 : ∀ (n : Nat) (x0 : Nat) (x1 : Int32) (x2 : Int32) (x3 : Int32) (x4 : Int32) (t : mk_S), KeP t (B_X2_mostAlike_5  n x0 x1 x2 x3 x4 t) := by
  intro n
  induction n with
  | zero =>
    intro x0 x1 x2 x3 x4 t
    exact ke_none
  | succ n ih =>
    intro x0 x1 x2 x3 x4 t
    have h0 : Ke t t := Ke.rf
    rw [B_X2_mostAlike_5]
    repeat' (with_reducible first | exact ke_none | exact ke_some (by assumption) | exact ke_rz (by assumption) | exact KeP.tr (by assumption) (ke_B_X2_mostAlike_18 _ (by assumption) _ _ _ _ _ _ _ _ _) | exact KeP.tr (by assumption) (ih _ _ _ _ _ _) | refine ke_ite ?_ ?_ | refine ke_gd ?_ | refine ke_bindO (by first | exact KeP.tr (by assumption) (ke_B_X2_mostAlike_18 _ (by assumption) _ _ _ _ _ _ _ _ _) | exact KeP.tr (by assumption) (ih _ _ _ _ _ _)) (fun _ _ => ?_) | refine ke_bindS (by first | exact KeS.tr (by assumption) (kes_pi _ _ _ _ _) | exact KeS.tr (by assumption) (kes_st _ _ _ _ _) | exact KeS.tr (by assumption) (kes_stl _ _ _ _) | exact KeS.tr (by assumption) (kes_cp _ _ _ _ _ _)) (fun _ _ => ?_) | refine ke_bindV (fun _ => ?_))
set_option maxRecDepth 4000 in
theorem ke_F_X2_mostAlike (x0 : Nat) (x1 : Int32) (x2 : Int32) (t : mk_S) : KeP t (F_X2_mostAlike x0 x1 x2 t) := by
  have h0 : Ke t t := Ke.rf
  unfold F_X2_mostAlike
  repeat' (with_reducible first | exact ke_none | exact ke_some (by assumption) | exact ke_rz (by assumption) | exact KeP.tr (by assumption) (ke_B_X2_mostAlike_5 _ _ _ _ _ _ _) | refine ke_ite ?_ ?_ | refine ke_gd ?_ | refine ke_bindO (by first | exact KeP.tr (by assumption) (ke_B_X2_mostAlike_5 _ _ _ _ _ _ _)) (fun _ _ => ?_) | refine ke_bindS (by first | exact KeS.tr (by assumption) (kes_pi _ _ _ _ _) | exact KeS.tr (by assumption) (kes_st _ _ _ _ _) | exact KeS.tr (by assumption) (kes_stl _ _ _ _) | exact KeS.tr (by assumption) (kes_cp _ _ _ _ _ _)) (fun _ _ => ?_) | refine ke_bindV (fun _ => ?_))
set_option maxRecDepth 4000 in
theorem ke_B_X2_bestLook_55 (k16 : Nat → Int32 → Int32 → Int32 → Int32 → Int32 → mk_S → Option (Int32 × mk_S)) (h_k16 : ∀ (y0 : Nat) (y1 : Int32) (y2 : Int32) (y3 : Int32) (y4 : Int32) (y5 : Int32) (y6 : mk_S), KeP y6 (k16 y0 y1 y2 y3 y4 y5 y6)) (x0 : Nat) (x1 : Int32) (x3 : Int32) (x4 : Int32) (x5 : Int32) (x6 : Int32) (t : mk_S) : KeP t (B_X2_bestLook_55 k16 x0 x1 x3 x4 x5 x6 t) := by
  have h0 : Ke t t := Ke.rf
  unfold B_X2_bestLook_55
  repeat' (with_reducible first | exact ke_none | exact ke_some (by assumption) | exact ke_rz (by assumption) | exact KeP.tr (by assumption) (h_k16 _ _ _ _ _ _ _) | refine ke_ite ?_ ?_ | refine ke_gd ?_ | refine ke_bindO (by first | exact KeP.tr (by assumption) (h_k16 _ _ _ _ _ _ _)) (fun _ _ => ?_) | refine ke_bindS (by first | exact KeS.tr (by assumption) (kes_pi _ _ _ _ _) | exact KeS.tr (by assumption) (kes_st _ _ _ _ _) | exact KeS.tr (by assumption) (kes_stl _ _ _ _) | exact KeS.tr (by assumption) (kes_cp _ _ _ _ _ _)) (fun _ _ => ?_) | refine ke_bindV (fun _ => ?_))
set_option maxRecDepth 4000 in
theorem ke_B_X2_bestLook_16 : ∀ (n : Nat) (x0 : Nat) (x1 : Int32) (x3 : Int32) (x4 : Int32) (x5 : Int32) (x6 : Int32) (t : mk_S), KeP t (B_X2_bestLook_16  n x0 x1 x3 x4 x5 x6 t) := by
  intro n
  induction n with
  | zero =>
    intro x0 x1 x3 x4 x5 x6 t
    exact ke_none
  | succ n ih =>
    intro x0 x1 x3 x4 x5 x6 t
    have h0 : Ke t t := Ke.rf
    rw [B_X2_bestLook_16]
    repeat' (with_reducible first | exact ke_none | exact ke_some (by assumption) | exact ke_rz (by assumption) | exact KeP.tr (by assumption) (ke_F_X3_cells _ _) | exact KeP.tr (by assumption) (ke_F_X2_mostAlike _ _ _ _) | exact KeP.tr (by assumption) (ke_B_X2_bestLook_55 _ (by assumption) _ _ _ _ _ _ _) | exact KeP.tr (by assumption) (ih _ _ _ _ _ _ _) | refine ke_ite ?_ ?_ | refine ke_gd ?_ | refine ke_bindO (by first | exact KeP.tr (by assumption) (ke_F_X3_cells _ _) | exact KeP.tr (by assumption) (ke_F_X2_mostAlike _ _ _ _) | exact KeP.tr (by assumption) (ke_B_X2_bestLook_55 _ (by assumption) _ _ _ _ _ _ _) | exact KeP.tr (by assumption) (ih _ _ _ _ _ _ _)) (fun _ _ => ?_) | refine ke_bindS (by first | exact KeS.tr (by assumption) (kes_pi _ _ _ _ _) | exact KeS.tr (by assumption) (kes_st _ _ _ _ _) | exact KeS.tr (by assumption) (kes_stl _ _ _ _) | exact KeS.tr (by assumption) (kes_cp _ _ _ _ _ _)) (fun _ _ => ?_) | refine ke_bindV (fun _ => ?_))
set_option maxRecDepth 4000 in
theorem ke_F_X2_bestLook (x0 : Nat) (x1 : Int32) (x2 : Int32) (x3 : Int32) (t : mk_S) : KeP t (F_X2_bestLook x0 x1 x2 x3 t) := by
  have h0 : Ke t t := Ke.rf
  unfold F_X2_bestLook
  repeat' (with_reducible first | exact ke_none | exact ke_some (by assumption) | exact ke_rz (by assumption) | exact KeP.tr (by assumption) (ke_F_X2_fillWinds _ _ _ _) | exact KeP.tr (by assumption) (ke_B_X2_bestLook_16 _ _ _ _ _ _ _ _) | refine ke_ite ?_ ?_ | refine ke_gd ?_ | refine ke_bindO (by first | exact KeP.tr (by assumption) (ke_F_X2_fillWinds _ _ _ _) | exact KeP.tr (by assumption) (ke_B_X2_bestLook_16 _ _ _ _ _ _ _ _)) (fun _ _ => ?_) | refine ke_bindS (by first | exact KeS.tr (by assumption) (kes_pi _ _ _ _ _) | exact KeS.tr (by assumption) (kes_st _ _ _ _ _) | exact KeS.tr (by assumption) (kes_stl _ _ _ _) | exact KeS.tr (by assumption) (kes_cp _ _ _ _ _ _)) (fun _ _ => ?_) | refine ke_bindV (fun _ => ?_))
set_option maxRecDepth 4000 in
theorem ke_F_X2_draw (x0 : Nat) (t : mk_S) : KeP t (F_X2_draw x0 t) := by
  have h0 : Ke t t := Ke.rf
  unfold F_X2_draw
  repeat' (with_reducible first | exact ke_none | exact ke_some (by assumption) | exact ke_rz (by assumption) | refine ke_ite ?_ ?_ | refine ke_gd ?_ | refine ke_bindS (by first | exact KeS.tr (by assumption) (kes_pi _ _ _ _ _) | exact KeS.tr (by assumption) (kes_st _ _ _ _ _) | exact KeS.tr (by assumption) (kes_stl _ _ _ _) | exact KeS.tr (by assumption) (kes_cp _ _ _ _ _ _)) (fun _ _ => ?_) | refine ke_bindV (fun _ => ?_))
set_option maxRecDepth 4000 in
theorem ke_B_X2_goThroughNotions_72 (k34 : Nat → Int32 → Int32 → Option Nat → Int32 → Int32 → mk_S → Option (Unit × mk_S)) (h_k34 : ∀ (y0 : Nat) (y1 : Int32) (y2 : Int32) (y3 : Option Nat) (y4 : Int32) (y5 : Int32) (y6 : mk_S), KeP y6 (k34 y0 y1 y2 y3 y4 y5 y6)) (x0 : Nat) (x1 : Int32) (x2 : Int32) (x3 : Option Nat) (x4 : Int32) (x5 : Int32) (t : mk_S) : KeP t (B_X2_goThroughNotions_72 k34 x0 x1 x2 x3 x4 x5 t) := by
  have h0 : Ke t t := Ke.rf
  unfold B_X2_goThroughNotions_72
  repeat' (with_reducible first | exact ke_none | exact ke_some (by assumption) | exact ke_rz (by assumption) | exact KeP.tr (by assumption) (ke_F_X9_pass _ _ _ _ _ _) | exact KeP.tr (by assumption) (h_k34 _ _ _ _ _ _ _) | refine ke_ite ?_ ?_ | refine ke_gd ?_ | refine ke_bindO (by first | exact KeP.tr (by assumption) (ke_F_X9_pass _ _ _ _ _ _) | exact KeP.tr (by assumption) (h_k34 _ _ _ _ _ _ _)) (fun _ _ => ?_) | refine ke_bindS (by first | exact KeS.tr (by assumption) (kes_pi _ _ _ _ _) | exact KeS.tr (by assumption) (kes_st _ _ _ _ _) | exact KeS.tr (by assumption) (kes_stl _ _ _ _) | exact KeS.tr (by assumption) (kes_cp _ _ _ _ _ _)) (fun _ _ => ?_) | refine ke_bindV (fun _ => ?_))
set_option maxRecDepth 4000 in
theorem ke_B_X2_goThroughNotions_34 : ∀ (n : Nat) (x0 : Nat) (x1 : Int32) (x2 : Int32) (x3 : Option Nat) (x4 : Int32) (x5 : Int32) (t : mk_S), KeP t (B_X2_goThroughNotions_34  n x0 x1 x2 x3 x4 x5 t) := by
  intro n
  induction n with
  | zero =>
    intro x0 x1 x2 x3 x4 x5 t
    exact ke_none
  | succ n ih =>
    intro x0 x1 x2 x3 x4 x5 t
    have h0 : Ke t t := Ke.rf
    rw [B_X2_goThroughNotions_34]
    repeat' (with_reducible first | exact ke_none | exact ke_some (by assumption) | exact ke_rz (by assumption) | exact KeP.tr (by assumption) (ke_F_X2_draw _ _) | exact KeP.tr (by assumption) (ke_B_X2_goThroughNotions_72 _ (by assumption) _ _ _ _ _ _ _) | exact KeP.tr (by assumption) (ke_F_X7_urgeOn _ _ _ _) | exact KeP.tr (by assumption) (ih _ _ _ _ _ _ _) | refine ke_ite ?_ ?_ | refine ke_gd ?_ | refine ke_bindO (by first | exact KeP.tr (by assumption) (ke_F_X2_draw _ _) | exact KeP.tr (by assumption) (ke_B_X2_goThroughNotions_72 _ (by assumption) _ _ _ _ _ _ _) | exact KeP.tr (by assumption) (ke_F_X7_urgeOn _ _ _ _) | exact KeP.tr (by assumption) (ih _ _ _ _ _ _ _)) (fun _ _ => ?_) | refine ke_bindS (by first | exact KeS.tr (by assumption) (kes_pi _ _ _ _ _) | exact KeS.tr (by assumption) (kes_st _ _ _ _ _) | exact KeS.tr (by assumption) (kes_stl _ _ _ _) | exact KeS.tr (by assumption) (kes_cp _ _ _ _ _ _)) (fun _ _ => ?_) | refine ke_bindV (fun _ => ?_))
set_option maxRecDepth 4000 in
theorem ke_F_X2_goThroughNotions (x0 : Nat) (x1 : Int32) (x2 : Int32) (t : mk_S) : KeP t (F_X2_goThroughNotions x0 x1 x2 t) := by
  have h0 : Ke t t := Ke.rf
  unfold F_X2_goThroughNotions
  repeat' (with_reducible first | exact ke_none | exact ke_some (by assumption) | exact ke_rz (by assumption) | exact KeP.tr (by assumption) (ke_F_X7_copyFrom _ _ _) | exact KeP.tr (by assumption) (ke_F_X2_inForce _ _) | exact KeP.tr (by assumption) (ke_B_X2_goThroughNotions_34 _ _ _ _ _ _ _ _) | refine ke_ite ?_ ?_ | refine ke_gd ?_ | refine ke_bindO (by first | exact KeP.tr (by assumption) (ke_F_X7_copyFrom _ _ _) | exact KeP.tr (by assumption) (ke_F_X2_inForce _ _) | exact KeP.tr (by assumption) (ke_B_X2_goThroughNotions_34 _ _ _ _ _ _ _ _)) (fun _ _ => ?_) | refine ke_bindS (by first | exact KeS.tr (by assumption) (kes_pi _ _ _ _ _) | exact KeS.tr (by assumption) (kes_st _ _ _ _ _) | exact KeS.tr (by assumption) (kes_stl _ _ _ _) | exact KeS.tr (by assumption) (kes_cp _ _ _ _ _ _)) (fun _ _ => ?_) | refine ke_bindV (fun _ => ?_))
set_option maxRecDepth 4000 in
theorem ke_B_X2_yearsOfNotions_20 : ∀ (n : Nat) (x0 : Nat) (x1 : Int32) (x2 : Int32) (x3 : Int32) (x4 : Int32) (x5 : Int32) (x6 : Int32) (x7 : Int32) (t : mk_S), KeP t (B_X2_yearsOfNotions_20  n x0 x1 x2 x3 x4 x5 x6 x7 t) := by
  intro n
  induction n with
  | zero =>
    intro x0 x1 x2 x3 x4 x5 x6 x7 t
    exact ke_none
  | succ n ih =>
    intro x0 x1 x2 x3 x4 x5 x6 x7 t
    have h0 : Ke t t := Ke.rf
    rw [B_X2_yearsOfNotions_20]
    repeat' (with_reducible first | exact ke_none | exact ke_some (by assumption) | exact ke_rz (by assumption) | exact KeP.tr (by assumption) (ke_F_X2_goThroughNotions _ _ _ _) | exact KeP.tr (by assumption) (ke_F_X7_groundInAll _ _) | exact KeP.tr (by assumption) (ke_F_J6_bitCount_0f7a4 _ _) | exact KeP.tr (by assumption) (ih _ _ _ _ _ _ _ _ _) | refine ke_ite ?_ ?_ | refine ke_gd ?_ | refine ke_bindO (by first | exact KeP.tr (by assumption) (ke_F_X2_goThroughNotions _ _ _ _) | exact KeP.tr (by assumption) (ke_F_X7_groundInAll _ _) | exact KeP.tr (by assumption) (ke_F_J6_bitCount_0f7a4 _ _) | exact KeP.tr (by assumption) (ih _ _ _ _ _ _ _ _ _)) (fun _ _ => ?_) | refine ke_bindS (by first | exact KeS.tr (by assumption) (kes_pi _ _ _ _ _) | exact KeS.tr (by assumption) (kes_st _ _ _ _ _) | exact KeS.tr (by assumption) (kes_stl _ _ _ _) | exact KeS.tr (by assumption) (kes_cp _ _ _ _ _ _)) (fun _ _ => ?_) | refine ke_bindV (fun _ => ?_))
set_option maxRecDepth 4000 in
theorem ke_F_X2_yearsOfNotions (x0 : Nat) (x1 : Int32) (x2 : Int32) (x3 : Int32) (x4 : Int32) (t : mk_S) : KeP t (F_X2_yearsOfNotions x0 x1 x2 x3 x4 t) := by
  have h0 : Ke t t := Ke.rf
  unfold F_X2_yearsOfNotions
  repeat' (with_reducible first | exact ke_none | exact ke_some (by assumption) | exact ke_rz (by assumption) | exact KeP.tr (by assumption) (ke_B_X2_yearsOfNotions_20 _ _ _ _ _ _ _ _ _ _) | refine ke_ite ?_ ?_ | refine ke_gd ?_ | refine ke_bindO (by first | exact KeP.tr (by assumption) (ke_B_X2_yearsOfNotions_20 _ _ _ _ _ _ _ _ _ _)) (fun _ _ => ?_) | refine ke_bindS (by first | exact KeS.tr (by assumption) (kes_pi _ _ _ _ _) | exact KeS.tr (by assumption) (kes_st _ _ _ _ _) | exact KeS.tr (by assumption) (kes_stl _ _ _ _) | exact KeS.tr (by assumption) (kes_cp _ _ _ _ _ _)) (fun _ _ => ?_) | refine ke_bindV (fun _ => ?_))
set_option maxRecDepth 4000 in
theorem ke_F_X3_isThere (x0 : Nat) (t : mk_S) : KeP t (F_X3_isThere x0 t) := by
  have h0 : Ke t t := Ke.rf
  unfold F_X3_isThere
  repeat' (with_reducible first | exact ke_none | exact ke_some (by assumption) | exact ke_rz (by assumption) | refine ke_ite ?_ ?_ | refine ke_gd ?_ | refine ke_bindS (by first | exact KeS.tr (by assumption) (kes_pi _ _ _ _ _) | exact KeS.tr (by assumption) (kes_st _ _ _ _ _) | exact KeS.tr (by assumption) (kes_stl _ _ _ _) | exact KeS.tr (by assumption) (kes_cp _ _ _ _ _ _)) (fun _ _ => ?_) | refine ke_bindV (fun _ => ?_))
set_option maxRecDepth 4000 in
theorem ke_F_X3_clear (x0 : Nat) (t : mk_S) : KeP t (F_X3_clear x0 t) := by
  have h0 : Ke t t := Ke.rf
  unfold F_X3_clear
  repeat' (with_reducible first | exact ke_none | exact ke_some (by assumption) | exact ke_rz (by assumption) | refine ke_ite ?_ ?_ | refine ke_gd ?_ | refine ke_bindS (by first | exact KeS.tr (by assumption) (kes_pi _ _ _ _ _) | exact KeS.tr (by assumption) (kes_st _ _ _ _ _) | exact KeS.tr (by assumption) (kes_stl _ _ _ _) | exact KeS.tr (by assumption) (kes_cp _ _ _ _ _ _)) (fun _ _ => ?_) | refine ke_bindV (fun _ => ?_))
set_option maxRecDepth 4000 in
theorem ke_F_X3_copyFrom (x0 : Nat) (x1 : Nat) (t : mk_S) : KeP t (F_X3_copyFrom x0 x1 t) := by
  have h0 : Ke t t := Ke.rf
  unfold F_X3_copyFrom
  repeat' (with_reducible first | exact ke_none | exact ke_some (by assumption) | exact ke_rz (by assumption) | refine ke_ite ?_ ?_ | refine ke_gd ?_ | refine ke_bindS (by first | exact KeS.tr (by assumption) (kes_pi _ _ _ _ _) | exact KeS.tr (by assumption) (kes_st _ _ _ _ _) | exact KeS.tr (by assumption) (kes_stl _ _ _ _) | exact KeS.tr (by assumption) (kes_cp _ _ _ _ _ _)) (fun _ _ => ?_) | refine ke_bindV (fun _ => ?_))
set_option maxRecDepth 4000 in
theorem ke_F_X8_open (x0 : Nat) (t : mk_S) : KeP t (F_X8_open x0 t) := by
  have h0 : Ke t t := Ke.rf
  unfold F_X8_open
  repeat' (with_reducible first | exact ke_none | exact ke_some (by assumption) | exact ke_rz (by assumption) | refine ke_ite ?_ ?_ | refine ke_gd ?_ | refine ke_bindS (by first | exact KeS.tr (by assumption) (kes_pi _ _ _ _ _) | exact KeS.tr (by assumption) (kes_st _ _ _ _ _) | exact KeS.tr (by assumption) (kes_stl _ _ _ _) | exact KeS.tr (by assumption) (kes_cp _ _ _ _ _ _)) (fun _ _ => ?_) | refine ke_bindV (fun _ => ?_))
set_option maxRecDepth 4000 in
theorem ke_B_X8_byteAt_28 (t : mk_S) : KeP t (B_X8_byteAt_28 t) := by
  have h0 : Ke t t := Ke.rf
  unfold B_X8_byteAt_28
  repeat' (with_reducible first | exact ke_none | exact ke_some (by assumption) | exact ke_rz (by assumption) | refine ke_ite ?_ ?_ | refine ke_gd ?_ | refine ke_bindS (by first | exact KeS.tr (by assumption) (kes_pi _ _ _ _ _) | exact KeS.tr (by assumption) (kes_st _ _ _ _ _) | exact KeS.tr (by assumption) (kes_stl _ _ _ _) | exact KeS.tr (by assumption) (kes_cp _ _ _ _ _ _)) (fun _ _ => ?_) | refine ke_bindV (fun _ => ?_))
set_option maxRecDepth 4000 in
theorem ke_F_X8_byteAt (x0 : Nat) (x1 : Int32) (t : mk_S) : KeP t (F_X8_byteAt x0 x1 t) := by
  have h0 : Ke t t := Ke.rf
  unfold F_X8_byteAt
  repeat' (with_reducible first | exact ke_none | exact ke_some (by assumption) | exact ke_rz (by assumption) | exact KeP.tr (by assumption) (ke_B_X8_byteAt_28 _) | refine ke_ite ?_ ?_ | refine ke_gd ?_ | refine ke_bindO (by first | exact KeP.tr (by assumption) (ke_B_X8_byteAt_28 _)) (fun _ _ => ?_) | refine ke_bindS (by first | exact KeS.tr (by assumption) (kes_pi _ _ _ _ _) | exact KeS.tr (by assumption) (kes_st _ _ _ _ _) | exact KeS.tr (by assumption) (kes_stl _ _ _ _) | exact KeS.tr (by assumption) (kes_cp _ _ _ _ _ _)) (fun _ _ => ?_) | refine ke_bindV (fun _ => ?_))
set_option maxRecDepth 4000 in
theorem ke_B_X8_readNumber_86 (k12 : Nat → mk_S → Option (Unit × mk_S)) (h_k12 : ∀ (y0 : Nat) (y1 : mk_S), KeP y1 (k12 y0 y1)) (x0 : Nat) (s0 : Nat) (s1 : Int32) (t : mk_S) : KeP t (B_X8_readNumber_86 k12 x0 s0 s1 t) := by
  have h0 : Ke t t := Ke.rf
  unfold B_X8_readNumber_86
  repeat' (with_reducible first | exact ke_none | exact ke_some (by assumption) | exact ke_rz (by assumption) | exact KeP.tr (by assumption) (h_k12 _ _) | refine ke_ite ?_ ?_ | refine ke_gd ?_ | refine ke_bindO (by first | exact KeP.tr (by assumption) (h_k12 _ _)) (fun _ _ => ?_) | refine ke_bindS (by first | exact KeS.tr (by assumption) (kes_pi _ _ _ _ _) | exact KeS.tr (by assumption) (kes_st _ _ _ _ _) | exact KeS.tr (by assumption) (kes_stl _ _ _ _) | exact KeS.tr (by assumption) (kes_cp _ _ _ _ _ _)) (fun _ _ => ?_) | refine ke_bindV (fun _ => ?_))
set_option maxRecDepth 4000 in
theorem ke_B_X8_readNumber_12 : ∀ (n : Nat) (x0 : Nat) (t : mk_S), KeP t (B_X8_readNumber_12  n x0 t) := by
  intro n
  induction n with
  | zero =>
    intro x0 t
    exact ke_none
  | succ n ih =>
    intro x0 t
    have h0 : Ke t t := Ke.rf
    rw [B_X8_readNumber_12]
    repeat' (with_reducible first | exact ke_none | exact ke_some (by assumption) | exact ke_rz (by assumption) | exact KeP.tr (by assumption) (ke_F_X8_byteAt _ _ _) | exact KeP.tr (by assumption) (ke_B_X8_readNumber_86 _ (by assumption) _ _ _ _) | exact KeP.tr (by assumption) (ih _ _) | refine ke_ite ?_ ?_ | refine ke_gd ?_ | refine ke_bindO (by first | exact KeP.tr (by assumption) (ke_F_X8_byteAt _ _ _) | exact KeP.tr (by assumption) (ke_B_X8_readNumber_86 _ (by assumption) _ _ _ _) | exact KeP.tr (by assumption) (ih _ _)) (fun _ _ => ?_) | refine ke_bindS (by first | exact KeS.tr (by assumption) (kes_pi _ _ _ _ _) | exact KeS.tr (by assumption) (kes_st _ _ _ _ _) | exact KeS.tr (by assumption) (kes_stl _ _ _ _) | exact KeS.tr (by assumption) (kes_cp _ _ _ _ _ _)) (fun _ _ => ?_) | refine ke_bindV (fun _ => ?_))
set_option maxRecDepth 4000 in
theorem ke_F_X8_readNumber (x0 : Nat) (t : mk_S) : KeP t (F_X8_readNumber x0 t) := by
  have h0 : Ke t t := Ke.rf
  unfold F_X8_readNumber
  repeat' (with_reducible first | exact ke_none | exact ke_some (by assumption) | exact ke_rz (by assumption) | exact KeP.tr (by assumption) (ke_B_X8_readNumber_12 _ _ _) | refine ke_ite ?_ ?_ | refine ke_gd ?_ | refine ke_bindO (by first | exact KeP.tr (by assumption) (ke_B_X8_readNumber_12 _ _ _)) (fun _ _ => ?_) | refine ke_bindS (by first | exact KeS.tr (by assumption) (kes_pi _ _ _ _ _) | exact KeS.tr (by assumption) (kes_st _ _ _ _ _) | exact KeS.tr (by assumption) (kes_stl _ _ _ _) | exact KeS.tr (by assumption) (kes_cp _ _ _ _ _ _)) (fun _ _ => ?_) | refine ke_bindV (fun _ => ?_))
