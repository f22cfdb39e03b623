set_option maxRecDepth 4000 in
theorem ke_F_X0_clear (x0 : Nat) (t : mk_S) : KeP t (F_X0_clear x0 t) := by
  have h0 : Ke t t := Ke.rf
  unfold F_X0_clear
  repeat' (with_reducible first | exact ke_none | exact ke_some (by assumption) | exact ke_rz (by assumption) | refine ke_ite ?_ ?_ | refine ke_gd ?_ | refine ke_bindS (by first | exact KeS.tr (by assumption) (kes_pi _ _ _ _ _) | exact KeS.tr (by assumption) (kes_st _ _ _ _ _) | exact KeS.tr (by assumption) (kes_stl _ _ _ _) | exact KeS.tr (by assumption) (kes_cp _ _ _ _ _ _)) (fun _ _ => ?_) | refine ke_bindV (fun _ => ?_))
set_option maxRecDepth 4000 in
theorem ke_F_X7_copyFrom (x0 : Nat) (x1 : Nat) (t : mk_S) : KeP t (F_X7_copyFrom x0 x1 t) := by
  have h0 : Ke t t := Ke.rf
  unfold F_X7_copyFrom
  repeat' (with_reducible first | exact ke_none | exact ke_some (by assumption) | exact ke_rz (by assumption) | refine ke_ite ?_ ?_ | refine ke_gd ?_ | refine ke_bindS (by first | exact KeS.tr (by assumption) (kes_pi _ _ _ _ _) | exact KeS.tr (by assumption) (kes_st _ _ _ _ _) | exact KeS.tr (by assumption) (kes_stl _ _ _ _) | exact KeS.tr (by assumption) (kes_cp _ _ _ _ _ _)) (fun _ _ => ?_) | refine ke_bindV (fun _ => ?_))
set_option maxRecDepth 4000 in
theorem ke_F_X0_keep (x0 : Nat) (x1 : Nat) (t : mk_S) : KeP t (F_X0_keep x0 x1 t) := by
  have h0 : Ke t t := Ke.rf
  unfold F_X0_keep
  repeat' (with_reducible first | exact ke_none | exact ke_some (by assumption) | exact ke_rz (by assumption) | exact KeP.tr (by assumption) (ke_F_X7_copyFrom _ _ _) | refine ke_ite ?_ ?_ | refine ke_gd ?_ | refine ke_bindO (by first | exact KeP.tr (by assumption) (ke_F_X7_copyFrom _ _ _)) (fun _ _ => ?_) | refine ke_bindS (by first | exact KeS.tr (by assumption) (kes_pi _ _ _ _ _) | exact KeS.tr (by assumption) (kes_st _ _ _ _ _) | exact KeS.tr (by assumption) (kes_stl _ _ _ _) | exact KeS.tr (by assumption) (kes_cp _ _ _ _ _ _)) (fun _ _ => ?_) | refine ke_bindV (fun _ => ?_))
set_option maxRecDepth 4000 in
theorem ke_F_X0_goBack (x0 : Nat) (x1 : Nat) (t : mk_S) : KeP t (F_X0_goBack x0 x1 t) := by
  have h0 : Ke t t := Ke.rf
  unfold F_X0_goBack
  repeat' (with_reducible first | exact ke_none | exact ke_some (by assumption) | exact ke_rz (by assumption) | exact KeP.tr (by assumption) (ke_F_X7_copyFrom _ _ _) | refine ke_ite ?_ ?_ | refine ke_gd ?_ | refine ke_bindO (by first | exact KeP.tr (by assumption) (ke_F_X7_copyFrom _ _ _)) (fun _ _ => ?_) | refine ke_bindS (by first | exact KeS.tr (by assumption) (kes_pi _ _ _ _ _) | exact KeS.tr (by assumption) (kes_st _ _ _ _ _) | exact KeS.tr (by assumption) (kes_stl _ _ _ _) | exact KeS.tr (by assumption) (kes_cp _ _ _ _ _ _)) (fun _ _ => ?_) | refine ke_bindV (fun _ => ?_))
set_option maxRecDepth 4000 in
theorem ke_B_X0_copyFrom_18 : ∀ (n : Nat) (x0 : Nat) (x1 : Nat) (x2 : Int32) (t : mk_S), KeP t (B_X0_copyFrom_18  n x0 x1 x2 t) := by
  intro n
  induction n with
  | zero =>
    intro x0 x1 x2 t
    exact ke_none
  | succ n ih =>
    intro x0 x1 x2 t
    have h0 : Ke t t := Ke.rf
    rw [B_X0_copyFrom_18]
    repeat' (with_reducible first | exact ke_none | exact ke_some (by assumption) | exact ke_rz (by assumption) | exact KeP.tr (by assumption) (ke_F_X7_copyFrom _ _ _) | exact KeP.tr (by assumption) (ih _ _ _ _) | refine ke_ite ?_ ?_ | refine ke_gd ?_ | refine ke_bindO (by first | exact KeP.tr (by assumption) (ke_F_X7_copyFrom _ _ _) | exact KeP.tr (by assumption) (ih _ _ _ _)) (fun _ _ => ?_) | refine ke_bindS (by first | exact KeS.tr (by assumption) (kes_pi _ _ _ _ _) | exact KeS.tr (by assumption) (kes_st _ _ _ _ _) | exact KeS.tr (by assumption) (kes_stl _ _ _ _) | exact KeS.tr (by assumption) (kes_cp _ _ _ _ _ _)) (fun _ _ => ?_) | refine ke_bindV (fun _ => ?_))
set_option maxRecDepth 4000 in
theorem ke_F_X0_copyFrom (x0 : Nat) (x1 : Nat) (t : mk_S) : KeP t (F_X0_copyFrom x0 x1 t) := by
  have h0 : Ke t t := Ke.rf
  unfold F_X0_copyFrom
  repeat' (with_reducible first | exact ke_none | exact ke_some (by assumption) | exact ke_rz (by assumption) | exact KeP.tr (by assumption) (ke_B_X0_copyFrom_18 _ _ _ _ _) | refine ke_ite ?_ ?_ | refine ke_gd ?_ | refine ke_bindO (by first | exact KeP.tr (by assumption) (ke_B_X0_copyFrom_18 _ _ _ _ _)) (fun _ _ => ?_) | refine ke_bindS (by first | exact KeS.tr (by assumption) (kes_pi _ _ _ _ _) | exact KeS.tr (by assumption) (kes_st _ _ _ _ _) | exact KeS.tr (by assumption) (kes_stl _ _ _ _) | exact KeS.tr (by assumption) (kes_cp _ _ _ _ _ _)) (fun _ _ => ?_) | refine ke_bindV (fun _ => ?_))
set_option maxRecDepth 4000 in
theorem ke_F_X1_add (x0 : Nat) (x1 : Int32) (x2 : Int32) (x3 : Int32) (t : mk_S) : KeP t (F_X1_add x0 x1 x2 x3 t) := by
  have h0 : Ke t t := Ke.rf
  unfold F_X1_add
  repeat' (with_reducible first | exact ke_none | exact ke_some (by assumption) | exact ke_rz (by assumption) | refine ke_ite ?_ ?_ | refine ke_gd ?_ | refine ke_bindS (by first | exact KeS.tr (by assumption) (kes_pi _ _ _ _ _) | exact KeS.tr (by assumption) (kes_st _ _ _ _ _) | exact KeS.tr (by assumption) (kes_stl _ _ _ _) | exact KeS.tr (by assumption) (kes_cp _ _ _ _ _ _)) (fun _ _ => ?_) | refine ke_bindV (fun _ => ?_))
set_option maxRecDepth 4000 in
theorem ke_B_X1_lastHour_4 : ∀ (n : Nat) (x0 : Nat) (x1 : Int32) (x2 : Int32) (t : mk_S), KeP t (B_X1_lastHour_4  n x0 x1 x2 t) := by
  intro n
  induction n with
  | zero =>
    intro x0 x1 x2 t
    exact ke_none
  | succ n ih =>
    intro x0 x1 x2 t
    have h0 : Ke t t := Ke.rf
    rw [B_X1_lastHour_4]
    repeat' (with_reducible first | exact ke_none | exact ke_some (by assumption) | exact ke_rz (by assumption) | exact KeP.tr (by assumption) (ih _ _ _ _) | refine ke_ite ?_ ?_ | refine ke_gd ?_ | refine ke_bindO (by first | exact KeP.tr (by assumption) (ih _ _ _ _)) (fun _ _ => ?_) | refine ke_bindS (by first | exact KeS.tr (by assumption) (kes_pi _ _ _ _ _) | exact KeS.tr (by assumption) (kes_st _ _ _ _ _) | exact KeS.tr (by assumption) (kes_stl _ _ _ _) | exact KeS.tr (by assumption) (kes_cp _ _ _ _ _ _)) (fun _ _ => ?_) | refine ke_bindV (fun _ => ?_))
set_option maxRecDepth 4000 in
theorem ke_F_X1_lastHour (x0 : Nat) (t : mk_S) : KeP t (F_X1_lastHour x0 t) := by
  have h0 : Ke t t := Ke.rf
  unfold F_X1_lastHour
  repeat' (with_reducible first | exact ke_none | exact ke_some (by assumption) | exact ke_rz (by assumption) | exact KeP.tr (by assumption) (ke_B_X1_lastHour_4 _ _ _ _ _) | refine ke_ite ?_ ?_ | refine ke_gd ?_ | refine ke_bindO (by first | exact KeP.tr (by assumption) (ke_B_X1_lastHour_4 _ _ _ _ _)) (fun _ _ => ?_) | refine ke_bindS (by first | exact KeS.tr (by assumption) (kes_pi _ _ _ _ _) | exact KeS.tr (by assumption) (kes_st _ _ _ _ _) | exact KeS.tr (by assumption) (kes_stl _ _ _ _) | exact KeS.tr (by assumption) (kes_cp _ _ _ _ _ _)) (fun _ _ => ?_) | refine ke_bindV (fun _ => ?_))
set_option maxRecDepth 4000 in
theorem ke_B_X7_windAt_19 (t : mk_S) : KeP t (B_X7_windAt_19 t) := by
  have h0 : Ke t t := Ke.rf
  unfold B_X7_windAt_19
  repeat' (with_reducible first | exact ke_none | exact ke_some (by assumption) | exact ke_rz (by assumption) | refine ke_ite ?_ ?_ | refine ke_gd ?_ | refine ke_bindS (by first | exact KeS.tr (by assumption) (kes_pi _ _ _ _ _) | exact KeS.tr (by assumption) (kes_st _ _ _ _ _) | exact KeS.tr (by assumption) (kes_stl _ _ _ _) | exact KeS.tr (by assumption) (kes_cp _ _ _ _ _ _)) (fun _ _ => ?_) | refine ke_bindV (fun _ => ?_))
set_option maxRecDepth 4000 in
theorem ke_F_X7_windAt (x0 : Nat) (x1 : Int32) (t : mk_S) : KeP t (F_X7_windAt x0 x1 t) := by
  have h0 : Ke t t := Ke.rf
  unfold F_X7_windAt
  repeat' (with_reducible first | exact ke_none | exact ke_some (by assumption) | exact ke_rz (by assumption) | exact KeP.tr (by assumption) (ke_B_X7_windAt_19 _) | refine ke_ite ?_ ?_ | refine ke_gd ?_ | refine ke_bindO (by first | exact KeP.tr (by assumption) (ke_B_X7_windAt_19 _)) (fun _ _ => ?_) | refine ke_bindS (by first | exact KeS.tr (by assumption) (kes_pi _ _ _ _ _) | exact KeS.tr (by assumption) (kes_st _ _ _ _ _) | exact KeS.tr (by assumption) (kes_stl _ _ _ _) | exact KeS.tr (by assumption) (kes_cp _ _ _ _ _ _)) (fun _ _ => ?_) | refine ke_bindV (fun _ => ?_))
set_option maxRecDepth 4000 in
theorem ke_B_X1_areSo_41 (k2 : Nat → Int32 → Nat → Int32 → mk_S → Option (Int32 × mk_S)) (h_k2 : ∀ (y0 : Nat) (y1 : Int32) (y2 : Nat) (y3 : Int32) (y4 : mk_S), KeP y4 (k2 y0 y1 y2 y3 y4)) (x0 : Nat) (x1 : Int32) (x2 : Nat) (x3 : Int32) (t : mk_S) : KeP t (B_X1_areSo_41 k2 x0 x1 x2 x3 t) := by
  have h0 : Ke t t := Ke.rf
  unfold B_X1_areSo_41
  repeat' (with_reducible first | exact ke_none | exact ke_some (by assumption) | exact ke_rz (by assumption) | exact KeP.tr (by assumption) (h_k2 _ _ _ _ _) | refine ke_ite ?_ ?_ | refine ke_gd ?_ | refine ke_bindO (by first | exact KeP.tr (by assumption) (h_k2 _ _ _ _ _)) (fun _ _ => ?_) | refine ke_bindS (by first | exact KeS.tr (by assumption) (kes_pi _ _ _ _ _) | exact KeS.tr (by assumption) (kes_st _ _ _ _ _) | exact KeS.tr (by assumption) (kes_stl _ _ _ _) | exact KeS.tr (by assumption) (kes_cp _ _ _ _ _ _)) (fun _ _ => ?_) | refine ke_bindV (fun _ => ?_))
set_option maxRecDepth 4000 in
theorem ke_B_X1_areSo_2 : ∀ (n : Nat) (x0 : Nat) (x1 : Int32) (x2 : Nat) (x3 : Int32) (t : mk_S), KeP t (B_X1_areSo_2  n x0 x1 x2 x3 t) := by
  intro n
  induction n with
  | zero =>
    intro x0 x1 x2 x3 t
    exact ke_none
  | succ n ih =>
    intro x0 x1 x2 x3 t
    have h0 : Ke t t := Ke.rf
    rw [B_X1_areSo_2]
    repeat' (with_reducible first | exact ke_none | exact ke_some (by assumption) | exact ke_rz (by assumption) | exact KeP.tr (by assumption) (ke_F_X7_windAt _ _ _) | exact KeP.tr (by assumption) (ke_B_X1_areSo_41 _ (by assumption) _ _ _ _ _) | exact KeP.tr (by assumption) (ih _ _ _ _ _) | refine ke_ite ?_ ?_ | refine ke_gd ?_ | refine ke_bindO (by first | exact KeP.tr (by assumption) (ke_F_X7_windAt _ _ _) | exact KeP.tr (by assumption) (ke_B_X1_areSo_41 _ (by assumption) _ _ _ _ _) | exact KeP.tr (by assumption) (ih _ _ _ _ _)) (fun _ _ => ?_) | refine ke_bindS (by first | exact KeS.tr (by assumption) (kes_pi _ _ _ _ _) | exact KeS.tr (by assumption) (kes_st _ _ _ _ _) | exact KeS.tr (by assumption) (kes_stl _ _ _ _) | exact KeS.tr (by assumption) (kes_cp _ _ _ _ _ _)) (fun _ _ => ?_) | refine ke_bindV (fun _ => ?_))
set_option maxRecDepth 4000 in
theorem ke_F_X1_areSo (x0 : Nat) (x1 : Int32) (x2 : Nat) (t : mk_S) : KeP t (F_X1_areSo x0 x1 x2 t) := by
  have h0 : Ke t t := Ke.rf
  unfold F_X1_areSo
  repeat' (with_reducible first | exact ke_none | exact ke_some (by assumption) | exact ke_rz (by assumption) | exact KeP.tr (by assumption) (ke_B_X1_areSo_2 _ _ _ _ _ _) | refine ke_ite ?_ ?_ | refine ke_gd ?_ | refine ke_bindO (by first | exact KeP.tr (by assumption) (ke_B_X1_areSo_2 _ _ _ _ _ _)) (fun _ _ => ?_) | refine ke_bindS (by first | exact KeS.tr (by assumption) (kes_pi _ _ _ _ _) | exact KeS.tr (by assumption) (kes_st _ _ _ _ _) | exact KeS.tr (by assumption) (kes_stl _ _ _ _) | exact KeS.tr (by assumption) (kes_cp _ _ _ _ _ _)) (fun _ _ => ?_) | refine ke_bindV (fun _ => ?_))
set_option maxRecDepth 4000 in
theorem ke_F_X1_copyFrom (x0 : Nat) (x1 : Nat) (t : mk_S) : KeP t (F_X1_copyFrom x0 x1 t) := by
  have h0 : Ke t t := Ke.rf
  unfold F_X1_copyFrom
  repeat' (with_reducible first | exact ke_none | exact ke_some (by assumption) | exact ke_rz (by assumption) | refine ke_ite ?_ ?_ | refine ke_gd ?_ | refine ke_bindS (by first | exact KeS.tr (by assumption) (kes_pi _ _ _ _ _) | exact KeS.tr (by assumption) (kes_st _ _ _ _ _) | exact KeS.tr (by assumption) (kes_stl _ _ _ _) | exact KeS.tr (by assumption) (kes_cp _ _ _ _ _ _)) (fun _ _ => ?_) | refine ke_bindV (fun _ => ?_))
set_option maxRecDepth 4000 in
theorem ke_B_X2_numbered_22 (t : mk_S) : KeP t (B_X2_numbered_22 t) := by
  have h0 : Ke t t := Ke.rf
  unfold B_X2_numbered_22
  repeat' (with_reducible first | exact ke_none | exact ke_some (by assumption) | exact ke_rz (by assumption) | refine ke_ite ?_ ?_ | refine ke_gd ?_ | refine ke_bindS (by first | exact KeS.tr (by assumption) (kes_pi _ _ _ _ _) | exact KeS.tr (by assumption) (kes_st _ _ _ _ _) | exact KeS.tr (by assumption) (kes_stl _ _ _ _) | exact KeS.tr (by assumption) (kes_cp _ _ _ _ _ _)) (fun _ _ => ?_) | refine ke_bindV (fun _ => ?_))
set_option maxRecDepth 4000 in
theorem ke_F_X2_numbered (x0 : Nat) (x1 : Int32) (t : mk_S) : KeP t (F_X2_numbered x0 x1 t) := by
  have h0 : Ke t t := Ke.rf
  unfold F_X2_numbered
  repeat' (with_reducible first | exact ke_none | exact ke_some (by assumption) | exact ke_rz (by assumption) | exact KeP.tr (by assumption) (ke_B_X2_numbered_22 _) | refine ke_ite ?_ ?_ | refine ke_gd ?_ | refine ke_bindO (by first | exact KeP.tr (by assumption) (ke_B_X2_numbered_22 _)) (fun _ _ => ?_) | refine ke_bindS (by first | exact KeS.tr (by assumption) (kes_pi _ _ _ _ _) | exact KeS.tr (by assumption) (kes_st _ _ _ _ _) | exact KeS.tr (by assumption) (kes_stl _ _ _ _) | exact KeS.tr (by assumption) (kes_cp _ _ _ _ _ _)) (fun _ _ => ?_) | refine ke_bindV (fun _ => ?_))
set_option maxRecDepth 4000 in
theorem ke_F_X2_inForce (x0 : Nat) (t : mk_S) : KeP t (F_X2_inForce x0 t) := by
  have h0 : Ke t t := Ke.rf
  unfold F_X2_inForce
  repeat' (with_reducible first | exact ke_none | exact ke_some (by assumption) | exact ke_rz (by assumption) | exact KeP.tr (by assumption) (ke_F_X2_numbered _ _ _) | refine ke_ite ?_ ?_ | refine ke_gd ?_ | refine ke_bindO (by first | exact KeP.tr (by assumption) (ke_F_X2_numbered _ _ _)) (fun _ _ => ?_) | refine ke_bindS (by first | exact KeS.tr (by assumption) (kes_pi _ _ _ _ _) | exact KeS.tr (by assumption) (kes_st _ _ _ _ _) | exact KeS.tr (by assumption) (kes_stl _ _ _ _) | exact KeS.tr (by assumption) (kes_cp _ _ _ _ _ _)) (fun _ _ => ?_) | refine ke_bindV (fun _ => ?_))
set_option maxRecDepth 4000 in
theorem ke_F_X7_urgeOn (x0 : Nat) (x1 : Int32) (x2 : Int32) (t : mk_S) : KeP t (F_X7_urgeOn x0 x1 x2 t) := by
  have h0 : Ke t t := Ke.rf
  unfold F_X7_urgeOn
  repeat' (with_reducible first | exact ke_none | exact ke_some (by assumption) | exact ke_rz (by assumption) | refine ke_ite ?_ ?_ | refine ke_gd ?_ | refine ke_bindS (by first | exact KeS.tr (by assumption) (kes_pi _ _ _ _ _) | exact KeS.tr (by assumption) (kes_st _ _ _ _ _) | exact KeS.tr (by assumption) (kes_stl _ _ _ _) | exact KeS.tr (by assumption) (kes_cp _ _ _ _ _ _)) (fun _ _ => ?_) | refine ke_bindV (fun _ => ?_))
set_option maxRecDepth 4000 in
theorem ke_F_X3_rowOf (x0 : Nat) (x1 : Int32) (t : mk_S) : KeP t (F_X3_rowOf x0 x1 t) := by
  have h0 : Ke t t := Ke.rf
  unfold F_X3_rowOf
  repeat' (with_reducible first | exact ke_none | exact ke_some (by assumption) | exact ke_rz (by assumption) | refine ke_ite ?_ ?_ | refine ke_gd ?_ | refine ke_bindS (by first | exact KeS.tr (by assumption) (kes_pi _ _ _ _ _) | exact KeS.tr (by assumption) (kes_st _ _ _ _ _) | exact KeS.tr (by assumption) (kes_stl _ _ _ _) | exact KeS.tr (by assumption) (kes_cp _ _ _ _ _ _)) (fun _ _ => ?_) | refine ke_bindV (fun _ => ?_))
set_option maxRecDepth 4000 in
theorem ke_F_X3_columnOf (x0 : Nat) (x1 : Int32) (t : mk_S) : KeP t (F_X3_columnOf x0 x1 t) := by
  have h0 : Ke t t := Ke.rf
  unfold F_X3_columnOf
  repeat' (with_reducible first | exact ke_none | exact ke_some (by assumption) | exact ke_rz (by assumption) | refine ke_ite ?_ ?_ | refine ke_gd ?_ | refine ke_bindS (by first | exact KeS.tr (by assumption) (kes_pi _ _ _ _ _) | exact KeS.tr (by assumption) (kes_st _ _ _ _ _) | exact KeS.tr (by assumption) (kes_stl _ _ _ _) | exact KeS.tr (by assumption) (kes_cp _ _ _ _ _ _)) (fun _ _ => ?_) | refine ke_bindV (fun _ => ?_))
set_option maxRecDepth 4000 in
theorem ke_B_X7_sum_10 : ∀ (n : Nat) (x1 : Int32) (x2 : Nat) (x3 : Int32) (x4 : Int32) (t : mk_S), KeP t (B_X7_sum_10  n x1 x2 x3 x4 t) := by
  intro n
  induction n with
  | zero =>
    intro x1 x2 x3 x4 t
    exact ke_none
  | succ n ih =>
    intro x1 x2 x3 x4 t
    have h0 : Ke t t := Ke.rf
    rw [B_X7_sum_10]
    repeat' (with_reducible first | exact ke_none | exact ke_some (by assumption) | exact ke_rz (by assumption) | exact KeP.tr (by assumption) (ih _ _ _ _ _) | refine ke_ite ?_ ?_ | refine ke_gd ?_ | refine ke_bindO (by first | exact KeP.tr (by assumption) (ih _ _ _ _ _)) (fun _ _ => ?_) | refine ke_bindS (by first | exact KeS.tr (by assumption) (kes_pi _ _ _ _ _) | exact KeS.tr (by assumption) (kes_st _ _ _ _ _) | exact KeS.tr (by assumption) (kes_stl _ _ _ _) | exact KeS.tr (by assumption) (kes_cp _ _ _ _ _ _)) (fun _ _ => ?_) | refine ke_bindV (fun _ => ?_))
set_option maxRecDepth 4000 in
theorem ke_F_X7_sum (x0 : Nat) (t : mk_S) : KeP t (F_X7_sum x0 t) := by
  have h0 : Ke t t := Ke.rf
  unfold F_X7_sum
  repeat' (with_reducible first | exact ke_none | exact ke_some (by assumption) | exact ke_rz (by assumption) | exact KeP.tr (by assumption) (ke_B_X7_sum_10 _ _ _ _ _ _) | refine ke_ite ?_ ?_ | refine ke_gd ?_ | refine ke_bindO (by first | exact KeP.tr (by assumption) (ke_B_X7_sum_10 _ _ _ _ _ _)) (fun _ _ => ?_) | refine ke_bindS (by first | exact KeS.tr (by assumption) (kes_pi _ _ _ _ _) | exact KeS.tr (by assumption) (kes_st _ _ _ _ _) | exact KeS.tr (by assumption) (kes_stl _ _ _ _) | exact KeS.tr (by assumption) (kes_cp _ _ _ _ _ _)) (fun _ _ => ?_) | refine ke_bindV (fun _ => ?_))
set_option maxRecDepth 4000 in
theorem ke_F_X7_groundInAll (x0 : Nat) (t : mk_S) : KeP t (F_X7_groundInAll x0 t) := by
  have h0 : Ke t t := Ke.rf
  unfold F_X7_groundInAll
  repeat' (with_reducible first | exact ke_none | exact ke_some (by assumption) | exact ke_rz (by assumption) | exact KeP.tr (by assumption) (ke_F_X7_sum _ _) | refine ke_ite ?_ ?_ | refine ke_gd ?_ | refine ke_bindO (by first | exact KeP.tr (by assumption) (ke_F_X7_sum _ _)) (fun _ _ => ?_) | refine ke_bindS (by first | exact KeS.tr (by assumption) (kes_pi _ _ _ _ _) | exact KeS.tr (by assumption) (kes_st _ _ _ _ _) | exact KeS.tr (by assumption) (kes_stl _ _ _ _) | exact KeS.tr (by assumption) (kes_cp _ _ _ _ _ _)) (fun _ _ => ?_) | refine ke_bindV (fun _ => ?_))
set_option maxRecDepth 4000 in
theorem ke_F_J6_bitCount_0f7a4 (x0 : Int32) (t : mk_S) : KeP t (F_J6_bitCount_0f7a4 x0 t) := by
  have h0 : Ke t t := Ke.rf
  unfold F_J6_bitCount_0f7a4
  repeat' (with_reducible first | exact ke_none | exact ke_some (by assumption) | exact ke_rz (by assumption) | refine ke_ite ?_ ?_ | refine ke_gd ?_ | refine ke_bindS (by first | exact KeS.tr (by assumption) (kes_pi _ _ _ _ _) | exact KeS.tr (by assumption) (kes_st _ _ _ _ _) | exact KeS.tr (by assumption) (kes_stl _ _ _ _) | exact KeS.tr (by assumption) (kes_cp _ _ _ _ _ _)) (fun _ _ => ?_) | refine ke_bindV (fun _ => ?_))
set_option maxRecDepth 4000 in
theorem ke_F_X9_tell (x0 : Nat) (x1 : Nat) (x2 : Nat) (x3 : Int32) (t : mk_S) : KeP t (F_X9_tell x0 x1 x2 x3 t) := by
  have h0 : Ke t t := Ke.rf
  unfold F_X9_tell
  repeat' (with_reducible first | exact ke_none | exact ke_some (by assumption) | exact ke_rz (by assumption) | exact KeP.tr (by assumption) (ke_F_X3_rowOf _ _ _) | exact KeP.tr (by assumption) (ke_F_X3_columnOf _ _ _) | exact KeP.tr (by assumption) (ke_F_X7_windAt _ _ _) | exact KeP.tr (by assumption) (ke_F_X7_groundInAll _ _) | exact KeP.tr (by assumption) (ke_F_J6_bitCount_0f7a4 _ _) | refine ke_ite ?_ ?_ | refine ke_gd ?_ | refine ke_bindO (by first | exact KeP.tr (by assumption) (ke_F_X3_rowOf _ _ _) | exact KeP.tr (by assumption) (ke_F_X3_columnOf _ _ _) | exact KeP.tr (by assumption) (ke_F_X7_windAt _ _ _) | exact KeP.tr (by assumption) (ke_F_X7_groundInAll _ _) | exact KeP.tr (by assumption) (ke_F_J6_bitCount_0f7a4 _ _)) (fun _ _ => ?_) | refine ke_bindS (by first | exact KeS.tr (by assumption) (kes_pi _ _ _ _ _) | exact KeS.tr (by assumption) (kes_st _ _ _ _ _) | exact KeS.tr (by assumption) (kes_stl _ _ _ _) | exact KeS.tr (by assumption) (kes_cp _ _ _ _ _ _)) (fun _ _ => ?_) | refine ke_bindV (fun _ => ?_))
set_option maxRecDepth 4000 in
theorem ke_B_X5_isWord_18 (t : mk_S) : KeP t (B_X5_isWord_18 t) := by
  have h0 : Ke t t := Ke.rf
  unfold B_X5_isWord_18
  repeat' (with_reducible first | exact ke_none | exact ke_some (by assumption) | exact ke_rz (by assumption) | refine ke_ite ?_ ?_ | refine ke_gd ?_ | refine ke_bindS (by first | exact KeS.tr (by assumption) (kes_pi _ _ _ _ _) | exact KeS.tr (by assumption) (kes_st _ _ _ _ _) | exact KeS.tr (by assumption) (kes_stl _ _ _ _) | exact KeS.tr (by assumption) (kes_cp _ _ _ _ _ _)) (fun _ _ => ?_) | refine ke_bindV (fun _ => ?_))
set_option maxRecDepth 4000 in
theorem ke_F_X5_isWord (x0 : Int32) (t : mk_S) : KeP t (F_X5_isWord x0 t) := by
  have h0 : Ke t t := Ke.rf
  unfold F_X5_isWord
  repeat' (with_reducible first | exact ke_none | exact ke_some (by assumption) | exact ke_rz (by assumption) | exact KeP.tr (by assumption) (ke_B_X5_isWord_18 _) | refine ke_ite ?_ ?_ | refine ke_gd ?_ | refine ke_bindO (by first | exact KeP.tr (by assumption) (ke_B_X5_isWord_18 _)) (fun _ _ => ?_) | refine ke_bindS (by first | exact KeS.tr (by assumption) (kes_pi _ _ _ _ _) | exact KeS.tr (by assumption) (kes_st _ _ _ _ _) | exact KeS.tr (by assumption) (kes_stl _ _ _ _) | exact KeS.tr (by assumption) (kes_cp _ _ _ _ _ _)) (fun _ _ => ?_) | refine ke_bindV (fun _ => ?_))
set_option maxRecDepth 4000 in
theorem ke_F_X5_joined (x0 : Int32) (x1 : Int64) (x3 : Int64) (t : mk_S) : KeP t (F_X5_joined x0 x1 x3 t) := by
  have h0 : Ke t t := Ke.rf
  unfold F_X5_joined
  repeat' (with_reducible first | exact ke_none | exact ke_some (by assumption) | exact ke_rz (by assumption) | refine ke_ite ?_ ?_ | refine ke_gd ?_ | refine ke_bindS (by first | exact KeS.tr (by assumption) (kes_pi _ _ _ _ _) | exact KeS.tr (by assumption) (kes_st _ _ _ _ _) | exact KeS.tr (by assumption) (kes_stl _ _ _ _) | exact KeS.tr (by assumption) (kes_cp _ _ _ _ _ _)) (fun _ _ => ?_) | refine ke_bindV (fun _ => ?_))
set_option maxRecDepth 4000 in
theorem ke_B_X5_worth_167 (k6 : Nat → Int32 → Nat → Int32 → Int32 → mk_S → Option (Int64 × mk_S)) (h_k6 : ∀ (y0 : Nat) (y1 : Int32) (y2 : Nat) (y3 : Int32) (y4 : Int32) (y5 : mk_S), KeP y5 (k6 y0 y1 y2 y3 y4 y5)) (x0 : Nat) (x2 : Int32) (x3 : Nat) (x4 : Int32) (x5 : Int32) (t : mk_S) : KeP t (B_X5_worth_167 k6 x0 x2 x3 x4 x5 t) := by
  have h0 : Ke t t := Ke.rf
  unfold B_X5_worth_167
  repeat' (with_reducible first | exact ke_none | exact ke_some (by assumption) | exact ke_rz (by assumption) | exact KeP.tr (by assumption) (h_k6 _ _ _ _ _ _) | refine ke_ite ?_ ?_ | refine ke_gd ?_ | refine ke_bindO (by first | exact KeP.tr (by assumption) (h_k6 _ _ _ _ _ _)) (fun _ _ => ?_) | refine ke_bindS (by first | exact KeS.tr (by assumption) (kes_pi _ _ _ _ _) | exact KeS.tr (by assumption) (kes_st _ _ _ _ _) | exact KeS.tr (by assumption) (kes_stl _ _ _ _) | exact KeS.tr (by assumption) (kes_cp _ _ _ _ _ _)) (fun _ _ => ?_) | refine ke_bindV (fun _ => ?_))
set_option maxRecDepth 4000 in
theorem ke_B_X5_worth_85 (k6 : Nat → Int32 → Nat → Int32 → Int32 → mk_S → Option (Int64 × mk_S)) (h_k6 : ∀ (y0 : Nat) (y1 : Int32) (y2 : Nat) (y3 : Int32) (y4 : Int32) (y5 : mk_S), KeP y5 (k6 y0 y1 y2 y3 y4 y5)) (x0 : Nat) (x2 : Int32) (x3 : Nat) (x4 : Int32) (x5 : Int32) (s0 : Nat) (s1 : Int32) (s2 : Int64) (t : mk_S) : KeP t (B_X5_worth_85 k6 x0 x2 x3 x4 x5 s0 s1 s2 t) := by
  have h0 : Ke t t := Ke.rf
  unfold B_X5_worth_85
  repeat' (with_reducible first | exact ke_none | exact ke_some (by assumption) | exact ke_rz (by assumption) | exact KeP.tr (by assumption) (ke_B_X5_worth_167 _ (by assumption) _ _ _ _ _ _) | exact KeP.tr (by assumption) (h_k6 _ _ _ _ _ _) | refine ke_ite ?_ ?_ | refine ke_gd ?_ | refine ke_bindO (by first | exact KeP.tr (by assumption) (ke_B_X5_worth_167 _ (by assumption) _ _ _ _ _ _) | exact KeP.tr (by assumption) (h_k6 _ _ _ _ _ _)) (fun _ _ => ?_) | refine ke_bindS (by first | exact KeS.tr (by assumption) (kes_pi _ _ _ _ _) | exact KeS.tr (by assumption) (kes_st _ _ _ _ _) | exact KeS.tr (by assumption) (kes_stl _ _ _ _) | exact KeS.tr (by assumption) (kes_cp _ _ _ _ _ _)) (fun _ _ => ?_) | refine ke_bindV (fun _ => ?_))
set_option maxRecDepth 4000 in
theorem ke_B_X5_worth_45 (k6 : Nat → Int32 → Nat → Int32 → Int32 → mk_S → Option (Int64 × mk_S)) (h_k6 : ∀ (y0 : Nat) (y1 : Int32) (y2 : Nat) (y3 : Int32) (y4 : Int32) (y5 : mk_S), KeP y5 (k6 y0 y1 y2 y3 y4 y5)) (x0 : Nat) (x2 : Int32) (x3 : Nat) (x4 : Int32) (x5 : Int32) (x6 : Int32) (t : mk_S) : KeP t (B_X5_worth_45 k6 x0 x2 x3 x4 x5 x6 t) := by
  have h0 : Ke t t := Ke.rf
  unfold B_X5_worth_45
  repeat' (with_reducible first | exact ke_none | exact ke_some (by assumption) | exact ke_rz (by assumption) | exact KeP.tr (by assumption) (ke_B_X5_worth_167 _ (by assumption) _ _ _ _ _ _) | exact KeP.tr (by assumption) (ke_B_X5_worth_85 _ (by assumption) _ _ _ _ _ _ _ _ _) | exact KeP.tr (by assumption) (h_k6 _ _ _ _ _ _) | refine ke_ite ?_ ?_ | refine ke_gd ?_ | refine ke_bindO (by first | exact KeP.tr (by assumption) (ke_B_X5_worth_167 _ (by assumption) _ _ _ _ _ _) | exact KeP.tr (by assumption) (ke_B_X5_worth_85 _ (by assumption) _ _ _ _ _ _ _ _ _) | exact KeP.tr (by assumption) (h_k6 _ _ _ _ _ _)) (fun _ _ => ?_) | refine ke_bindS (by first | exact KeS.tr (by assumption) (kes_pi _ _ _ _ _) | exact KeS.tr (by assumption) (kes_st _ _ _ _ _) | exact KeS.tr (by assumption) (kes_stl _ _ _ _) | exact KeS.tr (by assumption) (kes_cp _ _ _ _ _ _)) (fun _ _ => ?_) | refine ke_bindV (fun _ => ?_))
set_option maxRecDepth 4000 in
theorem ke_B_X5_worth_173 (x0 : Nat) (x4 : Int32) (t : mk_S) : KeP t (B_X5_worth_173 x0 x4 t) := by
  have h0 : Ke t t := Ke.rf
  unfold B_X5_worth_173
  repeat' (with_reducible first | exact ke_none | exact ke_some (by assumption) | exact ke_rz (by assumption) | refine ke_ite ?_ ?_ | refine ke_gd ?_ | refine ke_bindS (by first | exact KeS.tr (by assumption) (kes_pi _ _ _ _ _) | exact KeS.tr (by assumption) (kes_st _ _ _ _ _) | exact KeS.tr (by assumption) (kes_stl _ _ _ _) | exact KeS.tr (by assumption) (kes_cp _ _ _ _ _ _)) (fun _ _ => ?_) | refine ke_bindV (fun _ => ?_))
set_option maxRecDepth 4000 in
theorem ke_B_X5_worth_6 : ∀ (n : Nat) (x0 : Nat) (x2 : Int32) (x3 : Nat) (x4 : Int32) (x5 : Int32) (t : mk_S), KeP t (B_X5_worth_6  n x0 x2 x3 x4 x5 t) := by
  intro n
  induction n with
  | zero =>
    intro x0 x2 x3 x4 x5 t
    exact ke_none
  | succ n ih =>
    intro x0 x2 x3 x4 x5 t
    have h0 : Ke t t := Ke.rf
    rw [B_X5_worth_6]
    repeat' (with_reducible first | exact ke_none | exact ke_some (by assumption) | exact ke_rz (by assumption) | exact KeP.tr (by assumption) (ke_B_X5_worth_173 _ _ _) | exact KeP.tr (by assumption) (ke_B_X5_worth_45 _ (by assumption) _ _ _ _ _ _ _) | exact KeP.tr (by assumption) (ke_F_X5_isWord _ _) | exact KeP.tr (by assumption) (ke_B_X5_worth_167 _ (by assumption) _ _ _ _ _ _) | exact KeP.tr (by assumption) (ke_F_X5_joined _ _ _ _) | exact KeP.tr (by assumption) (ih _ _ _ _ _ _) | refine ke_ite ?_ ?_ | refine ke_gd ?_ | refine ke_bindO (by first | exact KeP.tr (by assumption) (ke_B_X5_worth_173 _ _ _) | exact KeP.tr (by assumption) (ke_B_X5_worth_45 _ (by assumption) _ _ _ _ _ _ _) | exact KeP.tr (by assumption) (ke_F_X5_isWord _ _) | exact KeP.tr (by assumption) (ke_B_X5_worth_167 _ (by assumption) _ _ _ _ _ _) | exact KeP.tr (by assumption) (ke_F_X5_joined _ _ _ _) | exact KeP.tr (by assumption) (ih _ _ _ _ _ _)) (fun _ _ => ?_) | refine ke_bindS (by first | exact KeS.tr (by assumption) (kes_pi _ _ _ _ _) | exact KeS.tr (by assumption) (kes_st _ _ _ _ _) | exact KeS.tr (by assumption) (kes_stl _ _ _ _) | exact KeS.tr (by assumption) (kes_cp _ _ _ _ _ _)) (fun _ _ => ?_) | refine ke_bindV (fun _ => ?_))
set_option maxRecDepth 4000 in
theorem ke_F_X5_worth (x0 : Nat) (x1 : Int32) (x2 : Int32) (x3 : Nat) (t : mk_S) : KeP t (F_X5_worth x0 x1 x2 x3 t) := by
  have h0 : Ke t t := Ke.rf
  unfold F_X5_worth
  repeat' (with_reducible first | exact ke_none | exact ke_some (by assumption) | exact ke_rz (by assumption) | exact KeP.tr (by assumption) (ke_B_X5_worth_6 _ _ _ _ _ _ _) | refine ke_ite ?_ ?_ | refine ke_gd ?_ | refine ke_bindO (by first | exact KeP.tr (by assumption) (ke_B_X5_worth_6 _ _ _ _ _ _ _)) (fun _ _ => ?_) | refine ke_bindS (by first | exact KeS.tr (by assumption) (kes_pi _ _ _ _ _) | exact KeS.tr (by assumption) (kes_st _ _ _ _ _) | exact KeS.tr (by assumption) (kes_stl _ _ _ _) | exact KeS.tr (by assumption) (kes_cp _ _ _ _ _ _)) (fun _ _ => ?_) | refine ke_bindV (fun _ => ?_))
set_option maxRecDepth 4000 in
theorem ke_B_X5_says_47 (x0 : Nat) (x1 : Nat) (x2 : Int32) (t : mk_S) : KeP t (B_X5_says_47 x0 x1 x2 t) := by
  have h0 : Ke t t := Ke.rf
  unfold B_X5_says_47
  repeat' (with_reducible first | exact ke_none | exact ke_some (by assumption) | exact ke_rz (by assumption) | exact KeP.tr (by assumption) (ke_F_X5_worth _ _ _ _ _) | refine ke_ite ?_ ?_ | refine ke_gd ?_ | refine ke_bindO (by first | exact KeP.tr (by assumption) (ke_F_X5_worth _ _ _ _ _)) (fun _ _ => ?_) | refine ke_bindS (by first | exact KeS.tr (by assumption) (kes_pi _ _ _ _ _) | exact KeS.tr (by assumption) (kes_st _ _ _ _ _) | exact KeS.tr (by assumption) (kes_stl _ _ _ _) | exact KeS.tr (by assumption) (kes_cp _ _ _ _ _ _)) (fun _ _ => ?_) | refine ke_bindV (fun _ => ?_))
set_option maxRecDepth 4000 in
theorem ke_B_X5_says_2 : ∀ (n : Nat) (x0 : Nat) (x1 : Nat) (x2 : Int32) (t : mk_S), KeP t (B_X5_says_2  n x0 x1 x2 t) := by
  intro n
  induction n with
  | zero =>
    intro x0 x1 x2 t
    exact ke_none
  | succ n ih =>
    intro x0 x1 x2 t
    have h0 : Ke t t := Ke.rf
    rw [B_X5_says_2]
    repeat' (with_reducible first | exact ke_none | exact ke_some (by assumption) | exact ke_rz (by assumption) | exact KeP.tr (by assumption) (ke_B_X5_says_47 _ _ _ _) | exact KeP.tr (by assumption) (ke_F_X5_worth _ _ _ _ _) | exact KeP.tr (by assumption) (ih _ _ _ _) | refine ke_ite ?_ ?_ | refine ke_gd ?_ | refine ke_bindO (by first | exact KeP.tr (by assumption) (ke_B_X5_says_47 _ _ _ _) | exact KeP.tr (by assumption) (ke_F_X5_worth _ _ _ _ _) | exact KeP.tr (by assumption) (ih _ _ _ _)) (fun _ _ => ?_) | refine ke_bindS (by first | exact KeS.tr (by assumption) (kes_pi _ _ _ _ _) | exact KeS.tr (by assumption) (kes_st _ _ _ _ _) | exact KeS.tr (by assumption) (kes_stl _ _ _ _) | exact KeS.tr (by assumption) (kes_cp _ _ _ _ _ _)) (fun _ _ => ?_) | refine ke_bindV (fun _ => ?_))
set_option maxRecDepth 4000 in
theorem ke_F_X5_says (x0 : Nat) (x1 : Nat) (t : mk_S) : KeP t (F_X5_says x0 x1 t) := by
  have h0 : Ke t t := Ke.rf
  unfold F_X5_says
  repeat' (with_reducible first | exact ke_none | exact ke_some (by assumption) | exact ke_rz (by assumption) | exact KeP.tr (by assumption) (ke_B_X5_says_2 _ _ _ _ _) | refine ke_ite ?_ ?_ | refine ke_gd ?_ | refine ke_bindO (by first | exact KeP.tr (by assumption) (ke_B_X5_says_2 _ _ _ _ _)) (fun _ _ => ?_) | refine ke_bindS (by first | exact KeS.tr (by assumption) (kes_pi _ _ _ _ _) | exact KeS.tr (by assumption) (kes_st _ _ _ _ _) | exact KeS.tr (by assumption) (kes_stl _ _ _ _) | exact KeS.tr (by assumption) (kes_cp _ _ _ _ _ _)) (fun _ _ => ?_) | refine ke_bindV (fun _ => ?_))
set_option maxRecDepth 4000 in
theorem ke_B_X9_giversOf_85 (k6 : Nat → Nat → Option Nat → Nat → Int32 → Int32 → Int32 → mk_S → Option (Int32 × mk_S)) (h_k6 : ∀ (y0 : Nat) (y1 : Nat) (y2 : Option Nat) (y3 : Nat) (y4 : Int32) (y5 : Int32) (y6 : Int32) (y7 : mk_S), KeP y7 (k6 y0 y1 y2 y3 y4 y5 y6 y7)) (x0 : Nat) (x1 : Nat) (x2 : Option Nat) (x3 : Nat) (x4 : Int32) (x5 : Int32) (x6 : Int32) (t : mk_S) : KeP t (B_X9_giversOf_85 k6 x0 x1 x2 x3 x4 x5 x6 t) := by
  have h0 : Ke t t := Ke.rf
  unfold B_X9_giversOf_85
  repeat' (with_reducible first | exact ke_none | exact ke_some (by assumption) | exact ke_rz (by assumption) | exact KeP.tr (by assumption) (h_k6 _ _ _ _ _ _ _ _) | refine ke_ite ?_ ?_ | refine ke_gd ?_ | refine ke_bindO (by first | exact KeP.tr (by assumption) (h_k6 _ _ _ _ _ _ _ _)) (fun _ _ => ?_) | refine ke_bindS (by first | exact KeS.tr (by assumption) (kes_pi _ _ _ _ _) | exact KeS.tr (by assumption) (kes_st _ _ _ _ _) | exact KeS.tr (by assumption) (kes_stl _ _ _ _) | exact KeS.tr (by assumption) (kes_cp _ _ _ _ _ _)) (fun _ _ => ?_) | refine ke_bindV (fun _ => ?_))
set_option maxRecDepth 4000 in
theorem ke_B_X9_giversOf_64 (k6 : Nat → Nat → Option Nat → Nat → Int32 → Int32 → Int32 → mk_S → Option (Int32 × mk_S)) (h_k6 : ∀ (y0 : Nat) (y1 : Nat) (y2 : Option Nat) (y3 : Nat) (y4 : Int32) (y5 : Int32) (y6 : Int32) (y7 : mk_S), KeP y7 (k6 y0 y1 y2 y3 y4 y5 y6 y7)) (x0 : Nat) (x1 : Nat) (x2 : Option Nat) (x3 : Nat) (x4 : Int32) (x5 : Int32) (x6 : Int32) (x7 : Int32) (t : mk_S) : KeP t (B_X9_giversOf_64 k6 x0 x1 x2 x3 x4 x5 x6 x7 t) := by
  have h0 : Ke t t := Ke.rf
  unfold B_X9_giversOf_64
  repeat' (with_reducible first | exact ke_none | exact ke_some (by assumption) | exact ke_rz (by assumption) | exact KeP.tr (by assumption) (ke_B_X9_giversOf_85 _ (by assumption) _ _ _ _ _ _ _ _) | exact KeP.tr (by assumption) (h_k6 _ _ _ _ _ _ _ _) | refine ke_ite ?_ ?_ | refine ke_gd ?_ | refine ke_bindO (by first | exact KeP.tr (by assumption) (ke_B_X9_giversOf_85 _ (by assumption) _ _ _ _ _ _ _ _) | exact KeP.tr (by assumption) (h_k6 _ _ _ _ _ _ _ _)) (fun _ _ => ?_) | refine ke_bindS (by first | exact KeS.tr (by assumption) (kes_pi _ _ _ _ _) | exact KeS.tr (by assumption) (kes_st _ _ _ _ _) | exact KeS.tr (by assumption) (kes_stl _ _ _ _) | exact KeS.tr (by assumption) (kes_cp _ _ _ _ _ _)) (fun _ _ => ?_) | refine ke_bindV (fun _ => ?_))
set_option maxRecDepth 4000 in
theorem ke_B_X9_giversOf_41 (k6 : Nat → Nat → Option Nat → Nat → Int32 → Int32 → Int32 → mk_S → Option (Int32 × mk_S)) (h_k6 : ∀ (y0 : Nat) (y1 : Nat) (y2 : Option Nat) (y3 : Nat) (y4 : Int32) (y5 : Int32) (y6 : Int32) (y7 : mk_S), KeP y7 (k6 y0 y1 y2 y3 y4 y5 y6 y7)) (x0 : Nat) (x1 : Nat) (x2 : Option Nat) (x3 : Nat) (x4 : Int32) (x5 : Int32) (x6 : Int32) (s0 : Int32) (t : mk_S) : KeP t (B_X9_giversOf_41 k6 x0 x1 x2 x3 x4 x5 x6 s0 t) := by
  have h0 : Ke t t := Ke.rf
  unfold B_X9_giversOf_41
  repeat' (with_reducible first | exact ke_none | exact ke_some (by assumption) | exact ke_rz (by assumption) | exact KeP.tr (by assumption) (ke_B_X9_giversOf_64 _ (by assumption) _ _ _ _ _ _ _ _ _) | exact KeP.tr (by assumption) (h_k6 _ _ _ _ _ _ _ _) | refine ke_ite ?_ ?_ | refine ke_gd ?_ | refine ke_bindO (by first | exact KeP.tr (by assumption) (ke_B_X9_giversOf_64 _ (by assumption) _ _ _ _ _ _ _ _ _) | exact KeP.tr (by assumption) (h_k6 _ _ _ _ _ _ _ _)) (fun _ _ => ?_) | refine ke_bindS (by first | exact KeS.tr (by assumption) (kes_pi _ _ _ _ _) | exact KeS.tr (by assumption) (kes_st _ _ _ _ _) | exact KeS.tr (by assumption) (kes_stl _ _ _ _) | exact KeS.tr (by assumption) (kes_cp _ _ _ _ _ _)) (fun _ _ => ?_) | refine ke_bindV (fun _ => ?_))
set_option maxRecDepth 4000 in
theorem ke_B_X9_giversOf_6 : ∀ (n : Nat) (x0 : Nat) (x1 : Nat) (x2 : Option Nat) (x3 : Nat) (x4 : Int32) (x5 : Int32) (x6 : Int32) (t : mk_S), KeP t (B_X9_giversOf_6  n x0 x1 x2 x3 x4 x5 x6 t) := by
  intro n
  induction n with
  | zero =>
    intro x0 x1 x2 x3 x4 x5 x6 t
    exact ke_none
  | succ n ih =>
    intro x0 x1 x2 x3 x4 x5 x6 t
    have h0 : Ke t t := Ke.rf
    rw [B_X9_giversOf_6]
    repeat' (with_reducible first | exact ke_none | exact ke_some (by assumption) | exact ke_rz (by assumption) | exact KeP.tr (by assumption) (ke_F_X9_tell _ _ _ _ _) | exact KeP.tr (by assumption) (ke_F_X5_says _ _ _) | exact KeP.tr (by assumption) (ke_B_X9_giversOf_64 _ (by assumption) _ _ _ _ _ _ _ _ _) | exact KeP.tr (by assumption) (ke_B_X9_giversOf_41 _ (by assumption) _ _ _ _ _ _ _ _ _) | exact KeP.tr (by assumption) (ih _ _ _ _ _ _ _ _) | refine ke_ite ?_ ?_ | refine ke_gd ?_ | refine ke_nn (fun _ => ?_) ?_ | refine ke_bindO (by first | exact KeP.tr (by assumption) (ke_F_X9_tell _ _ _ _ _) | exact KeP.tr (by assumption) (ke_F_X5_says _ _ _) | exact KeP.tr (by assumption) (ke_B_X9_giversOf_64 _ (by assumption) _ _ _ _ _ _ _ _ _) | exact KeP.tr (by assumption) (ke_B_X9_giversOf_41 _ (by assumption) _ _ _ _ _ _ _ _ _) | exact KeP.tr (by assumption) (ih _ _ _ _ _ _ _ _)) (fun _ _ => ?_) | refine ke_bindS (by first | exact KeS.tr (by assumption) (kes_pi _ _ _ _ _) | exact KeS.tr (by assumption) (kes_st _ _ _ _ _) | exact KeS.tr (by assumption) (kes_stl _ _ _ _) | exact KeS.tr (by assumption) (kes_cp _ _ _ _ _ _)) (fun _ _ => ?_) | refine ke_bindV (fun _ => ?_))
set_option maxRecDepth 4000 in
theorem ke_F_X9_giversOf (x0 : Nat) (x1 : Nat) (x2 : Option Nat) (x3 : Nat) (x4 : Int32) (t : mk_S) : KeP t (F_X9_giversOf x0 x1 x2 x3 x4 t) := by
  have h0 : Ke t t := Ke.rf
  unfold F_X9_giversOf
  repeat' (with_reducible first | exact ke_none | exact ke_some (by assumption) | exact ke_rz (by assumption) | exact KeP.tr (by assumption) (ke_B_X9_giversOf_6 _ _ _ _ _ _ _ _ _) | refine ke_ite ?_ ?_ | refine ke_gd ?_ | refine ke_bindO (by first | exact KeP.tr (by assumption) (ke_B_X9_giversOf_6 _ _ _ _ _ _ _ _ _)) (fun _ _ => ?_) | refine ke_bindS (by first | exact KeS.tr (by assumption) (kes_pi _ _ _ _ _) | exact KeS.tr (by assumption) (kes_st _ _ _ _ _) | exact KeS.tr (by assumption) (kes_stl _ _ _ _) | exact KeS.tr (by assumption) (kes_cp _ _ _ _ _ _)) (fun _ _ => ?_) | refine ke_bindV (fun _ => ?_))
set_option maxRecDepth 4000 in
theorem ke_B_J7_fill_53178_5 : ∀ (n : Nat) (x0 : Nat) (x1 : Int32) (x2 : Int32) (x3 : Int32) (t : mk_S), KeP t (B_J7_fill_53178_5  n x0 x1 x2 x3 t) := by
  intro n
  induction n with
  | zero =>
    intro x0 x1 x2 x3 t
    exact ke_none
  | succ n ih =>
    intro x0 x1 x2 x3 t
    have h0 : Ke t t := Ke.rf
    rw [B_J7_fill_53178_5]
    repeat' (with_reducible first | exact ke_none | exact ke_some (by assumption) | exact ke_rz (by assumption) | exact KeP.tr (by assumption) (ih _ _ _ _ _) | refine ke_ite ?_ ?_ | refine ke_gd ?_ | refine ke_bindO (by first | exact KeP.tr (by assumption) (ih _ _ _ _ _)) (fun _ _ => ?_) | refine ke_bindS (by first | exact KeS.tr (by assumption) (kes_pi _ _ _ _ _) | exact KeS.tr (by assumption) (kes_st _ _ _ _ _) | exact KeS.tr (by assumption) (kes_stl _ _ _ _) | exact KeS.tr (by assumption) (kes_cp _ _ _ _ _ _)) (fun _ _ => ?_) | refine ke_bindV (fun _ => ?_))
set_option maxRecDepth 4000 in
theorem ke_F_J7_fill_53178 (x0 : Nat) (x1 : Int32) (t : mk_S) : KeP t (F_J7_fill_53178 x0 x1 t) := by
  have h0 : Ke t t := Ke.rf
  unfold F_J7_fill_53178
  repeat' (with_reducible first | exact ke_none | exact ke_some (by assumption) | exact ke_rz (by assumption) | exact KeP.tr (by assumption) (ke_B_J7_fill_53178_5 _ _ _ _ _ _) | refine ke_ite ?_ ?_ | refine ke_gd ?_ | refine ke_bindO (by first | exact KeP.tr (by assumption) (ke_B_J7_fill_53178_5 _ _ _ _ _ _)) (fun _ _ => ?_) | refine ke_bindS (by first | exact KeS.tr (by assumption) (kes_pi _ _ _ _ _) | exact KeS.tr (by assumption) (kes_st _ _ _ _ _) | exact KeS.tr (by assumption) (kes_stl _ _ _ _) | exact KeS.tr (by assumption) (kes_cp _ _ _ _ _ _)) (fun _ _ => ?_) | refine ke_bindV (fun _ => ?_))
set_option maxRecDepth 4000 in
theorem ke_B_X3_has_28 (t : mk_S) : KeP t (B_X3_has_28 t) := by
  have h0 : Ke t t := Ke.rf
  unfold B_X3_has_28
  repeat' (with_reducible first | exact ke_none | exact ke_some (by assumption) | exact ke_rz (by assumption) | refine ke_ite ?_ ?_ | refine ke_gd ?_ | refine ke_bindS (by first | exact KeS.tr (by assumption) (kes_pi _ _ _ _ _) | exact KeS.tr (by assumption) (kes_st _ _ _ _ _) | exact KeS.tr (by assumption) (kes_stl _ _ _ _) | exact KeS.tr (by assumption) (kes_cp _ _ _ _ _ _)) (fun _ _ => ?_) | refine ke_bindV (fun _ => ?_))
set_option maxRecDepth 4000 in
theorem ke_F_X3_has (x0 : Nat) (x1 : Int32) (x2 : Int32) (t : mk_S) : KeP t (F_X3_has x0 x1 x2 t) := by
  have h0 : Ke t t := Ke.rf
  unfold F_X3_has
  repeat' (with_reducible first | exact ke_none | exact ke_some (by assumption) | exact ke_rz (by assumption) | exact KeP.tr (by assumption) (ke_B_X3_has_28 _) | refine ke_ite ?_ ?_ | refine ke_gd ?_ | refine ke_bindO (by first | exact KeP.tr (by assumption) (ke_B_X3_has_28 _)) (fun _ _ => ?_) | refine ke_bindS (by first | exact KeS.tr (by assumption) (kes_pi _ _ _ _ _) | exact KeS.tr (by assumption) (kes_st _ _ _ _ _) | exact KeS.tr (by assumption) (kes_stl _ _ _ _) | exact KeS.tr (by assumption) (kes_cp _ _ _ _ _ _)) (fun _ _ => ?_) | refine ke_bindV (fun _ => ?_))
set_option maxRecDepth 4000 in
theorem ke_B_X9_puff_109 (k42 : Nat → Nat → Int32 → Int32 → Int32 → Int32 → mk_S → Option (Unit × mk_S)) (h_k42 : ∀ (y0 : Nat) (y1 : Nat) (y2 : Int32) (y3 : Int32) (y4 : Int32) (y5 : Int32) (y6 : mk_S), KeP y6 (k42 y0 y1 y2 y3 y4 y5 y6)) (x0 : Nat) (x3 : Nat) (x4 : Int32) (x5 : Int32) (x6 : Int32) (x7 : Int32) (t : mk_S) : KeP t (B_X9_puff_109 k42 x0 x3 x4 x5 x6 x7 t) := by
  have h0 : Ke t t := Ke.rf
  unfold B_X9_puff_109
  repeat' (with_reducible first | exact ke_none | exact ke_some (by assumption) | exact ke_rz (by assumption) | exact KeP.tr (by assumption) (h_k42 _ _ _ _ _ _ _) | refine ke_ite ?_ ?_ | refine ke_gd ?_ | refine ke_bindO (by first | exact KeP.tr (by assumption) (h_k42 _ _ _ _ _ _ _)) (fun _ _ => ?_) | refine ke_bindS (by first | exact KeS.tr (by assumption) (kes_pi _ _ _ _ _) | exact KeS.tr (by assumption) (kes_st _ _ _ _ _) | exact KeS.tr (by assumption) (kes_stl _ _ _ _) | exact KeS.tr (by assumption) (kes_cp _ _ _ _ _ _)) (fun _ _ => ?_) | refine ke_bindV (fun _ => ?_))
set_option maxRecDepth 4000 in
theorem ke_B_X9_puff_42 : ∀ (n : Nat) (x0 : Nat) (x3 : Nat) (x4 : Int32) (x5 : Int32) (x6 : Int32) (x7 : Int32) (t : mk_S), KeP t (B_X9_puff_42  n x0 x3 x4 x5 x6 x7 t) := by
  intro n
  induction n with
  | zero =>
    intro x0 x3 x4 x5 x6 x7 t
    exact ke_none
  | succ n ih =>
    intro x0 x3 x4 x5 x6 x7 t
    have h0 : Ke t t := Ke.rf
    rw [B_X9_puff_42]
    repeat' (with_reducible first | exact ke_none | exact ke_some (by assumption) | exact ke_rz (by assumption) | exact KeP.tr (by assumption) (ke_F_X3_has _ _ _ _) | exact KeP.tr (by assumption) (ke_B_X9_puff_109 _ (by assumption) _ _ _ _ _ _ _) | exact KeP.tr (by assumption) (ih _ _ _ _ _ _ _) | refine ke_ite ?_ ?_ | refine ke_gd ?_ | refine ke_bindO (by first | exact KeP.tr (by assumption) (ke_F_X3_has _ _ _ _) | exact KeP.tr (by assumption) (ke_B_X9_puff_109 _ (by assumption) _ _ _ _ _ _ _) | exact KeP.tr (by assumption) (ih _ _ _ _ _ _ _)) (fun _ _ => ?_) | refine ke_bindS (by first | exact KeS.tr (by assumption) (kes_pi _ _ _ _ _) | exact KeS.tr (by assumption) (kes_st _ _ _ _ _) | exact KeS.tr (by assumption) (kes_stl _ _ _ _) | exact KeS.tr (by assumption) (kes_cp _ _ _ _ _ _)) (fun _ _ => ?_) | refine ke_bindV (fun _ => ?_))
set_option maxRecDepth 4000 in
theorem ke_F_X9_puff (x0 : Nat) (x1 : Nat) (x2 : Int32) (x3 : Nat) (t : mk_S) : KeP t (F_X9_puff x0 x1 x2 x3 t) := by
  have h0 : Ke t t := Ke.rf
  unfold F_X9_puff
  repeat' (with_reducible first | exact ke_none | exact ke_some (by assumption) | exact ke_rz (by assumption) | exact KeP.tr (by assumption) (ke_F_X3_rowOf _ _ _) | exact KeP.tr (by assumption) (ke_F_X3_columnOf _ _ _) | exact KeP.tr (by assumption) (ke_B_X9_puff_42 _ _ _ _ _ _ _ _) | refine ke_ite ?_ ?_ | refine ke_gd ?_ | refine ke_bindO (by first | exact KeP.tr (by assumption) (ke_F_X3_rowOf _ _ _) | exact KeP.tr (by assumption) (ke_F_X3_columnOf _ _ _) | exact KeP.tr (by assumption) (ke_B_X9_puff_42 _ _ _ _ _ _ _ _)) (fun _ _ => ?_) | refine ke_bindS (by first | exact KeS.tr (by assumption) (kes_pi _ _ _ _ _) | exact KeS.tr (by assumption) (kes_st _ _ _ _ _) | exact KeS.tr (by assumption) (kes_stl _ _ _ _) | exact KeS.tr (by assumption) (kes_cp _ _ _ _ _ _)) (fun _ _ => ?_) | refine ke_bindV (fun _ => ?_))
set_option maxRecDepth 4000 in
theorem ke_B_X9_blow_82 (k10 : Nat → Nat → Int32 → Int32 → mk_S → Option (Unit × mk_S)) (h_k10 : ∀ (y0 : Nat) (y1 : Nat) (y2 : Int32) (y3 : Int32) (y4 : mk_S), KeP y4 (k10 y0 y1 y2 y3 y4)) (x0 : Nat) (x1 : Nat) (x2 : Int32) (x3 : Int32) (t : mk_S) : KeP t (B_X9_blow_82 k10 x0 x1 x2 x3 t) := by
  have h0 : Ke t t := Ke.rf
  unfold B_X9_blow_82
  repeat' (with_reducible first | exact ke_none | exact ke_some (by assumption) | exact ke_rz (by assumption) | exact KeP.tr (by assumption) (h_k10 _ _ _ _ _) | refine ke_ite ?_ ?_ | refine ke_gd ?_ | refine ke_bindO (by first | exact KeP.tr (by assumption) (h_k10 _ _ _ _ _)) (fun _ _ => ?_) | refine ke_bindS (by first | exact KeS.tr (by assumption) (kes_pi _ _ _ _ _) | exact KeS.tr (by assumption) (kes_st _ _ _ _ _) | exact KeS.tr (by assumption) (kes_stl _ _ _ _) | exact KeS.tr (by assumption) (kes_cp _ _ _ _ _ _)) (fun _ _ => ?_) | refine ke_bindV (fun _ => ?_))
set_option maxRecDepth 4000 in
theorem ke_B_X9_blow_10 : ∀ (n : Nat) (x0 : Nat) (x1 : Nat) (x2 : Int32) (x3 : Int32) (t : mk_S), KeP t (B_X9_blow_10  n x0 x1 x2 x3 t) := by
  intro n
  induction n with
  | zero =>
    intro x0 x1 x2 x3 t
    exact ke_none
  | succ n ih =>
    intro x0 x1 x2 x3 t
    have h0 : Ke t t := Ke.rf
    rw [B_X9_blow_10]
    repeat' (with_reducible first | exact ke_none | exact ke_some (by assumption) | exact ke_rz (by assumption) | exact KeP.tr (by assumption) (ke_B_X9_blow_82 _ (by assumption) _ _ _ _ _) | exact KeP.tr (by assumption) (ke_F_X9_puff _ _ _ _ _) | exact KeP.tr (by assumption) (ih _ _ _ _ _) | refine ke_ite ?_ ?_ | refine ke_gd ?_ | refine ke_bindO (by first | exact KeP.tr (by assumption) (ke_B_X9_blow_82 _ (by assumption) _ _ _ _ _) | exact KeP.tr (by assumption) (ke_F_X9_puff _ _ _ _ _) | exact KeP.tr (by assumption) (ih _ _ _ _ _)) (fun _ _ => ?_) | refine ke_bindS (by first | exact KeS.tr (by assumption) (kes_pi _ _ _ _ _) | exact KeS.tr (by assumption) (kes_st _ _ _ _ _) | exact KeS.tr (by assumption) (kes_stl _ _ _ _) | exact KeS.tr (by assumption) (kes_cp _ _ _ _ _ _)) (fun _ _ => ?_) | refine ke_bindV (fun _ => ?_))
set_option maxRecDepth 4000 in
theorem ke_F_X9_blow (x0 : Nat) (x1 : Nat) (x2 : Int32) (t : mk_S) : KeP t (F_X9_blow x0 x1 x2 t) := by
  have h0 : Ke t t := Ke.rf
  unfold F_X9_blow
  repeat' (with_reducible first | exact ke_none | exact ke_some (by assumption) | exact ke_rz (by assumption) | exact KeP.tr (by assumption) (ke_F_J7_fill_53178 _ _ _) | exact KeP.tr (by assumption) (ke_B_X9_blow_10 _ _ _ _ _ _) | refine ke_ite ?_ ?_ | refine ke_gd ?_ | refine ke_bindO (by first | exact KeP.tr (by assumption) (ke_F_J7_fill_53178 _ _ _) | exact KeP.tr (by assumption) (ke_B_X9_blow_10 _ _ _ _ _ _)) (fun _ _ => ?_) | refine ke_bindS (by first | exact KeS.tr (by assumption) (kes_pi _ _ _ _ _) | exact KeS.tr (by assumption) (kes_st _ _ _ _ _) | exact KeS.tr (by assumption) (kes_stl _ _ _ _) | exact KeS.tr (by assumption) (kes_cp _ _ _ _ _ _)) (fun _ _ => ?_) | refine ke_bindV (fun _ => ?_))
set_option maxRecDepth 4000 in
theorem ke_B_X9_grind_2 : ∀ (n : Nat) (x0 : Nat) (x1 : Nat) (x2 : Int32) (t : mk_S), KeP t (B_X9_grind_2  n x0 x1 x2 t) := by
  intro n
  induction n with
  | zero =>
    intro x0 x1 x2 t
    exact ke_none
  | succ n ih =>
    intro x0 x1 x2 t
    have h0 : Ke t t := Ke.rf
    rw [B_X9_grind_2]
    repeat' (with_reducible first | exact ke_none | exact ke_some (by assumption) | exact ke_rz (by assumption) | exact KeP.tr (by assumption) (ke_F_X7_windAt _ _ _) | exact KeP.tr (by assumption) (ih _ _ _ _) | refine ke_ite ?_ ?_ | refine ke_gd ?_ | refine ke_bindO (by first | exact KeP.tr (by assumption) (ke_F_X7_windAt _ _ _) | exact KeP.tr (by assumption) (ih _ _ _ _)) (fun _ _ => ?_) | refine ke_bindS (by first | exact KeS.tr (by assumption) (kes_pi _ _ _ _ _) | exact KeS.tr (by assumption) (kes_st _ _ _ _ _) | exact KeS.tr (by assumption) (kes_stl _ _ _ _) | exact KeS.tr (by assumption) (kes_cp _ _ _ _ _ _)) (fun _ _ => ?_) | refine ke_bindV (fun _ => ?_))
set_option maxRecDepth 4000 in
theorem ke_F_X9_grind (x0 : Nat) (x1 : Nat) (t : mk_S) : KeP t (F_X9_grind x0 x1 t) := by
  have h0 : Ke t t := Ke.rf
  unfold F_X9_grind
  repeat' (with_reducible first | exact ke_none | exact ke_some (by assumption) | exact ke_rz (by assumption) | exact KeP.tr (by assumption) (ke_B_X9_grind_2 _ _ _ _ _) | refine ke_ite ?_ ?_ | refine ke_gd ?_ | refine ke_bindO (by first | exact KeP.tr (by assumption) (ke_B_X9_grind_2 _ _ _ _ _)) (fun _ _ => ?_) | refine ke_bindS (by first | exact KeS.tr (by assumption) (kes_pi _ _ _ _ _) | exact KeS.tr (by assumption) (kes_st _ _ _ _ _) | exact KeS.tr (by assumption) (kes_stl _ _ _ _) | exact KeS.tr (by assumption) (kes_cp _ _ _ _ _ _)) (fun _ _ => ?_) | refine ke_bindV (fun _ => ?_))
set_option maxRecDepth 4000 in
theorem ke_B_X9_unroof_41 (k2 : Nat → Nat → Int32 → mk_S → Option (Unit × mk_S)) (h_k2 : ∀ (y0 : Nat) (y1 : Nat) (y2 : Int32) (y3 : mk_S), KeP y3 (k2 y0 y1 y2 y3)) (x0 : Nat) (x1 : Nat) (x2 : Int32) (t : mk_S) : KeP t (B_X9_unroof_41 k2 x0 x1 x2 t) := by
  have h0 : Ke t t := Ke.rf
  unfold B_X9_unroof_41
  repeat' (with_reducible first | exact ke_none | exact ke_some (by assumption) | exact ke_rz (by assumption) | exact KeP.tr (by assumption) (h_k2 _ _ _ _) | refine ke_ite ?_ ?_ | refine ke_gd ?_ | refine ke_bindO (by first | exact KeP.tr (by assumption) (h_k2 _ _ _ _)) (fun _ _ => ?_) | refine ke_bindS (by first | exact KeS.tr (by assumption) (kes_pi _ _ _ _ _) | exact KeS.tr (by assumption) (kes_st _ _ _ _ _) | exact KeS.tr (by assumption) (kes_stl _ _ _ _) | exact KeS.tr (by assumption) (kes_cp _ _ _ _ _ _)) (fun _ _ => ?_) | refine ke_bindV (fun _ => ?_))
set_option maxRecDepth 4000 in
theorem ke_B_X9_unroof_2 : ∀ (n : Nat) (x0 : Nat) (x1 : Nat) (x2 : Int32) (t : mk_S), KeP t (B_X9_unroof_2  n x0 x1 x2 t) := by
  intro n
  induction n with
  | zero =>
    intro x0 x1 x2 t
    exact ke_none
  | succ n ih =>
    intro x0 x1 x2 t
    have h0 : Ke t t := Ke.rf
    rw [B_X9_unroof_2]
    repeat' (with_reducible first | exact ke_none | exact ke_some (by assumption) | exact ke_rz (by assumption) | exact KeP.tr (by assumption) (ke_F_X7_windAt _ _ _) | exact KeP.tr (by assumption) (ke_B_X9_unroof_41 _ (by assumption) _ _ _ _) | exact KeP.tr (by assumption) (ih _ _ _ _) | refine ke_ite ?_ ?_ | refine ke_gd ?_ | refine ke_bindO (by first | exact KeP.tr (by assumption) (ke_F_X7_windAt _ _ _) | exact KeP.tr (by assumption) (ke_B_X9_unroof_41 _ (by assumption) _ _ _ _) | exact KeP.tr (by assumption) (ih _ _ _ _)) (fun _ _ => ?_) | refine ke_bindS (by first | exact KeS.tr (by assumption) (kes_pi _ _ _ _ _) | exact KeS.tr (by assumption) (kes_st _ _ _ _ _) | exact KeS.tr (by assumption) (kes_stl _ _ _ _) | exact KeS.tr (by assumption) (kes_cp _ _ _ _ _ _)) (fun _ _ => ?_) | refine ke_bindV (fun _ => ?_))
set_option maxRecDepth 4000 in
theorem ke_F_X9_unroof (x0 : Nat) (x1 : Nat) (t : mk_S) : KeP t (F_X9_unroof x0 x1 t) := by
  have h0 : Ke t t := Ke.rf
  unfold F_X9_unroof
  repeat' (with_reducible first | exact ke_none | exact ke_some (by assumption) | exact ke_rz (by assumption) | exact KeP.tr (by assumption) (ke_B_X9_unroof_2 _ _ _ _ _) | refine ke_ite ?_ ?_ | refine ke_gd ?_ | refine ke_bindO (by first | exact KeP.tr (by assumption) (ke_B_X9_unroof_2 _ _ _ _ _)) (fun _ _ => ?_) | refine ke_bindS (by first | exact KeS.tr (by assumption) (kes_pi _ _ _ _ _) | exact KeS.tr (by assumption) (kes_st _ _ _ _ _) | exact KeS.tr (by assumption) (kes_stl _ _ _ _) | exact KeS.tr (by assumption) (kes_cp _ _ _ _ _ _)) (fun _ _ => ?_) | refine ke_bindV (fun _ => ?_))
set_option maxRecDepth 4000 in
theorem ke_B_X9_spread_10 : ∀ (n : Nat) (x0 : Nat) (x1 : Nat) (x2 : Int32) (t : mk_S), KeP t (B_X9_spread_10  n x0 x1 x2 t) := by
  intro n
  induction n with
  | zero =>
    intro x0 x1 x2 t
    exact ke_none
  | succ n ih =>
    intro x0 x1 x2 t
    have h0 : Ke t t := Ke.rf
    rw [B_X9_spread_10]
    repeat' (with_reducible first | exact ke_none | exact ke_some (by assumption) | exact ke_rz (by assumption) | exact KeP.tr (by assumption) (ke_F_X7_windAt _ _ _) | exact KeP.tr (by assumption) (ke_F_X7_urgeOn _ _ _ _) | exact KeP.tr (by assumption) (ih _ _ _ _) | refine ke_ite ?_ ?_ | refine ke_gd ?_ | refine ke_bindO (by first | exact KeP.tr (by assumption) (ke_F_X7_windAt _ _ _) | exact KeP.tr (by assumption) (ke_F_X7_urgeOn _ _ _ _) | exact KeP.tr (by assumption) (ih _ _ _ _)) (fun _ _ => ?_) | refine ke_bindS (by first | exact KeS.tr (by assumption) (kes_pi _ _ _ _ _) | exact KeS.tr (by assumption) (kes_st _ _ _ _ _) | exact KeS.tr (by assumption) (kes_stl _ _ _ _) | exact KeS.tr (by assumption) (kes_cp _ _ _ _ _ _)) (fun _ _ => ?_) | refine ke_bindV (fun _ => ?_))
set_option maxRecDepth 4000 in
theorem ke_F_X9_spread (x0 : Nat) (x1 : Nat) (t : mk_S) : KeP t (F_X9_spread x0 x1 t) := by
  have h0 : Ke t t := Ke.rf
  unfold F_X9_spread
  repeat' (with_reducible first | exact ke_none | exact ke_some (by assumption) | exact ke_rz (by assumption) | exact KeP.tr (by assumption) (ke_B_X9_spread_10 _ _ _ _ _) | refine ke_ite ?_ ?_ | refine ke_gd ?_ | refine ke_bindO (by first | exact KeP.tr (by assumption) (ke_B_X9_spread_10 _ _ _ _ _)) (fun _ _ => ?_) | refine ke_bindS (by first | exact KeS.tr (by assumption) (kes_pi _ _ _ _ _) | exact KeS.tr (by assumption) (kes_st _ _ _ _ _) | exact KeS.tr (by assumption) (kes_stl _ _ _ _) | exact KeS.tr (by assumption) (kes_cp _ _ _ _ _ _)) (fun _ _ => ?_) | refine ke_bindV (fun _ => ?_))
set_option maxRecDepth 4000 in
theorem ke_B_X9_pass_3 : ∀ (n : Nat) (x0 : Nat) (x1 : Nat) (x2 : Option Nat) (x3 : Nat) (x4 : Int32) (x5 : Int32) (t : mk_S), KeP t (B_X9_pass_3  n x0 x1 x2 x3 x4 x5 t) := by
  intro n
  induction n with
  | zero =>
    intro x0 x1 x2 x3 x4 x5 t
    exact ke_none
  | succ n ih =>
    intro x0 x1 x2 x3 x4 x5 t
    have h0 : Ke t t := Ke.rf
    rw [B_X9_pass_3]
    repeat' (with_reducible first | exact ke_none | exact ke_some (by assumption) | exact ke_rz (by assumption) | exact KeP.tr (by assumption) (ke_F_X9_giversOf _ _ _ _ _ _) | exact KeP.tr (by assumption) (ke_F_X9_blow _ _ _ _) | exact KeP.tr (by assumption) (ke_F_X9_grind _ _ _) | exact KeP.tr (by assumption) (ke_F_X9_unroof _ _ _) | exact KeP.tr (by assumption) (ke_F_X9_spread _ _ _) | exact KeP.tr (by assumption) (ke_F_X7_urgeOn _ _ _ _) | exact KeP.tr (by assumption) (ih _ _ _ _ _ _ _) | refine ke_ite ?_ ?_ | refine ke_gd ?_ | refine ke_bindO (by first | exact KeP.tr (by assumption) (ke_F_X9_giversOf _ _ _ _ _ _) | exact KeP.tr (by assumption) (ke_F_X9_blow _ _ _ _) | exact KeP.tr (by assumption) (ke_F_X9_grind _ _ _) | exact KeP.tr (by assumption) (ke_F_X9_unroof _ _ _) | exact KeP.tr (by assumption) (ke_F_X9_spread _ _ _) | exact KeP.tr (by assumption) (ke_F_X7_urgeOn _ _ _ _) | exact KeP.tr (by assumption) (ih _ _ _ _ _ _ _)) (fun _ _ => ?_) | refine ke_bindS (by first | exact KeS.tr (by assumption) (kes_pi _ _ _ _ _) | exact KeS.tr (by assumption) (kes_st _ _ _ _ _) | exact KeS.tr (by assumption) (kes_stl _ _ _ _) | exact KeS.tr (by assumption) (kes_cp _ _ _ _ _ _)) (fun _ _ => ?_) | refine ke_bindV (fun _ => ?_))
set_option maxRecDepth 4000 in
theorem ke_F_X9_pass (x0 : Nat) (x1 : Nat) (x2 : Option Nat) (x3 : Nat) (x4 : Int32) (t : mk_S) : KeP t (F_X9_pass x0 x1 x2 x3 x4 t) := by
  have h0 : Ke t t := Ke.rf
  unfold F_X9_pass
  repeat' (with_reducible first | exact ke_none | exact ke_some (by assumption) | exact ke_rz (by assumption) | exact KeP.tr (by assumption) (ke_B_X9_pass_3 _ _ _ _ _ _ _ _) | refine ke_ite ?_ ?_ | refine ke_gd ?_ | refine ke_bindO (by first | exact KeP.tr (by assumption) (ke_B_X9_pass_3 _ _ _ _ _ _ _ _)) (fun _ _ => ?_) | refine ke_bindS (by first | exact KeS.tr (by assumption) (kes_pi _ _ _ _ _) | exact KeS.tr (by assumption) (kes_st _ _ _ _ _) | exact KeS.tr (by assumption) (kes_stl _ _ _ _) | exact KeS.tr (by assumption) (kes_cp _ _ _ _ _ _)) (fun _ _ => ?_) | refine ke_bindV (fun _ => ?_))
set_option maxRecDepth 4000 in
theorem ke_B_X2_goOn_8 : ∀ (n : Nat) (x0 : Nat) (x1 : Int32) (x2 : Int32) (x3 : Option Nat) (x4 : Int32) (t : mk_S), KeP t (B_X2_goOn_8  n x0 x1 x2 x3 x4 t) := by
  intro n
  induction n with
  | zero =>
    intro x0 x1 x2 x3 x4 t
    exact ke_none
  | succ n ih =>
    intro x0 x1 x2 x3 x4 t
    have h0 : Ke t t := Ke.rf
    rw [B_X2_goOn_8]
    repeat' (with_reducible first | exact ke_none | exact ke_some (by assumption) | exact ke_rz (by assumption) | exact KeP.tr (by assumption) (ke_F_X9_pass _ _ _ _ _ _) | exact KeP.tr (by assumption) (ih _ _ _ _ _ _) | refine ke_ite ?_ ?_ | refine ke_gd ?_ | refine ke_bindO (by first | exact KeP.tr (by assumption) (ke_F_X9_pass _ _ _ _ _ _) | exact KeP.tr (by assumption) (ih _ _ _ _ _ _)) (fun _ _ => ?_) | refine ke_bindS (by first | exact KeS.tr (by assumption) (kes_pi _ _ _ _ _) | exact KeS.tr (by assumption) (kes_st _ _ _ _ _) | exact KeS.tr (by assumption) (kes_stl _ _ _ _) | exact KeS.tr (by assumption) (kes_cp _ _ _ _ _ _)) (fun _ _ => ?_) | refine ke_bindV (fun _ => ?_))
set_option maxRecDepth 4000 in
theorem ke_F_X2_goOn (x0 : Nat) (x1 : Int32) (x2 : Int32) (t : mk_S) : KeP t (F_X2_goOn x0 x1 x2 t) := by
  have h0 : Ke t t := Ke.rf
  unfold F_X2_goOn
  repeat' (with_reducible first | exact ke_none | exact ke_some (by assumption) | exact ke_rz (by assumption) | exact KeP.tr (by assumption) (ke_F_X2_inForce _ _) | exact KeP.tr (by assumption) (ke_B_X2_goOn_8 _ _ _ _ _ _ _) | refine ke_ite ?_ ?_ | refine ke_gd ?_ | refine ke_bindO (by first | exact KeP.tr (by assumption) (ke_F_X2_inForce _ _) | exact KeP.tr (by assumption) (ke_B_X2_goOn_8 _ _ _ _ _ _ _)) (fun _ _ => ?_) | refine ke_bindS (by first | exact KeS.tr (by assumption) (kes_pi _ _ _ _ _) | exact KeS.tr (by assumption) (kes_st _ _ _ _ _) | exact KeS.tr (by assumption) (kes_stl _ _ _ _) | exact KeS.tr (by assumption) (kes_cp _ _ _ _ _ _)) (fun _ _ => ?_) | refine ke_bindV (fun _ => ?_))
set_option maxRecDepth 4000 in
theorem ke_B_X2_aheadBy_70 (t : mk_S) : KeP t (B_X2_aheadBy_70 t) := by
  have h0 : Ke t t := Ke.rf
  unfold B_X2_aheadBy_70
  repeat' (with_reducible first | exact ke_none | exact ke_some (by assumption) | exact ke_rz (by assumption) | refine ke_ite ?_ ?_ | refine ke_gd ?_ | refine ke_bindS (by first | exact KeS.tr (by assumption) (kes_pi _ _ _ _ _) | exact KeS.tr (by assumption) (kes_st _ _ _ _ _) | exact KeS.tr (by assumption) (kes_stl _ _ _ _) | exact KeS.tr (by assumption) (kes_cp _ _ _ _ _ _)) (fun _ _ => ?_) | refine ke_bindV (fun _ => ?_))
set_option maxRecDepth 4000 in
theorem ke_B_X2_aheadBy_93 (t : mk_S) : KeP t (B_X2_aheadBy_93 t) := by
  have h0 : Ke t t := Ke.rf
  unfold B_X2_aheadBy_93
  repeat' (with_reducible first | exact ke_none | exact ke_some (by assumption) | exact ke_rz (by assumption) | refine ke_ite ?_ ?_ | refine ke_gd ?_ | refine ke_bindS (by first | exact KeS.tr (by assumption) (kes_pi _ _ _ _ _) | exact KeS.tr (by assumption) (kes_st _ _ _ _ _) | exact KeS.tr (by assumption) (kes_stl _ _ _ _) | exact KeS.tr (by assumption) (kes_cp _ _ _ _ _ _)) (fun _ _ => ?_) | refine ke_bindV (fun _ => ?_))
set_option maxRecDepth 4000 in
theorem ke_F_X2_aheadBy (x0 : Nat) (x1 : Int32) (x2 : Int32) (x3 : Int32) (t : mk_S) : KeP t (F_X2_aheadBy x0 x1 x2 x3 t) := by
  have h0 : Ke t t := Ke.rf
  unfold F_X2_aheadBy
  repeat' (with_reducible first | exact ke_none | exact ke_some (by assumption) | exact ke_rz (by assumption) | exact KeP.tr (by assumption) (ke_F_X7_copyFrom _ _ _) | exact KeP.tr (by assumption) (ke_F_X2_goOn _ _ _ _) | exact KeP.tr (by assumption) (ke_B_X2_aheadBy_70 _) | exact KeP.tr (by assumption) (ke_B_X2_aheadBy_93 _) | exact KeP.tr (by assumption) (ke_F_X7_windAt _ _ _) | refine ke_ite ?_ ?_ | refine ke_gd ?_ | refine ke_bindO (by first | exact KeP.tr (by assumption) (ke_F_X7_copyFrom _ _ _) | exact KeP.tr (by assumption) (ke_F_X2_goOn _ _ _ _) | exact KeP.tr (by assumption) (ke_B_X2_aheadBy_70 _) | exact KeP.tr (by assumption) (ke_B_X2_aheadBy_93 _) | exact KeP.tr (by assumption) (ke_F_X7_windAt _ _ _)) (fun _ _ => ?_) | refine ke_bindS (by first | exact KeS.tr (by assumption) (kes_pi _ _ _ _ _) | exact KeS.tr (by assumption) (kes_st _ _ _ _ _) | exact KeS.tr (by assumption) (kes_stl _ _ _ _) | exact KeS.tr (by assumption) (kes_cp _ _ _ _ _ _)) (fun _ _ => ?_) | refine ke_bindV (fun _ => ?_))
set_option maxRecDepth 4000 in
theorem ke_B_X2_firstHour_22 : ∀ (n : Nat) (x0 : Nat) (x1 : Int32) (x2 : Int32) (x3 : Option Nat) (x4 : Int32) (t : mk_S), KeP t (B_X2_firstHour_22  n x0 x1 x2 x3 x4 t) := by
  intro n
  induction n with
  | zero =>
    intro x0 x1 x2 x3 x4 t
    exact ke_none
  | succ n ih =>
    intro x0 x1 x2 x3 x4 t
    have h0 : Ke t t := Ke.rf
    rw [B_X2_firstHour_22]
    repeat' (with_reducible first | exact ke_none | exact ke_some (by assumption) | exact ke_rz (by assumption) | exact KeP.tr (by assumption) (ke_F_X9_pass _ _ _ _ _ _) | exact KeP.tr (by assumption) (ke_F_J6_bitCount_0f7a4 _ _) | exact KeP.tr (by assumption) (ih _ _ _ _ _ _) | refine ke_ite ?_ ?_ | refine ke_gd ?_ | refine ke_bindO (by first | exact KeP.tr (by assumption) (ke_F_X9_pass _ _ _ _ _ _) | exact KeP.tr (by assumption) (ke_F_J6_bitCount_0f7a4 _ _) | exact KeP.tr (by assumption) (ih _ _ _ _ _ _)) (fun _ _ => ?_) | refine ke_bindS (by first | exact KeS.tr (by assumption) (kes_pi _ _ _ _ _) | exact KeS.tr (by assumption) (kes_st _ _ _ _ _) | exact KeS.tr (by assumption) (kes_stl _ _ _ _) | exact KeS.tr (by assumption) (kes_cp _ _ _ _ _ _)) (fun _ _ => ?_) | refine ke_bindV (fun _ => ?_))
set_option maxRecDepth 4000 in
theorem ke_F_X2_firstHour (x0 : Nat) (x1 : Int32) (x2 : Int32) (t : mk_S) : KeP t (F_X2_firstHour x0 x1 x2 t) := by
  have h0 : Ke t t := Ke.rf
  unfold F_X2_firstHour
  repeat' (with_reducible first | exact ke_none | exact ke_some (by assumption) | exact ke_rz (by assumption) | exact KeP.tr (by assumption) (ke_F_X7_copyFrom _ _ _) | exact KeP.tr (by assumption) (ke_F_X2_inForce _ _) | exact KeP.tr (by assumption) (ke_B_X2_firstHour_22 _ _ _ _ _ _ _) | refine ke_ite ?_ ?_ | refine ke_gd ?_ | refine ke_bindO (by first | exact KeP.tr (by assumption) (ke_F_X7_copyFrom _ _ _) | exact KeP.tr (by assumption) (ke_F_X2_inForce _ _) | exact KeP.tr (by assumption) (ke_B_X2_firstHour_22 _ _ _ _ _ _ _)) (fun _ _ => ?_) | refine ke_bindS (by first | exact KeS.tr (by assumption) (kes_pi _ _ _ _ _) | exact KeS.tr (by assumption) (kes_st _ _ _ _ _) | exact KeS.tr (by assumption) (kes_stl _ _ _ _) | exact KeS.tr (by assumption) (kes_cp _ _ _ _ _ _)) (fun _ _ => ?_) | refine ke_bindV (fun _ => ?_))
set_option maxRecDepth 4000 in
theorem ke_F_X2_forgetWays (x0 : Nat) (t : mk_S) : KeP t (F_X2_forgetWays x0 t) := by
  have h0 : Ke t t := Ke.rf
  unfold F_X2_forgetWays
  repeat' (with_reducible first | exact ke_none | exact ke_some (by assumption) | exact ke_rz (by assumption) | refine ke_ite ?_ ?_ | refine ke_gd ?_ | refine ke_bindS (by first | exact KeS.tr (by assumption) (kes_pi _ _ _ _ _) | exact KeS.tr (by assumption) (kes_st _ _ _ _ _) | exact KeS.tr (by assumption) (kes_stl _ _ _ _) | exact KeS.tr (by assumption) (kes_cp _ _ _ _ _ _)) (fun _ _ => ?_) | refine ke_bindV (fun _ => ?_))
