set_option maxRecDepth 4000 in
theorem ke_B_X6_readBehind_22 (x0 : Nat) (x1 : Nat) (x2 : Nat) (x3 : Int32) (x4 : Int32) (t : mk_S) : KeP t (B_X6_readBehind_22 x0 x1 x2 x3 x4 t) := by
  have h0 : Ke t t := Ke.rf
  unfold B_X6_readBehind_22
  repeat' (with_reducible first | exact ke_none | exact ke_some (by assumption) | exact ke_rz (by assumption) | exact KeP.tr (by assumption) (ke_B_X6_readBehind_27 _ _ _ _ _ _ _) | refine ke_ite ?_ ?_ | refine ke_gd ?_ | refine ke_bindO (by first | exact KeP.tr (by assumption) (ke_B_X6_readBehind_27 _ _ _ _ _ _ _)) (fun _ _ => ?_) | refine ke_bindS (by first | exact KeS.tr (by assumption) (kes_pi _ _ _ _ _) | exact KeS.tr (by assumption) (kes_st _ _ _ _ _) | exact KeS.tr (by assumption) (kes_stl _ _ _ _) | exact KeS.tr (by assumption) (kes_cp _ _ _ _ _ _)) (fun _ _ => ?_) | refine ke_bindV (fun _ => ?_))
set_option maxRecDepth 4000 in
theorem ke_F_X6_readBehind (x0 : Nat) (x1 : Nat) (x2 : Nat) (t : mk_S) : KeP t (F_X6_readBehind x0 x1 x2 t) := by
  have h0 : Ke t t := Ke.rf
  unfold F_X6_readBehind
  refine ke_gd ?_
  refine ke_bindV (fun v1 => ?_)
  refine ke_bindO (KeP.tr h0 (ke_F_X6_bindingOf _ _)) (fun z hz => ?_)
  refine ke_ite ?_ (ke_ite ?_ ?_)
  · exact KeP.tr hz (ke_B_X6_readBehind_22 _ _ _ _ _ _)
  · exact KeP.tr hz (ke_B_X6_readBehind_22 _ _ _ _ _ _)
  · exact KeP.tr hz (ke_B_X6_readBehind_27 _ _ _ _ _ _ _)
set_option maxRecDepth 4000 in
theorem ke_F_X6_readOn (x0 : Nat) (x1 : Nat) (x2 : Nat) (t : mk_S) : KeP t (F_X6_readOn x0 x1 x2 t) := by
  have h0 : Ke t t := Ke.rf
  unfold F_X6_readOn
  repeat' (with_reducible first | exact ke_none | exact ke_some (by assumption) | exact ke_rz (by assumption) | exact KeP.tr (by assumption) (ke_F_X6_readClause _ _ _ _) | exact KeP.tr (by assumption) (ke_F_X6_readValue _ _ _ _) | exact KeP.tr (by assumption) (ke_F_X6_readFact _ _ _ _) | exact KeP.tr (by assumption) (ke_F_X6_readBehind _ _ _ _) | refine ke_ite ?_ ?_ | refine ke_gd ?_ | refine ke_bindO (by first | exact KeP.tr (by assumption) (ke_F_X6_readClause _ _ _ _) | exact KeP.tr (by assumption) (ke_F_X6_readValue _ _ _ _) | exact KeP.tr (by assumption) (ke_F_X6_readFact _ _ _ _) | exact KeP.tr (by assumption) (ke_F_X6_readBehind _ _ _ _)) (fun _ _ => ?_) | refine ke_bindS (by first | exact KeS.tr (by assumption) (kes_pi _ _ _ _ _) | exact KeS.tr (by assumption) (kes_st _ _ _ _ _) | exact KeS.tr (by assumption) (kes_stl _ _ _ _) | exact KeS.tr (by assumption) (kes_cp _ _ _ _ _ _)) (fun _ _ => ?_) | refine ke_bindV (fun _ => ?_))
set_option maxRecDepth 4000 in
theorem ke_B_X6_read_30 : ∀ (n : Nat) (x0 : Nat) (x1 : Nat) (x2 : Nat) (x3 : Int32) (t : mk_S), KeP t (B_X6_read_30  n x0 x1 x2 x3 t) := by
  intro n
  induction n with
  | zero =>
    intro x0 x1 x2 x3 t
    exact ke_none
  | succ n ih =>
    intro x0 x1 x2 x3 t
    have h0 : Ke t t := Ke.rf
    rw [B_X6_read_30]
    repeat' (with_reducible first | exact ke_none | exact ke_some (by assumption) | exact ke_rz (by assumption) | exact KeP.tr (by assumption) (ke_F_X8_isSound _ _) | exact KeP.tr (by assumption) (ke_F_X8_advance _ _) | exact KeP.tr (by assumption) (ke_F_X6_readOn _ _ _ _) | exact KeP.tr (by assumption) (ih _ _ _ _ _) | refine ke_ite ?_ ?_ | refine ke_gd ?_ | refine ke_bindO (by first | exact KeP.tr (by assumption) (ke_F_X8_isSound _ _) | exact KeP.tr (by assumption) (ke_F_X8_advance _ _) | exact KeP.tr (by assumption) (ke_F_X6_readOn _ _ _ _) | exact KeP.tr (by assumption) (ih _ _ _ _ _)) (fun _ _ => ?_) | refine ke_bindS (by first | exact KeS.tr (by assumption) (kes_pi _ _ _ _ _) | exact KeS.tr (by assumption) (kes_st _ _ _ _ _) | exact KeS.tr (by assumption) (kes_stl _ _ _ _) | exact KeS.tr (by assumption) (kes_cp _ _ _ _ _ _)) (fun _ _ => ?_) | refine ke_bindV (fun _ => ?_))
set_option maxRecDepth 4000 in
theorem ke_F_X6_read (x0 : Nat) (x1 : Nat) (x2 : Nat) (t : mk_S) : KeP t (F_X6_read x0 x1 x2 t) := by
  have h0 : Ke t t := Ke.rf
  unfold F_X6_read
  repeat' (with_reducible first | exact ke_none | exact ke_some (by assumption) | exact ke_rz (by assumption) | exact KeP.tr (by assumption) (ke_F_X8_open _ _) | exact KeP.tr (by assumption) (ke_F_X5_clear _ _) | exact KeP.tr (by assumption) (ke_B_X6_read_30 _ _ _ _ _ _) | refine ke_ite ?_ ?_ | refine ke_gd ?_ | refine ke_bindO (by first | exact KeP.tr (by assumption) (ke_F_X8_open _ _) | exact KeP.tr (by assumption) (ke_F_X5_clear _ _) | exact KeP.tr (by assumption) (ke_B_X6_read_30 _ _ _ _ _ _)) (fun _ _ => ?_) | refine ke_bindS (by first | exact KeS.tr (by assumption) (kes_pi _ _ _ _ _) | exact KeS.tr (by assumption) (kes_st _ _ _ _ _) | exact KeS.tr (by assumption) (kes_stl _ _ _ _) | exact KeS.tr (by assumption) (kes_cp _ _ _ _ _ _)) (fun _ _ => ?_) | refine ke_bindV (fun _ => ?_))
set_option maxRecDepth 4000 in
theorem ke_F_X7_actedInAll (x0 : Nat) (t : mk_S) : KeP t (F_X7_actedInAll x0 t) := by
  have h0 : Ke t t := Ke.rf
  unfold F_X7_actedInAll
  repeat' (with_reducible first | exact ke_none | exact ke_some (by assumption) | exact ke_rz (by assumption) | exact KeP.tr (by assumption) (ke_F_X7_sum _ _) | refine ke_ite ?_ ?_ | refine ke_gd ?_ | refine ke_bindO (by first | exact KeP.tr (by assumption) (ke_F_X7_sum _ _)) (fun _ _ => ?_) | refine ke_bindS (by first | exact KeS.tr (by assumption) (kes_pi _ _ _ _ _) | exact KeS.tr (by assumption) (kes_st _ _ _ _ _) | exact KeS.tr (by assumption) (kes_stl _ _ _ _) | exact KeS.tr (by assumption) (kes_cp _ _ _ _ _ _)) (fun _ _ => ?_) | refine ke_bindV (fun _ => ?_))
set_option maxRecDepth 4000 in
theorem ke_B_X7_share_101 (k42 : Nat → Int32 → Int32 → Int32 → Int32 → Int32 → Int32 → Int32 → mk_S → Option (Int32 × mk_S)) (h_k42 : ∀ (y0 : Nat) (y1 : Int32) (y2 : Int32) (y3 : Int32) (y4 : Int32) (y5 : Int32) (y6 : Int32) (y7 : Int32) (y8 : mk_S), KeP y8 (k42 y0 y1 y2 y3 y4 y5 y6 y7 y8)) (x0 : Nat) (x1 : Int32) (x2 : Int32) (x3 : Int32) (x4 : Int32) (x5 : Int32) (x6 : Int32) (x7 : Int32) (t : mk_S) : KeP t (B_X7_share_101 k42 x0 x1 x2 x3 x4 x5 x6 x7 t) := by
  have h0 : Ke t t := Ke.rf
  unfold B_X7_share_101
  repeat' (with_reducible first | exact ke_none | exact ke_some (by assumption) | exact ke_rz (by assumption) | exact KeP.tr (by assumption) (h_k42 _ _ _ _ _ _ _ _ _) | refine ke_ite ?_ ?_ | refine ke_gd ?_ | refine ke_bindO (by first | exact KeP.tr (by assumption) (h_k42 _ _ _ _ _ _ _ _ _)) (fun _ _ => ?_) | refine ke_bindS (by first | exact KeS.tr (by assumption) (kes_pi _ _ _ _ _) | exact KeS.tr (by assumption) (kes_st _ _ _ _ _) | exact KeS.tr (by assumption) (kes_stl _ _ _ _) | exact KeS.tr (by assumption) (kes_cp _ _ _ _ _ _)) (fun _ _ => ?_) | refine ke_bindV (fun _ => ?_))
set_option maxRecDepth 4000 in
theorem ke_B_X7_share_98 (k42 : Nat → Int32 → Int32 → Int32 → Int32 → Int32 → Int32 → Int32 → mk_S → Option (Int32 × mk_S)) (h_k42 : ∀ (y0 : Nat) (y1 : Int32) (y2 : Int32) (y3 : Int32) (y4 : Int32) (y5 : Int32) (y6 : Int32) (y7 : Int32) (y8 : mk_S), KeP y8 (k42 y0 y1 y2 y3 y4 y5 y6 y7 y8)) (x0 : Nat) (x1 : Int32) (x2 : Int32) (x3 : Int32) (x4 : Int32) (x5 : Int32) (x6 : Int32) (x7 : Int32) (t : mk_S) : KeP t (B_X7_share_98 k42 x0 x1 x2 x3 x4 x5 x6 x7 t) := by
  have h0 : Ke t t := Ke.rf
  unfold B_X7_share_98
  repeat' (with_reducible first | exact ke_none | exact ke_some (by assumption) | exact ke_rz (by assumption) | exact KeP.tr (by assumption) (ke_B_X7_share_101 _ (by assumption) _ _ _ _ _ _ _ _ _) | exact KeP.tr (by assumption) (h_k42 _ _ _ _ _ _ _ _ _) | refine ke_ite ?_ ?_ | refine ke_gd ?_ | refine ke_bindO (by first | exact KeP.tr (by assumption) (ke_B_X7_share_101 _ (by assumption) _ _ _ _ _ _ _ _ _) | exact KeP.tr (by assumption) (h_k42 _ _ _ _ _ _ _ _ _)) (fun _ _ => ?_) | refine ke_bindS (by first | exact KeS.tr (by assumption) (kes_pi _ _ _ _ _) | exact KeS.tr (by assumption) (kes_st _ _ _ _ _) | exact KeS.tr (by assumption) (kes_stl _ _ _ _) | exact KeS.tr (by assumption) (kes_cp _ _ _ _ _ _)) (fun _ _ => ?_) | refine ke_bindV (fun _ => ?_))
set_option maxRecDepth 4000 in
theorem ke_B_X7_share_42 : ∀ (n : Nat) (x0 : Nat) (x1 : Int32) (x2 : Int32) (x3 : Int32) (x4 : Int32) (x5 : Int32) (x6 : Int32) (x7 : Int32) (t : mk_S), KeP t (B_X7_share_42  n x0 x1 x2 x3 x4 x5 x6 x7 t) := by
  intro n
  induction n with
  | zero =>
    intro x0 x1 x2 x3 x4 x5 x6 x7 t
    exact ke_none
  | succ n ih =>
    intro x0 x1 x2 x3 x4 x5 x6 x7 t
    have h0 : Ke t t := Ke.rf
    rw [B_X7_share_42]
    repeat' (with_reducible first | exact ke_none | exact ke_some (by assumption) | exact ke_rz (by assumption) | exact KeP.tr (by assumption) (ke_B_X7_share_98 _ (by assumption) _ _ _ _ _ _ _ _ _) | exact KeP.tr (by assumption) (ke_B_X7_share_101 _ (by assumption) _ _ _ _ _ _ _ _ _) | exact KeP.tr (by assumption) (ih _ _ _ _ _ _ _ _ _) | refine ke_ite ?_ ?_ | refine ke_gd ?_ | refine ke_bindO (by first | exact KeP.tr (by assumption) (ke_B_X7_share_98 _ (by assumption) _ _ _ _ _ _ _ _ _) | exact KeP.tr (by assumption) (ke_B_X7_share_101 _ (by assumption) _ _ _ _ _ _ _ _ _) | exact KeP.tr (by assumption) (ih _ _ _ _ _ _ _ _ _)) (fun _ _ => ?_) | refine ke_bindS (by first | exact KeS.tr (by assumption) (kes_pi _ _ _ _ _) | exact KeS.tr (by assumption) (kes_st _ _ _ _ _) | exact KeS.tr (by assumption) (kes_stl _ _ _ _) | exact KeS.tr (by assumption) (kes_cp _ _ _ _ _ _)) (fun _ _ => ?_) | refine ke_bindV (fun _ => ?_))
set_option maxRecDepth 4000 in
theorem ke_F_X7_share (x0 : Nat) (x1 : Int32) (x2 : Int32) (t : mk_S) : KeP t (F_X7_share x0 x1 x2 t) := by
  have h0 : Ke t t := Ke.rf
  unfold F_X7_share
  repeat' (with_reducible first | exact ke_none | exact ke_some (by assumption) | exact ke_rz (by assumption) | exact KeP.tr (by assumption) (ke_F_X7_actedInAll _ _) | exact KeP.tr (by assumption) (ke_B_X7_share_42 _ _ _ _ _ _ _ _ _ _) | refine ke_ite ?_ ?_ | refine ke_gd ?_ | refine ke_bindO (by first | exact KeP.tr (by assumption) (ke_F_X7_actedInAll _ _) | exact KeP.tr (by assumption) (ke_B_X7_share_42 _ _ _ _ _ _ _ _ _ _)) (fun _ _ => ?_) | refine ke_bindS (by first | exact KeS.tr (by assumption) (kes_pi _ _ _ _ _) | exact KeS.tr (by assumption) (kes_st _ _ _ _ _) | exact KeS.tr (by assumption) (kes_stl _ _ _ _) | exact KeS.tr (by assumption) (kes_cp _ _ _ _ _ _)) (fun _ _ => ?_) | refine ke_bindV (fun _ => ?_))
set_option maxRecDepth 4000 in
theorem ke_B_X8_add_43 (k3 : Nat → Int32 → Int32 → mk_S → Option (Unit × mk_S)) (h_k3 : ∀ (y0 : Nat) (y1 : Int32) (y2 : Int32) (y3 : mk_S), KeP y3 (k3 y0 y1 y2 y3)) (x0 : Nat) (x1 : Int32) (x2 : Int32) (t : mk_S) : KeP t (B_X8_add_43 k3 x0 x1 x2 t) := by
  have h0 : Ke t t := Ke.rf
  unfold B_X8_add_43
  repeat' (with_reducible first | exact ke_none | exact ke_some (by assumption) | exact ke_rz (by assumption) | exact KeP.tr (by assumption) (h_k3 _ _ _ _) | refine ke_ite ?_ ?_ | refine ke_gd ?_ | refine ke_bindO (by first | exact KeP.tr (by assumption) (h_k3 _ _ _ _)) (fun _ _ => ?_) | refine ke_bindS (by first | exact KeS.tr (by assumption) (kes_pi _ _ _ _ _) | exact KeS.tr (by assumption) (kes_st _ _ _ _ _) | exact KeS.tr (by assumption) (kes_stl _ _ _ _) | exact KeS.tr (by assumption) (kes_cp _ _ _ _ _ _)) (fun _ _ => ?_) | refine ke_bindV (fun _ => ?_))
set_option maxRecDepth 4000 in
theorem ke_B_X8_add_3 : ∀ (n : Nat) (x0 : Nat) (x1 : Int32) (x2 : Int32) (t : mk_S), KeP t (B_X8_add_3  n x0 x1 x2 t) := by
  intro n
  induction n with
  | zero =>
    intro x0 x1 x2 t
    exact ke_none
  | succ n ih =>
    intro x0 x1 x2 t
    have h0 : Ke t t := Ke.rf
    rw [B_X8_add_3]
    repeat' (with_reducible first | exact ke_none | exact ke_some (by assumption) | exact ke_rz (by assumption) | exact KeP.tr (by assumption) (ke_B_X8_add_43 _ (by assumption) _ _ _ _) | exact KeP.tr (by assumption) (ih _ _ _ _) | refine ke_ite ?_ ?_ | refine ke_gd ?_ | refine ke_bindO (by first | exact KeP.tr (by assumption) (ke_B_X8_add_43 _ (by assumption) _ _ _ _) | exact KeP.tr (by assumption) (ih _ _ _ _)) (fun _ _ => ?_) | refine ke_bindS (by first | exact KeS.tr (by assumption) (kes_pi _ _ _ _ _) | exact KeS.tr (by assumption) (kes_st _ _ _ _ _) | exact KeS.tr (by assumption) (kes_stl _ _ _ _) | exact KeS.tr (by assumption) (kes_cp _ _ _ _ _ _)) (fun _ _ => ?_) | refine ke_bindV (fun _ => ?_))
set_option maxRecDepth 4000 in
theorem ke_F_X8_add (x0 : Nat) (x1 : Int32) (t : mk_S) : KeP t (F_X8_add x0 x1 t) := by
  have h0 : Ke t t := Ke.rf
  unfold F_X8_add
  repeat' (with_reducible first | exact ke_none | exact ke_some (by assumption) | exact ke_rz (by assumption) | exact KeP.tr (by assumption) (ke_B_X8_add_3 _ _ _ _ _) | refine ke_ite ?_ ?_ | refine ke_gd ?_ | refine ke_bindO (by first | exact KeP.tr (by assumption) (ke_B_X8_add_3 _ _ _ _ _)) (fun _ _ => ?_) | refine ke_bindS (by first | exact KeS.tr (by assumption) (kes_pi _ _ _ _ _) | exact KeS.tr (by assumption) (kes_st _ _ _ _ _) | exact KeS.tr (by assumption) (kes_stl _ _ _ _) | exact KeS.tr (by assumption) (kes_cp _ _ _ _ _ _)) (fun _ _ => ?_) | refine ke_bindV (fun _ => ?_))
set_option maxRecDepth 4000 in
theorem ke_F_X8_clear (x0 : Nat) (t : mk_S) : KeP t (F_X8_clear x0 t) := by
  have h0 : Ke t t := Ke.rf
  unfold F_X8_clear
  repeat' (with_reducible first | exact ke_none | exact ke_some (by assumption) | exact ke_rz (by assumption) | refine ke_ite ?_ ?_ | refine ke_gd ?_ | refine ke_bindS (by first | exact KeS.tr (by assumption) (kes_pi _ _ _ _ _) | exact KeS.tr (by assumption) (kes_st _ _ _ _ _) | exact KeS.tr (by assumption) (kes_stl _ _ _ _) | exact KeS.tr (by assumption) (kes_cp _ _ _ _ _ _)) (fun _ _ => ?_) | refine ke_bindV (fun _ => ?_))
set_option maxRecDepth 4000 in
theorem ke_F_X10_begin (x0 : Nat) (x1 : Nat) (t : mk_S) : KeP t (F_X10_begin x0 x1 t) := by
  have h0 : Ke t t := Ke.rf
  unfold F_X10_begin
  repeat' (with_reducible first | exact ke_none | exact ke_some (by assumption) | exact ke_rz (by assumption) | exact KeP.tr (by assumption) (ke_F_X3_copyFrom _ _ _) | exact KeP.tr (by assumption) (ke_F_X7_begin _ _ _) | exact KeP.tr (by assumption) (ke_F_X0_clear _ _) | refine ke_ite ?_ ?_ | refine ke_gd ?_ | refine ke_bindO (by first | exact KeP.tr (by assumption) (ke_F_X3_copyFrom _ _ _) | exact KeP.tr (by assumption) (ke_F_X7_begin _ _ _) | exact KeP.tr (by assumption) (ke_F_X0_clear _ _)) (fun _ _ => ?_) | refine ke_bindS (by first | exact KeS.tr (by assumption) (kes_pi _ _ _ _ _) | exact KeS.tr (by assumption) (kes_st _ _ _ _ _) | exact KeS.tr (by assumption) (kes_stl _ _ _ _) | exact KeS.tr (by assumption) (kes_cp _ _ _ _ _ _)) (fun _ _ => ?_) | refine ke_bindV (fun _ => ?_))
set_option maxRecDepth 4000 in
theorem ke_F_X10_copyFrom (x0 : Nat) (x1 : Nat) (t : mk_S) : KeP t (F_X10_copyFrom x0 x1 t) := by
  have h0 : Ke t t := Ke.rf
  unfold F_X10_copyFrom
  repeat' (with_reducible first | exact ke_none | exact ke_some (by assumption) | exact ke_rz (by assumption) | exact KeP.tr (by assumption) (ke_F_X3_copyFrom _ _ _) | exact KeP.tr (by assumption) (ke_F_X7_copyFrom _ _ _) | exact KeP.tr (by assumption) (ke_F_X0_copyFrom _ _ _) | exact KeP.tr (by assumption) (ke_F_X1_copyFrom _ _ _) | refine ke_ite ?_ ?_ | refine ke_gd ?_ | refine ke_bindO (by first | exact KeP.tr (by assumption) (ke_F_X3_copyFrom _ _ _) | exact KeP.tr (by assumption) (ke_F_X7_copyFrom _ _ _) | exact KeP.tr (by assumption) (ke_F_X0_copyFrom _ _ _) | exact KeP.tr (by assumption) (ke_F_X1_copyFrom _ _ _)) (fun _ _ => ?_) | refine ke_bindS (by first | exact KeS.tr (by assumption) (kes_pi _ _ _ _ _) | exact KeS.tr (by assumption) (kes_st _ _ _ _ _) | exact KeS.tr (by assumption) (kes_stl _ _ _ _) | exact KeS.tr (by assumption) (kes_cp _ _ _ _ _ _)) (fun _ _ => ?_) | refine ke_bindV (fun _ => ?_))
set_option maxRecDepth 4000 in
theorem ke_F_X11_feed (x0 : Nat) (x1 : Int32) (x2 : Int32) (x3 : Int32) (x4 : Int32) (x5 : Int32) (t : mk_S) : KeP t (F_X11_feed x0 x1 x2 x3 x4 x5 t) := by
  have h0 : Ke t t := Ke.rf
  unfold F_X11_feed
  repeat' (with_reducible first | exact ke_none | exact ke_some (by assumption) | exact ke_rz (by assumption) | exact KeP.tr (by assumption) (ke_F_X8_add _ _ _) | refine ke_ite ?_ ?_ | refine ke_gd ?_ | refine ke_bindO (by first | exact KeP.tr (by assumption) (ke_F_X8_add _ _ _)) (fun _ _ => ?_) | refine ke_bindS (by first | exact KeS.tr (by assumption) (kes_pi _ _ _ _ _) | exact KeS.tr (by assumption) (kes_st _ _ _ _ _) | exact KeS.tr (by assumption) (kes_stl _ _ _ _) | exact KeS.tr (by assumption) (kes_cp _ _ _ _ _ _)) (fun _ _ => ?_) | refine ke_bindV (fun _ => ?_))
set_option maxRecDepth 4000 in
theorem ke_F_X11_end (x0 : Nat) (x1 : Int32) (t : mk_S) : KeP t (F_X11_end x0 x1 t) := by
  have h0 : Ke t t := Ke.rf
  unfold F_X11_end
  repeat' (with_reducible first | exact ke_none | exact ke_some (by assumption) | exact ke_rz (by assumption) | exact KeP.tr (by assumption) (ke_F_X11_within _ _ _ _) | refine ke_ite ?_ ?_ | refine ke_gd ?_ | refine ke_bindO (by first | exact KeP.tr (by assumption) (ke_F_X11_within _ _ _ _)) (fun _ _ => ?_) | refine ke_bindS (by first | exact KeS.tr (by assumption) (kes_pi _ _ _ _ _) | exact KeS.tr (by assumption) (kes_st _ _ _ _ _) | exact KeS.tr (by assumption) (kes_stl _ _ _ _) | exact KeS.tr (by assumption) (kes_cp _ _ _ _ _ _)) (fun _ _ => ?_) | refine ke_bindV (fun _ => ?_))
set_option maxRecDepth 4000 in
theorem ke_F_X11_plateau (x0 : Nat) (t : mk_S) : KeP t (F_X11_plateau x0 t) := by
  have h0 : Ke t t := Ke.rf
  unfold F_X11_plateau
  repeat' (with_reducible first | exact ke_none | exact ke_some (by assumption) | exact ke_rz (by assumption) | exact KeP.tr (by assumption) (ke_F_X4_read _ _ _) | exact KeP.tr (by assumption) (ke_F_X8_clear _ _) | exact KeP.tr (by assumption) (ke_F_X10_begin _ _ _) | refine ke_ite ?_ ?_ | refine ke_gd ?_ | refine ke_bindO (by first | exact KeP.tr (by assumption) (ke_F_X4_read _ _ _) | exact KeP.tr (by assumption) (ke_F_X8_clear _ _) | exact KeP.tr (by assumption) (ke_F_X10_begin _ _ _)) (fun _ _ => ?_) | refine ke_bindS (by first | exact KeS.tr (by assumption) (kes_pi _ _ _ _ _) | exact KeS.tr (by assumption) (kes_st _ _ _ _ _) | exact KeS.tr (by assumption) (kes_stl _ _ _ _) | exact KeS.tr (by assumption) (kes_cp _ _ _ _ _ _)) (fun _ _ => ?_) | refine ke_bindV (fun _ => ?_))
set_option maxRecDepth 4000 in
theorem ke_F_X11_rule (x0 : Nat) (t : mk_S) : KeP t (F_X11_rule x0 t) := by
  have h0 : Ke t t := Ke.rf
  unfold F_X11_rule
  repeat' (with_reducible first | exact ke_none | exact ke_some (by assumption) | exact ke_rz (by assumption) | exact KeP.tr (by assumption) (ke_F_X11_within _ _ _ _) | exact KeP.tr (by assumption) (ke_F_X6_read _ _ _ _) | exact KeP.tr (by assumption) (ke_F_X8_clear _ _) | refine ke_ite ?_ ?_ | refine ke_gd ?_ | refine ke_bindO (by first | exact KeP.tr (by assumption) (ke_F_X11_within _ _ _ _) | exact KeP.tr (by assumption) (ke_F_X6_read _ _ _ _) | exact KeP.tr (by assumption) (ke_F_X8_clear _ _)) (fun _ _ => ?_) | refine ke_bindS (by first | exact KeS.tr (by assumption) (kes_pi _ _ _ _ _) | exact KeS.tr (by assumption) (kes_st _ _ _ _ _) | exact KeS.tr (by assumption) (kes_stl _ _ _ _) | exact KeS.tr (by assumption) (kes_cp _ _ _ _ _ _)) (fun _ _ => ?_) | refine ke_bindV (fun _ => ?_))
set_option maxRecDepth 4000 in
theorem ke_F_X11_force (x0 : Nat) (x1 : Int32) (t : mk_S) : KeP t (F_X11_force x0 x1 t) := by
  have h0 : Ke t t := Ke.rf
  unfold F_X11_force
  repeat' (with_reducible first | exact ke_none | exact ke_some (by assumption) | exact ke_rz (by assumption) | exact KeP.tr (by assumption) (ke_F_X11_within _ _ _ _) | refine ke_ite ?_ ?_ | refine ke_gd ?_ | refine ke_bindO (by first | exact KeP.tr (by assumption) (ke_F_X11_within _ _ _ _)) (fun _ _ => ?_) | refine ke_bindS (by first | exact KeS.tr (by assumption) (kes_pi _ _ _ _ _) | exact KeS.tr (by assumption) (kes_st _ _ _ _ _) | exact KeS.tr (by assumption) (kes_stl _ _ _ _) | exact KeS.tr (by assumption) (kes_cp _ _ _ _ _ _)) (fun _ _ => ?_) | refine ke_bindV (fun _ => ?_))
set_option maxRecDepth 4000 in
theorem ke_F_X11_isPerson (x0 : Nat) (x1 : Int32) (t : mk_S) : KeP t (F_X11_isPerson x0 x1 t) := by
  have h0 : Ke t t := Ke.rf
  unfold F_X11_isPerson
  repeat' (with_reducible first | exact ke_none | exact ke_some (by assumption) | exact ke_rz (by assumption) | exact KeP.tr (by assumption) (ke_F_X11_within _ _ _ _) | refine ke_ite ?_ ?_ | refine ke_gd ?_ | refine ke_bindO (by first | exact KeP.tr (by assumption) (ke_F_X11_within _ _ _ _)) (fun _ _ => ?_) | refine ke_bindS (by first | exact KeS.tr (by assumption) (kes_pi _ _ _ _ _) | exact KeS.tr (by assumption) (kes_st _ _ _ _ _) | exact KeS.tr (by assumption) (kes_stl _ _ _ _) | exact KeS.tr (by assumption) (kes_cp _ _ _ _ _ _)) (fun _ _ => ?_) | refine ke_bindV (fun _ => ?_))
set_option maxRecDepth 4000 in
theorem ke_F_X11_person (x0 : Nat) (x1 : Int32) (x2 : Int32) (t : mk_S) : KeP t (F_X11_person x0 x1 x2 t) := by
  have h0 : Ke t t := Ke.rf
  unfold F_X11_person
  repeat' (with_reducible first | exact ke_none | exact ke_some (by assumption) | exact ke_rz (by assumption) | exact KeP.tr (by assumption) (ke_F_X11_isPerson _ _ _) | refine ke_ite ?_ ?_ | refine ke_gd ?_ | refine ke_bindO (by first | exact KeP.tr (by assumption) (ke_F_X11_isPerson _ _ _)) (fun _ _ => ?_) | refine ke_bindS (by first | exact KeS.tr (by assumption) (kes_pi _ _ _ _ _) | exact KeS.tr (by assumption) (kes_st _ _ _ _ _) | exact KeS.tr (by assumption) (kes_stl _ _ _ _) | exact KeS.tr (by assumption) (kes_cp _ _ _ _ _ _)) (fun _ _ => ?_) | refine ke_bindV (fun _ => ?_))
set_option maxRecDepth 4000 in
theorem ke_F_X11_isMill (x0 : Nat) (x1 : Int32) (t : mk_S) : KeP t (F_X11_isMill x0 x1 t) := by
  have h0 : Ke t t := Ke.rf
  unfold F_X11_isMill
  repeat' (with_reducible first | exact ke_none | exact ke_some (by assumption) | exact ke_rz (by assumption) | exact KeP.tr (by assumption) (ke_F_X11_within _ _ _ _) | refine ke_ite ?_ ?_ | refine ke_gd ?_ | refine ke_bindO (by first | exact KeP.tr (by assumption) (ke_F_X11_within _ _ _ _)) (fun _ _ => ?_) | refine ke_bindS (by first | exact KeS.tr (by assumption) (kes_pi _ _ _ _ _) | exact KeS.tr (by assumption) (kes_st _ _ _ _ _) | exact KeS.tr (by assumption) (kes_stl _ _ _ _) | exact KeS.tr (by assumption) (kes_cp _ _ _ _ _ _)) (fun _ _ => ?_) | refine ke_bindV (fun _ => ?_))
set_option maxRecDepth 4000 in
theorem ke_F_X11_mill (x0 : Nat) (x1 : Int32) (x2 : Int32) (t : mk_S) : KeP t (F_X11_mill x0 x1 x2 t) := by
  have h0 : Ke t t := Ke.rf
  unfold F_X11_mill
  repeat' (with_reducible first | exact ke_none | exact ke_some (by assumption) | exact ke_rz (by assumption) | exact KeP.tr (by assumption) (ke_F_X11_isMill _ _ _) | refine ke_ite ?_ ?_ | refine ke_gd ?_ | refine ke_bindO (by first | exact KeP.tr (by assumption) (ke_F_X11_isMill _ _ _)) (fun _ _ => ?_) | refine ke_bindS (by first | exact KeS.tr (by assumption) (kes_pi _ _ _ _ _) | exact KeS.tr (by assumption) (kes_st _ _ _ _ _) | exact KeS.tr (by assumption) (kes_stl _ _ _ _) | exact KeS.tr (by assumption) (kes_cp _ _ _ _ _ _)) (fun _ _ => ?_) | refine ke_bindV (fun _ => ?_))
set_option maxRecDepth 4000 in
theorem ke_F_X11_isRoof (x0 : Nat) (x1 : Int32) (t : mk_S) : KeP t (F_X11_isRoof x0 x1 t) := by
  have h0 : Ke t t := Ke.rf
  unfold F_X11_isRoof
  repeat' (with_reducible first | exact ke_none | exact ke_some (by assumption) | exact ke_rz (by assumption) | exact KeP.tr (by assumption) (ke_F_X11_within _ _ _ _) | refine ke_ite ?_ ?_ | refine ke_gd ?_ | refine ke_bindO (by first | exact KeP.tr (by assumption) (ke_F_X11_within _ _ _ _)) (fun _ _ => ?_) | refine ke_bindS (by first | exact KeS.tr (by assumption) (kes_pi _ _ _ _ _) | exact KeS.tr (by assumption) (kes_st _ _ _ _ _) | exact KeS.tr (by assumption) (kes_stl _ _ _ _) | exact KeS.tr (by assumption) (kes_cp _ _ _ _ _ _)) (fun _ _ => ?_) | refine ke_bindV (fun _ => ?_))
set_option maxRecDepth 4000 in
theorem ke_F_X11_roof (x0 : Nat) (x1 : Int32) (x2 : Int32) (t : mk_S) : KeP t (F_X11_roof x0 x1 x2 t) := by
  have h0 : Ke t t := Ke.rf
  unfold F_X11_roof
  repeat' (with_reducible first | exact ke_none | exact ke_some (by assumption) | exact ke_rz (by assumption) | exact KeP.tr (by assumption) (ke_F_X11_isRoof _ _ _) | refine ke_ite ?_ ?_ | refine ke_gd ?_ | refine ke_bindO (by first | exact KeP.tr (by assumption) (ke_F_X11_isRoof _ _ _)) (fun _ _ => ?_) | refine ke_bindS (by first | exact KeS.tr (by assumption) (kes_pi _ _ _ _ _) | exact KeS.tr (by assumption) (kes_st _ _ _ _ _) | exact KeS.tr (by assumption) (kes_stl _ _ _ _) | exact KeS.tr (by assumption) (kes_cp _ _ _ _ _ _)) (fun _ _ => ?_) | refine ke_bindV (fun _ => ?_))
set_option maxRecDepth 4000 in
theorem ke_F_X11_isCell (x0 : Nat) (x1 : Int32) (t : mk_S) : KeP t (F_X11_isCell x0 x1 t) := by
  have h0 : Ke t t := Ke.rf
  unfold F_X11_isCell
  repeat' (with_reducible first | exact ke_none | exact ke_some (by assumption) | exact ke_rz (by assumption) | exact KeP.tr (by assumption) (ke_F_X3_cells _ _) | exact KeP.tr (by assumption) (ke_F_X11_within _ _ _ _) | refine ke_ite ?_ ?_ | refine ke_gd ?_ | refine ke_bindO (by first | exact KeP.tr (by assumption) (ke_F_X3_cells _ _) | exact KeP.tr (by assumption) (ke_F_X11_within _ _ _ _)) (fun _ _ => ?_) | refine ke_bindS (by first | exact KeS.tr (by assumption) (kes_pi _ _ _ _ _) | exact KeS.tr (by assumption) (kes_st _ _ _ _ _) | exact KeS.tr (by assumption) (kes_stl _ _ _ _) | exact KeS.tr (by assumption) (kes_cp _ _ _ _ _ _)) (fun _ _ => ?_) | refine ke_bindV (fun _ => ?_))
set_option maxRecDepth 4000 in
theorem ke_F_X11_wind (x0 : Nat) (x1 : Int32) (t : mk_S) : KeP t (F_X11_wind x0 x1 t) := by
  have h0 : Ke t t := Ke.rf
  unfold F_X11_wind
  repeat' (with_reducible first | exact ke_none | exact ke_some (by assumption) | exact ke_rz (by assumption) | exact KeP.tr (by assumption) (ke_F_X11_isCell _ _ _) | exact KeP.tr (by assumption) (ke_F_X7_windAt _ _ _) | refine ke_ite ?_ ?_ | refine ke_gd ?_ | refine ke_bindO (by first | exact KeP.tr (by assumption) (ke_F_X11_isCell _ _ _) | exact KeP.tr (by assumption) (ke_F_X7_windAt _ _ _)) (fun _ _ => ?_) | refine ke_bindS (by first | exact KeS.tr (by assumption) (kes_pi _ _ _ _ _) | exact KeS.tr (by assumption) (kes_st _ _ _ _ _) | exact KeS.tr (by assumption) (kes_stl _ _ _ _) | exact KeS.tr (by assumption) (kes_cp _ _ _ _ _ _)) (fun _ _ => ?_) | refine ke_bindV (fun _ => ?_))
set_option maxRecDepth 4000 in
theorem ke_F_X11_count (x0 : Nat) (x1 : Int32) (t : mk_S) : KeP t (F_X11_count x0 x1 t) := by
  have h0 : Ke t t := Ke.rf
  unfold F_X11_count
  repeat' (with_reducible first | exact ke_none | exact ke_some (by assumption) | exact ke_rz (by assumption) | exact KeP.tr (by assumption) (ke_F_X7_groundInAll _ _) | exact KeP.tr (by assumption) (ke_F_X7_windInAll _ _) | exact KeP.tr (by assumption) (ke_F_X7_actedInAll _ _) | refine ke_ite ?_ ?_ | refine ke_gd ?_ | refine ke_bindO (by first | exact KeP.tr (by assumption) (ke_F_X7_groundInAll _ _) | exact KeP.tr (by assumption) (ke_F_X7_windInAll _ _) | exact KeP.tr (by assumption) (ke_F_X7_actedInAll _ _)) (fun _ _ => ?_) | refine ke_bindS (by first | exact KeS.tr (by assumption) (kes_pi _ _ _ _ _) | exact KeS.tr (by assumption) (kes_st _ _ _ _ _) | exact KeS.tr (by assumption) (kes_stl _ _ _ _) | exact KeS.tr (by assumption) (kes_cp _ _ _ _ _ _)) (fun _ _ => ?_) | refine ke_bindV (fun _ => ?_))
set_option maxRecDepth 4000 in
theorem ke_F_X11_hour (x0 : Nat) (t : mk_S) : KeP t (F_X11_hour x0 t) := by
  have h0 : Ke t t := Ke.rf
  unfold F_X11_hour
  repeat' (with_reducible first | exact ke_none | exact ke_some (by assumption) | exact ke_rz (by assumption) | exact KeP.tr (by assumption) (ke_F_X3_isThere _ _) | exact KeP.tr (by assumption) (ke_F_X0_keep _ _ _) | exact KeP.tr (by assumption) (ke_F_X2_inForce _ _) | exact KeP.tr (by assumption) (ke_F_X9_pass _ _ _ _ _ _) | refine ke_ite ?_ ?_ | refine ke_gd ?_ | refine ke_bindO (by first | exact KeP.tr (by assumption) (ke_F_X3_isThere _ _) | exact KeP.tr (by assumption) (ke_F_X0_keep _ _ _) | exact KeP.tr (by assumption) (ke_F_X2_inForce _ _) | exact KeP.tr (by assumption) (ke_F_X9_pass _ _ _ _ _ _)) (fun _ _ => ?_) | refine ke_bindS (by first | exact KeS.tr (by assumption) (kes_pi _ _ _ _ _) | exact KeS.tr (by assumption) (kes_st _ _ _ _ _) | exact KeS.tr (by assumption) (kes_stl _ _ _ _) | exact KeS.tr (by assumption) (kes_cp _ _ _ _ _ _)) (fun _ _ => ?_) | refine ke_bindV (fun _ => ?_))
set_option maxRecDepth 4000 in
theorem ke_F_X11_wine (x0 : Nat) (x1 : Int32) (x2 : Int32) (t : mk_S) : KeP t (F_X11_wine x0 x1 x2 t) := by
  have h0 : Ke t t := Ke.rf
  unfold F_X11_wine
  repeat' (with_reducible first | exact ke_none | exact ke_some (by assumption) | exact ke_rz (by assumption) | exact KeP.tr (by assumption) (ke_F_X11_isPerson _ _ _) | exact KeP.tr (by assumption) (ke_F_X11_within _ _ _ _) | exact KeP.tr (by assumption) (ke_F_X0_keep _ _ _) | exact KeP.tr (by assumption) (ke_F_X7_urgeOn _ _ _ _) | refine ke_ite ?_ ?_ | refine ke_gd ?_ | refine ke_bindO (by first | exact KeP.tr (by assumption) (ke_F_X11_isPerson _ _ _) | exact KeP.tr (by assumption) (ke_F_X11_within _ _ _ _) | exact KeP.tr (by assumption) (ke_F_X0_keep _ _ _) | exact KeP.tr (by assumption) (ke_F_X7_urgeOn _ _ _ _)) (fun _ _ => ?_) | refine ke_bindS (by first | exact KeS.tr (by assumption) (kes_pi _ _ _ _ _) | exact KeS.tr (by assumption) (kes_st _ _ _ _ _) | exact KeS.tr (by assumption) (kes_stl _ _ _ _) | exact KeS.tr (by assumption) (kes_cp _ _ _ _ _ _)) (fun _ _ => ?_) | refine ke_bindV (fun _ => ?_))
set_option maxRecDepth 4000 in
theorem ke_F_X11_place (x0 : Nat) (x1 : Int32) (x2 : Int32) (t : mk_S) : KeP t (F_X11_place x0 x1 x2 t) := by
  have h0 : Ke t t := Ke.rf
  unfold F_X11_place
  repeat' (with_reducible first | exact ke_none | exact ke_some (by assumption) | exact ke_rz (by assumption) | exact KeP.tr (by assumption) (ke_F_X11_isPerson _ _ _) | exact KeP.tr (by assumption) (ke_F_X11_isCell _ _ _) | exact KeP.tr (by assumption) (ke_F_X0_keep _ _ _) | refine ke_ite ?_ ?_ | refine ke_gd ?_ | refine ke_bindO (by first | exact KeP.tr (by assumption) (ke_F_X11_isPerson _ _ _) | exact KeP.tr (by assumption) (ke_F_X11_isCell _ _ _) | exact KeP.tr (by assumption) (ke_F_X0_keep _ _ _)) (fun _ _ => ?_) | refine ke_bindS (by first | exact KeS.tr (by assumption) (kes_pi _ _ _ _ _) | exact KeS.tr (by assumption) (kes_st _ _ _ _ _) | exact KeS.tr (by assumption) (kes_stl _ _ _ _) | exact KeS.tr (by assumption) (kes_cp _ _ _ _ _ _)) (fun _ _ => ?_) | refine ke_bindV (fun _ => ?_))
set_option maxRecDepth 4000 in
theorem ke_F_X11_face (x0 : Nat) (x1 : Int32) (x2 : Int32) (t : mk_S) : KeP t (F_X11_face x0 x1 x2 t) := by
  have h0 : Ke t t := Ke.rf
  unfold F_X11_face
  repeat' (with_reducible first | exact ke_none | exact ke_some (by assumption) | exact ke_rz (by assumption) | exact KeP.tr (by assumption) (ke_F_X11_isPerson _ _ _) | exact KeP.tr (by assumption) (ke_F_X11_within _ _ _ _) | exact KeP.tr (by assumption) (ke_F_X0_keep _ _ _) | refine ke_ite ?_ ?_ | refine ke_gd ?_ | refine ke_bindO (by first | exact KeP.tr (by assumption) (ke_F_X11_isPerson _ _ _) | exact KeP.tr (by assumption) (ke_F_X11_within _ _ _ _) | exact KeP.tr (by assumption) (ke_F_X0_keep _ _ _)) (fun _ _ => ?_) | refine ke_bindS (by first | exact KeS.tr (by assumption) (kes_pi _ _ _ _ _) | exact KeS.tr (by assumption) (kes_st _ _ _ _ _) | exact KeS.tr (by assumption) (kes_stl _ _ _ _) | exact KeS.tr (by assumption) (kes_cp _ _ _ _ _ _)) (fun _ _ => ?_) | refine ke_bindV (fun _ => ?_))
set_option maxRecDepth 4000 in
theorem ke_F_X11_mend (x0 : Nat) (x1 : Int32) (t : mk_S) : KeP t (F_X11_mend x0 x1 t) := by
  have h0 : Ke t t := Ke.rf
  unfold F_X11_mend
  repeat' (with_reducible first | exact ke_none | exact ke_some (by assumption) | exact ke_rz (by assumption) | exact KeP.tr (by assumption) (ke_F_X11_isRoof _ _ _) | exact KeP.tr (by assumption) (ke_F_X0_keep _ _ _) | exact KeP.tr (by assumption) (ke_F_J6_bitCount_0f7a4 _ _) | refine ke_ite ?_ ?_ | refine ke_gd ?_ | refine ke_bindO (by first | exact KeP.tr (by assumption) (ke_F_X11_isRoof _ _ _) | exact KeP.tr (by assumption) (ke_F_X0_keep _ _ _) | exact KeP.tr (by assumption) (ke_F_J6_bitCount_0f7a4 _ _)) (fun _ _ => ?_) | refine ke_bindS (by first | exact KeS.tr (by assumption) (kes_pi _ _ _ _ _) | exact KeS.tr (by assumption) (kes_st _ _ _ _ _) | exact KeS.tr (by assumption) (kes_stl _ _ _ _) | exact KeS.tr (by assumption) (kes_cp _ _ _ _ _ _)) (fun _ _ => ?_) | refine ke_bindV (fun _ => ?_))
set_option maxRecDepth 4000 in
theorem ke_F_X11_undo (x0 : Nat) (t : mk_S) : KeP t (F_X11_undo x0 t) := by
  have h0 : Ke t t := Ke.rf
  unfold F_X11_undo
  repeat' (with_reducible first | exact ke_none | exact ke_some (by assumption) | exact ke_rz (by assumption) | exact KeP.tr (by assumption) (ke_F_X0_goBack _ _ _) | refine ke_ite ?_ ?_ | refine ke_gd ?_ | refine ke_bindO (by first | exact KeP.tr (by assumption) (ke_F_X0_goBack _ _ _)) (fun _ _ => ?_) | refine ke_bindS (by first | exact KeS.tr (by assumption) (kes_pi _ _ _ _ _) | exact KeS.tr (by assumption) (kes_st _ _ _ _ _) | exact KeS.tr (by assumption) (kes_stl _ _ _ _) | exact KeS.tr (by assumption) (kes_cp _ _ _ _ _ _)) (fun _ _ => ?_) | refine ke_bindV (fun _ => ?_))
set_option maxRecDepth 4000 in
theorem ke_F_X11_isAhead (x0 : Nat) (x1 : Int32) (x2 : Int32) (t : mk_S) : KeP t (F_X11_isAhead x0 x1 x2 t) := by
  have h0 : Ke t t := Ke.rf
  unfold F_X11_isAhead
  repeat' (with_reducible first | exact ke_none | exact ke_some (by assumption) | exact ke_rz (by assumption) | exact KeP.tr (by assumption) (ke_F_X11_isPerson _ _ _) | exact KeP.tr (by assumption) (ke_F_X11_isMill _ _ _) | exact KeP.tr (by assumption) (ke_F_X11_isCell _ _ _) | refine ke_ite ?_ ?_ | refine ke_gd ?_ | refine ke_bindO (by first | exact KeP.tr (by assumption) (ke_F_X11_isPerson _ _ _) | exact KeP.tr (by assumption) (ke_F_X11_isMill _ _ _) | exact KeP.tr (by assumption) (ke_F_X11_isCell _ _ _)) (fun _ _ => ?_) | refine ke_bindS (by first | exact KeS.tr (by assumption) (kes_pi _ _ _ _ _) | exact KeS.tr (by assumption) (kes_st _ _ _ _ _) | exact KeS.tr (by assumption) (kes_stl _ _ _ _) | exact KeS.tr (by assumption) (kes_cp _ _ _ _ _ _)) (fun _ _ => ?_) | refine ke_bindV (fun _ => ?_))
set_option maxRecDepth 4000 in
theorem ke_F_X11_ahead (x0 : Nat) (x1 : Int32) (x2 : Int32) (x3 : Int32) (t : mk_S) : KeP t (F_X11_ahead x0 x1 x2 x3 t) := by
  have h0 : Ke t t := Ke.rf
  unfold F_X11_ahead
  repeat' (with_reducible first | exact ke_none | exact ke_some (by assumption) | exact ke_rz (by assumption) | exact KeP.tr (by assumption) (ke_F_X3_isThere _ _) | exact KeP.tr (by assumption) (ke_F_X11_within _ _ _ _) | exact KeP.tr (by assumption) (ke_F_X11_isAhead _ _ _ _) | exact KeP.tr (by assumption) (ke_F_X2_aheadBy _ _ _ _ _) | refine ke_ite ?_ ?_ | refine ke_gd ?_ | refine ke_bindO (by first | exact KeP.tr (by assumption) (ke_F_X3_isThere _ _) | exact KeP.tr (by assumption) (ke_F_X11_within _ _ _ _) | exact KeP.tr (by assumption) (ke_F_X11_isAhead _ _ _ _) | exact KeP.tr (by assumption) (ke_F_X2_aheadBy _ _ _ _ _)) (fun _ _ => ?_) | refine ke_bindS (by first | exact KeS.tr (by assumption) (kes_pi _ _ _ _ _) | exact KeS.tr (by assumption) (kes_st _ _ _ _ _) | exact KeS.tr (by assumption) (kes_stl _ _ _ _) | exact KeS.tr (by assumption) (kes_cp _ _ _ _ _ _)) (fun _ _ => ?_) | refine ke_bindV (fun _ => ?_))
set_option maxRecDepth 4000 in
theorem ke_F_X11_whim (x0 : Nat) (x1 : Int32) (t : mk_S) : KeP t (F_X11_whim x0 x1 t) := by
  have h0 : Ke t t := Ke.rf
  unfold F_X11_whim
  repeat' (with_reducible first | exact ke_none | exact ke_some (by assumption) | exact ke_rz (by assumption) | exact KeP.tr (by assumption) (ke_F_X11_isPerson _ _ _) | exact KeP.tr (by assumption) (ke_F_X2_firstHour _ _ _ _) | refine ke_ite ?_ ?_ | refine ke_gd ?_ | refine ke_bindO (by first | exact KeP.tr (by assumption) (ke_F_X11_isPerson _ _ _) | exact KeP.tr (by assumption) (ke_F_X2_firstHour _ _ _ _)) (fun _ _ => ?_) | refine ke_bindS (by first | exact KeS.tr (by assumption) (kes_pi _ _ _ _ _) | exact KeS.tr (by assumption) (kes_st _ _ _ _ _) | exact KeS.tr (by assumption) (kes_stl _ _ _ _) | exact KeS.tr (by assumption) (kes_cp _ _ _ _ _ _)) (fun _ _ => ?_) | refine ke_bindV (fun _ => ?_))
set_option maxRecDepth 4000 in
theorem ke_F_X11_storm (x0 : Nat) (x1 : Int32) (t : mk_S) : KeP t (F_X11_storm x0 x1 t) := by
  have h0 : Ke t t := Ke.rf
  unfold F_X11_storm
  repeat' (with_reducible first | exact ke_none | exact ke_some (by assumption) | exact ke_rz (by assumption) | exact KeP.tr (by assumption) (ke_F_X3_isThere _ _) | exact KeP.tr (by assumption) (ke_F_X11_within _ _ _ _) | exact KeP.tr (by assumption) (ke_F_X2_firstHour _ _ _ _) | refine ke_ite ?_ ?_ | refine ke_gd ?_ | refine ke_bindO (by first | exact KeP.tr (by assumption) (ke_F_X3_isThere _ _) | exact KeP.tr (by assumption) (ke_F_X11_within _ _ _ _) | exact KeP.tr (by assumption) (ke_F_X2_firstHour _ _ _ _)) (fun _ _ => ?_) | refine ke_bindS (by first | exact KeS.tr (by assumption) (kes_pi _ _ _ _ _) | exact KeS.tr (by assumption) (kes_st _ _ _ _ _) | exact KeS.tr (by assumption) (kes_stl _ _ _ _) | exact KeS.tr (by assumption) (kes_cp _ _ _ _ _ _)) (fun _ _ => ?_) | refine ke_bindV (fun _ => ?_))
set_option maxRecDepth 4000 in
theorem ke_B_X11_isWayAsked_23 (t : mk_S) : KeP t (B_X11_isWayAsked_23 t) := by
  have h0 : Ke t t := Ke.rf
  unfold B_X11_isWayAsked_23
  repeat' (with_reducible first | exact ke_none | exact ke_some (by assumption) | exact ke_rz (by assumption) | refine ke_ite ?_ ?_ | refine ke_gd ?_ | refine ke_bindS (by first | exact KeS.tr (by assumption) (kes_pi _ _ _ _ _) | exact KeS.tr (by assumption) (kes_st _ _ _ _ _) | exact KeS.tr (by assumption) (kes_stl _ _ _ _) | exact KeS.tr (by assumption) (kes_cp _ _ _ _ _ _)) (fun _ _ => ?_) | refine ke_bindV (fun _ => ?_))
set_option maxRecDepth 4000 in
theorem ke_F_X11_isWayAsked (x0 : Int32) (x1 : Int32) (t : mk_S) : KeP t (F_X11_isWayAsked x0 x1 t) := by
  have h0 : Ke t t := Ke.rf
  unfold F_X11_isWayAsked
  repeat' (with_reducible first | exact ke_none | exact ke_some (by assumption) | exact ke_rz (by assumption) | exact KeP.tr (by assumption) (ke_F_X11_within _ _ _ _) | exact KeP.tr (by assumption) (ke_B_X11_isWayAsked_23 _) | refine ke_ite ?_ ?_ | refine ke_gd ?_ | refine ke_bindO (by first | exact KeP.tr (by assumption) (ke_F_X11_within _ _ _ _) | exact KeP.tr (by assumption) (ke_B_X11_isWayAsked_23 _)) (fun _ _ => ?_) | refine ke_bindS (by first | exact KeS.tr (by assumption) (kes_pi _ _ _ _ _) | exact KeS.tr (by assumption) (kes_st _ _ _ _ _) | exact KeS.tr (by assumption) (kes_stl _ _ _ _) | exact KeS.tr (by assumption) (kes_cp _ _ _ _ _ _)) (fun _ _ => ?_) | refine ke_bindV (fun _ => ?_))
set_option maxRecDepth 4000 in
theorem ke_F_X11_stand (x0 : Nat) (x1 : Int32) (x2 : Int32) (x3 : Int32) (t : mk_S) : KeP t (F_X11_stand x0 x1 x2 x3 t) := by
  have h0 : Ke t t := Ke.rf
  unfold F_X11_stand
  repeat' (with_reducible first | exact ke_none | exact ke_some (by assumption) | exact ke_rz (by assumption) | exact KeP.tr (by assumption) (ke_F_X11_isPerson _ _ _) | exact KeP.tr (by assumption) (ke_F_X11_isWayAsked _ _ _) | exact KeP.tr (by assumption) (ke_F_X2_bestCell _ _ _ _ _) | refine ke_ite ?_ ?_ | refine ke_gd ?_ | refine ke_bindO (by first | exact KeP.tr (by assumption) (ke_F_X11_isPerson _ _ _) | exact KeP.tr (by assumption) (ke_F_X11_isWayAsked _ _ _) | exact KeP.tr (by assumption) (ke_F_X2_bestCell _ _ _ _ _)) (fun _ _ => ?_) | refine ke_bindS (by first | exact KeS.tr (by assumption) (kes_pi _ _ _ _ _) | exact KeS.tr (by assumption) (kes_st _ _ _ _ _) | exact KeS.tr (by assumption) (kes_stl _ _ _ _) | exact KeS.tr (by assumption) (kes_cp _ _ _ _ _ _)) (fun _ _ => ?_) | refine ke_bindV (fun _ => ?_))
set_option maxRecDepth 4000 in
theorem ke_F_X11_turn (x0 : Nat) (x1 : Int32) (x2 : Int32) (x3 : Int32) (t : mk_S) : KeP t (F_X11_turn x0 x1 x2 x3 t) := by
  have h0 : Ke t t := Ke.rf
  unfold F_X11_turn
  repeat' (with_reducible first | exact ke_none | exact ke_some (by assumption) | exact ke_rz (by assumption) | exact KeP.tr (by assumption) (ke_F_X11_isPerson _ _ _) | exact KeP.tr (by assumption) (ke_F_X11_isWayAsked _ _ _) | exact KeP.tr (by assumption) (ke_F_X2_bestFace _ _ _ _ _) | refine ke_ite ?_ ?_ | refine ke_gd ?_ | refine ke_bindO (by first | exact KeP.tr (by assumption) (ke_F_X11_isPerson _ _ _) | exact KeP.tr (by assumption) (ke_F_X11_isWayAsked _ _ _) | exact KeP.tr (by assumption) (ke_F_X2_bestFace _ _ _ _ _)) (fun _ _ => ?_) | refine ke_bindS (by first | exact KeS.tr (by assumption) (kes_pi _ _ _ _ _) | exact KeS.tr (by assumption) (kes_st _ _ _ _ _) | exact KeS.tr (by assumption) (kes_stl _ _ _ _) | exact KeS.tr (by assumption) (kes_cp _ _ _ _ _ _)) (fun _ _ => ?_) | refine ke_bindV (fun _ => ?_))
set_option maxRecDepth 4000 in
theorem ke_F_X11_takes (x0 : Nat) (x1 : Int32) (x2 : Int32) (x3 : Int32) (x4 : Int32) (t : mk_S) : KeP t (F_X11_takes x0 x1 x2 x3 x4 t) := by
  have h0 : Ke t t := Ke.rf
  unfold F_X11_takes
  repeat' (with_reducible first | exact ke_none | exact ke_some (by assumption) | exact ke_rz (by assumption) | exact KeP.tr (by assumption) (ke_F_X11_isPerson _ _ _) | exact KeP.tr (by assumption) (ke_F_X11_isMill _ _ _) | exact KeP.tr (by assumption) (ke_F_X11_within _ _ _ _) | exact KeP.tr (by assumption) (ke_F_X2_leastWine _ _ _ _ _ _) | refine ke_ite ?_ ?_ | refine ke_gd ?_ | refine ke_bindO (by first | exact KeP.tr (by assumption) (ke_F_X11_isPerson _ _ _) | exact KeP.tr (by assumption) (ke_F_X11_isMill _ _ _) | exact KeP.tr (by assumption) (ke_F_X11_within _ _ _ _) | exact KeP.tr (by assumption) (ke_F_X2_leastWine _ _ _ _ _ _)) (fun _ _ => ?_) | refine ke_bindS (by first | exact KeS.tr (by assumption) (kes_pi _ _ _ _ _) | exact KeS.tr (by assumption) (kes_st _ _ _ _ _) | exact KeS.tr (by assumption) (kes_stl _ _ _ _) | exact KeS.tr (by assumption) (kes_cp _ _ _ _ _ _)) (fun _ _ => ?_) | refine ke_bindV (fun _ => ?_))
set_option maxRecDepth 4000 in
theorem ke_F_X11_blown (x0 : Nat) (x1 : Int32) (x2 : Int32) (x3 : Int32) (t : mk_S) : KeP t (F_X11_blown x0 x1 x2 x3 t) := by
  have h0 : Ke t t := Ke.rf
  unfold F_X11_blown
  repeat' (with_reducible first | exact ke_none | exact ke_some (by assumption) | exact ke_rz (by assumption) | exact KeP.tr (by assumption) (ke_F_X11_isCell _ _ _) | exact KeP.tr (by assumption) (ke_F_X11_within _ _ _ _) | exact KeP.tr (by assumption) (ke_F_X2_blowers _ _ _ _ _) | refine ke_ite ?_ ?_ | refine ke_gd ?_ | refine ke_bindO (by first | exact KeP.tr (by assumption) (ke_F_X11_isCell _ _ _) | exact KeP.tr (by assumption) (ke_F_X11_within _ _ _ _) | exact KeP.tr (by assumption) (ke_F_X2_blowers _ _ _ _ _)) (fun _ _ => ?_) | refine ke_bindS (by first | exact KeS.tr (by assumption) (kes_pi _ _ _ _ _) | exact KeS.tr (by assumption) (kes_st _ _ _ _ _) | exact KeS.tr (by assumption) (kes_stl _ _ _ _) | exact KeS.tr (by assumption) (kes_cp _ _ _ _ _ _)) (fun _ _ => ?_) | refine ke_bindV (fun _ => ?_))
set_option maxRecDepth 4000 in
theorem ke_F_X11_still (x0 : Nat) (x1 : Int32) (x2 : Int32) (t : mk_S) : KeP t (F_X11_still x0 x1 x2 t) := by
  have h0 : Ke t t := Ke.rf
  unfold F_X11_still
  repeat' (with_reducible first | exact ke_none | exact ke_some (by assumption) | exact ke_rz (by assumption) | exact KeP.tr (by assumption) (ke_F_X3_isThere _ _) | exact KeP.tr (by assumption) (ke_F_X11_isWayAsked _ _ _) | exact KeP.tr (by assumption) (ke_F_X2_bestStill _ _ _ _) | refine ke_ite ?_ ?_ | refine ke_gd ?_ | refine ke_bindO (by first | exact KeP.tr (by assumption) (ke_F_X3_isThere _ _) | exact KeP.tr (by assumption) (ke_F_X11_isWayAsked _ _ _) | exact KeP.tr (by assumption) (ke_F_X2_bestStill _ _ _ _)) (fun _ _ => ?_) | refine ke_bindS (by first | exact KeS.tr (by assumption) (kes_pi _ _ _ _ _) | exact KeS.tr (by assumption) (kes_st _ _ _ _ _) | exact KeS.tr (by assumption) (kes_stl _ _ _ _) | exact KeS.tr (by assumption) (kes_cp _ _ _ _ _ _)) (fun _ _ => ?_) | refine ke_bindV (fun _ => ?_))
set_option maxRecDepth 4000 in
theorem ke_F_X11_lull (x0 : Nat) (x1 : Int32) (x2 : Int32) (t : mk_S) : KeP t (F_X11_lull x0 x1 x2 t) := by
  have h0 : Ke t t := Ke.rf
  unfold F_X11_lull
  repeat' (with_reducible first | exact ke_none | exact ke_some (by assumption) | exact ke_rz (by assumption) | exact KeP.tr (by assumption) (ke_F_X3_isThere _ _) | exact KeP.tr (by assumption) (ke_F_X11_within _ _ _ _) | exact KeP.tr (by assumption) (ke_F_X2_longestLull _ _ _ _) | refine ke_ite ?_ ?_ | refine ke_gd ?_ | refine ke_bindO (by first | exact KeP.tr (by assumption) (ke_F_X3_isThere _ _) | exact KeP.tr (by assumption) (ke_F_X11_within _ _ _ _) | exact KeP.tr (by assumption) (ke_F_X2_longestLull _ _ _ _)) (fun _ _ => ?_) | refine ke_bindS (by first | exact KeS.tr (by assumption) (kes_pi _ _ _ _ _) | exact KeS.tr (by assumption) (kes_st _ _ _ _ _) | exact KeS.tr (by assumption) (kes_stl _ _ _ _) | exact KeS.tr (by assumption) (kes_cp _ _ _ _ _ _)) (fun _ _ => ?_) | refine ke_bindV (fun _ => ?_))
set_option maxRecDepth 4000 in
theorem ke_F_X11_harvest (x0 : Nat) (x1 : Int32) (x2 : Int32) (t : mk_S) : KeP t (F_X11_harvest x0 x1 x2 t) := by
  have h0 : Ke t t := Ke.rf
  unfold F_X11_harvest
  repeat' (with_reducible first | exact ke_none | exact ke_some (by assumption) | exact ke_rz (by assumption) | exact KeP.tr (by assumption) (ke_F_X3_isThere _ _) | exact KeP.tr (by assumption) (ke_F_X11_within _ _ _ _) | exact KeP.tr (by assumption) (ke_F_X2_windiest _ _ _ _) | refine ke_ite ?_ ?_ | refine ke_gd ?_ | refine ke_bindO (by first | exact KeP.tr (by assumption) (ke_F_X3_isThere _ _) | exact KeP.tr (by assumption) (ke_F_X11_within _ _ _ _) | exact KeP.tr (by assumption) (ke_F_X2_windiest _ _ _ _)) (fun _ _ => ?_) | refine ke_bindS (by first | exact KeS.tr (by assumption) (kes_pi _ _ _ _ _) | exact KeS.tr (by assumption) (kes_st _ _ _ _ _) | exact KeS.tr (by assumption) (kes_stl _ _ _ _) | exact KeS.tr (by assumption) (kes_cp _ _ _ _ _ _)) (fun _ _ => ?_) | refine ke_bindV (fun _ => ?_))
set_option maxRecDepth 4000 in
theorem ke_F_X11_rests (x0 : Nat) (x1 : Int32) (x2 : Int32) (x3 : Int32) (x4 : Int32) (t : mk_S) : KeP t (F_X11_rests x0 x1 x2 x3 x4 t) := by
  have h0 : Ke t t := Ke.rf
  unfold F_X11_rests
  repeat' (with_reducible first | exact ke_none | exact ke_some (by assumption) | exact ke_rz (by assumption) | exact KeP.tr (by assumption) (ke_F_X11_isPerson _ _ _) | exact KeP.tr (by assumption) (ke_F_X11_within _ _ _ _) | exact KeP.tr (by assumption) (ke_F_X2_restsOf _ _ _ _ _ _) | refine ke_ite ?_ ?_ | refine ke_gd ?_ | refine ke_bindO (by first | exact KeP.tr (by assumption) (ke_F_X11_isPerson _ _ _) | exact KeP.tr (by assumption) (ke_F_X11_within _ _ _ _) | exact KeP.tr (by assumption) (ke_F_X2_restsOf _ _ _ _ _ _)) (fun _ _ => ?_) | refine ke_bindS (by first | exact KeS.tr (by assumption) (kes_pi _ _ _ _ _) | exact KeS.tr (by assumption) (kes_st _ _ _ _ _) | exact KeS.tr (by assumption) (kes_stl _ _ _ _) | exact KeS.tr (by assumption) (kes_cp _ _ _ _ _ _)) (fun _ _ => ?_) | refine ke_bindV (fun _ => ?_))
set_option maxRecDepth 4000 in
theorem ke_F_X11_pence (x0 : Nat) (x1 : Int32) (x2 : Int32) (t : mk_S) : KeP t (F_X11_pence x0 x1 x2 t) := by
  have h0 : Ke t t := Ke.rf
  unfold F_X11_pence
  repeat' (with_reducible first | exact ke_none | exact ke_some (by assumption) | exact ke_rz (by assumption) | exact KeP.tr (by assumption) (ke_F_X11_isPerson _ _ _) | exact KeP.tr (by assumption) (ke_F_X11_within _ _ _ _) | exact KeP.tr (by assumption) (ke_F_X7_share _ _ _ _) | refine ke_ite ?_ ?_ | refine ke_gd ?_ | refine ke_bindO (by first | exact KeP.tr (by assumption) (ke_F_X11_isPerson _ _ _) | exact KeP.tr (by assumption) (ke_F_X11_within _ _ _ _) | exact KeP.tr (by assumption) (ke_F_X7_share _ _ _ _)) (fun _ _ => ?_) | refine ke_bindS (by first | exact KeS.tr (by assumption) (kes_pi _ _ _ _ _) | exact KeS.tr (by assumption) (kes_st _ _ _ _ _) | exact KeS.tr (by assumption) (kes_stl _ _ _ _) | exact KeS.tr (by assumption) (kes_cp _ _ _ _ _ _)) (fun _ _ => ?_) | refine ke_bindV (fun _ => ?_))
set_option maxRecDepth 4000 in
theorem ke_F_X11_note (x0 : Nat) (x1 : Int32) (x2 : Int32) (x3 : Int32) (t : mk_S) : KeP t (F_X11_note x0 x1 x2 x3 t) := by
  have h0 : Ke t t := Ke.rf
  unfold F_X11_note
  repeat' (with_reducible first | exact ke_none | exact ke_some (by assumption) | exact ke_rz (by assumption) | exact KeP.tr (by assumption) (ke_F_X11_within _ _ _ _) | exact KeP.tr (by assumption) (ke_F_X11_isCell _ _ _) | exact KeP.tr (by assumption) (ke_F_X1_add _ _ _ _ _) | refine ke_ite ?_ ?_ | refine ke_gd ?_ | refine ke_bindO (by first | exact KeP.tr (by assumption) (ke_F_X11_within _ _ _ _) | exact KeP.tr (by assumption) (ke_F_X11_isCell _ _ _) | exact KeP.tr (by assumption) (ke_F_X1_add _ _ _ _ _)) (fun _ _ => ?_) | refine ke_bindS (by first | exact KeS.tr (by assumption) (kes_pi _ _ _ _ _) | exact KeS.tr (by assumption) (kes_st _ _ _ _ _) | exact KeS.tr (by assumption) (kes_stl _ _ _ _) | exact KeS.tr (by assumption) (kes_cp _ _ _ _ _ _)) (fun _ _ => ?_) | refine ke_bindV (fun _ => ?_))
set_option maxRecDepth 4000 in
theorem ke_B_X11_ruled_44 : ∀ (n : Nat) (x2 : Int32) (x3 : Int32) (t : mk_S), KeP t (B_X11_ruled_44  n x2 x3 t) := by
  intro n
  induction n with
  | zero =>
    intro x2 x3 t
    exact ke_none
  | succ n ih =>
    intro x2 x3 t
    have h0 : Ke t t := Ke.rf
    rw [B_X11_ruled_44]
    repeat' (with_reducible first | exact ke_none | exact ke_some (by assumption) | exact ke_rz (by assumption) | exact KeP.tr (by assumption) (ih _ _ _) | refine ke_ite ?_ ?_ | refine ke_gd ?_ | refine ke_bindO (by first | exact KeP.tr (by assumption) (ih _ _ _)) (fun _ _ => ?_) | refine ke_bindS (by first | exact KeS.tr (by assumption) (kes_pi _ _ _ _ _) | exact KeS.tr (by assumption) (kes_st _ _ _ _ _) | exact KeS.tr (by assumption) (kes_stl _ _ _ _) | exact KeS.tr (by assumption) (kes_cp _ _ _ _ _ _)) (fun _ _ => ?_) | refine ke_bindV (fun _ => ?_))
set_option maxRecDepth 4000 in
theorem ke_F_X11_ruled (x0 : Nat) (x1 : Int32) (t : mk_S) : KeP t (F_X11_ruled x0 x1 t) := by
  have h0 : Ke t t := Ke.rf
  unfold F_X11_ruled
  repeat' (with_reducible first | exact ke_none | exact ke_some (by assumption) | exact ke_rz (by assumption) | exact KeP.tr (by assumption) (ke_F_X3_isThere _ _) | exact KeP.tr (by assumption) (ke_F_X11_within _ _ _ _) | exact KeP.tr (by assumption) (ke_F_X2_fitting _ _) | exact KeP.tr (by assumption) (ke_F_J6_bitCount_0f7a4 _ _) | exact KeP.tr (by assumption) (ke_B_X11_ruled_44 _ _ _ _) | refine ke_ite ?_ ?_ | refine ke_gd ?_ | refine ke_bindO (by first | exact KeP.tr (by assumption) (ke_F_X3_isThere _ _) | exact KeP.tr (by assumption) (ke_F_X11_within _ _ _ _) | exact KeP.tr (by assumption) (ke_F_X2_fitting _ _) | exact KeP.tr (by assumption) (ke_F_J6_bitCount_0f7a4 _ _) | exact KeP.tr (by assumption) (ke_B_X11_ruled_44 _ _ _ _)) (fun _ _ => ?_) | refine ke_bindS (by first | exact KeS.tr (by assumption) (kes_pi _ _ _ _ _) | exact KeS.tr (by assumption) (kes_st _ _ _ _ _) | exact KeS.tr (by assumption) (kes_stl _ _ _ _) | exact KeS.tr (by assumption) (kes_cp _ _ _ _ _ _)) (fun _ _ => ?_) | refine ke_bindV (fun _ => ?_))
set_option maxRecDepth 4000 in
theorem ke_F_X11_look (x0 : Nat) (x1 : Int32) (x2 : Int32) (t : mk_S) : KeP t (F_X11_look x0 x1 x2 t) := by
  have h0 : Ke t t := Ke.rf
  unfold F_X11_look
  repeat' (with_reducible first | exact ke_none | exact ke_some (by assumption) | exact ke_rz (by assumption) | exact KeP.tr (by assumption) (ke_F_X3_isThere _ _) | exact KeP.tr (by assumption) (ke_F_X11_within _ _ _ _) | exact KeP.tr (by assumption) (ke_F_X2_fitting _ _) | exact KeP.tr (by assumption) (ke_F_X2_bestLook _ _ _ _ _) | refine ke_ite ?_ ?_ | refine ke_gd ?_ | refine ke_bindO (by first | exact KeP.tr (by assumption) (ke_F_X3_isThere _ _) | exact KeP.tr (by assumption) (ke_F_X11_within _ _ _ _) | exact KeP.tr (by assumption) (ke_F_X2_fitting _ _) | exact KeP.tr (by assumption) (ke_F_X2_bestLook _ _ _ _ _)) (fun _ _ => ?_) | refine ke_bindS (by first | exact KeS.tr (by assumption) (kes_pi _ _ _ _ _) | exact KeS.tr (by assumption) (kes_st _ _ _ _ _) | exact KeS.tr (by assumption) (kes_stl _ _ _ _) | exact KeS.tr (by assumption) (kes_cp _ _ _ _ _ _)) (fun _ _ => ?_) | refine ke_bindV (fun _ => ?_))
set_option maxRecDepth 4000 in
theorem ke_F_X11_seed (x0 : Nat) (x1 : Int32) (t : mk_S) : KeP t (F_X11_seed x0 x1 t) := by
  have h0 : Ke t t := Ke.rf
  unfold F_X11_seed
  repeat' (with_reducible first | exact ke_none | exact ke_some (by assumption) | exact ke_rz (by assumption) | refine ke_ite ?_ ?_ | refine ke_gd ?_ | refine ke_bindS (by first | exact KeS.tr (by assumption) (kes_pi _ _ _ _ _) | exact KeS.tr (by assumption) (kes_st _ _ _ _ _) | exact KeS.tr (by assumption) (kes_stl _ _ _ _) | exact KeS.tr (by assumption) (kes_cp _ _ _ _ _ _)) (fun _ _ => ?_) | refine ke_bindV (fun _ => ?_))
set_option maxRecDepth 4000 in
theorem ke_F_X11_notions (x0 : Nat) (x1 : Int32) (x2 : Int32) (x3 : Int32) (x4 : Int32) (t : mk_S) : KeP t (F_X11_notions x0 x1 x2 x3 x4 t) := by
  have h0 : Ke t t := Ke.rf
  unfold F_X11_notions
  repeat' (with_reducible first | exact ke_none | exact ke_some (by assumption) | exact ke_rz (by assumption) | exact KeP.tr (by assumption) (ke_F_X3_isThere _ _) | exact KeP.tr (by assumption) (ke_F_X11_within _ _ _ _) | exact KeP.tr (by assumption) (ke_F_X2_yearsOfNotions _ _ _ _ _ _) | refine ke_ite ?_ ?_ | refine ke_gd ?_ | refine ke_bindO (by first | exact KeP.tr (by assumption) (ke_F_X3_isThere _ _) | exact KeP.tr (by assumption) (ke_F_X11_within _ _ _ _) | exact KeP.tr (by assumption) (ke_F_X2_yearsOfNotions _ _ _ _ _ _)) (fun _ _ => ?_) | refine ke_bindS (by first | exact KeS.tr (by assumption) (kes_pi _ _ _ _ _) | exact KeS.tr (by assumption) (kes_st _ _ _ _ _) | exact KeS.tr (by assumption) (kes_stl _ _ _ _) | exact KeS.tr (by assumption) (kes_cp _ _ _ _ _ _)) (fun _ _ => ?_) | refine ke_bindV (fun _ => ?_))
set_option maxRecDepth 4000 in
theorem ke_F_X11_image (x0 : Nat) (x1 : Int32) (t : mk_S) : KeP t (F_X11_image x0 x1 t) := by
  have h0 : Ke t t := Ke.rf
  unfold F_X11_image
  repeat' (with_reducible first | exact ke_none | exact ke_some (by assumption) | exact ke_rz (by assumption) | exact KeP.tr (by assumption) (ke_F_X11_within _ _ _ _) | exact KeP.tr (by assumption) (ke_F_X10_copyFrom _ _ _) | refine ke_ite ?_ ?_ | refine ke_gd ?_ | refine ke_bindO (by first | exact KeP.tr (by assumption) (ke_F_X11_within _ _ _ _) | exact KeP.tr (by assumption) (ke_F_X10_copyFrom _ _ _)) (fun _ _ => ?_) | refine ke_bindS (by first | exact KeS.tr (by assumption) (kes_pi _ _ _ _ _) | exact KeS.tr (by assumption) (kes_st _ _ _ _ _) | exact KeS.tr (by assumption) (kes_stl _ _ _ _) | exact KeS.tr (by assumption) (kes_cp _ _ _ _ _ _)) (fun _ _ => ?_) | refine ke_bindV (fun _ => ?_))
set_option maxRecDepth 4000 in
theorem ke_F_X11_back (x0 : Nat) (x1 : Int32) (t : mk_S) : KeP t (F_X11_back x0 x1 t) := by
  have h0 : Ke t t := Ke.rf
  unfold F_X11_back
  repeat' (with_reducible first | exact ke_none | exact ke_some (by assumption) | exact ke_rz (by assumption) | exact KeP.tr (by assumption) (ke_F_X11_within _ _ _ _) | exact KeP.tr (by assumption) (ke_F_X10_copyFrom _ _ _) | refine ke_ite ?_ ?_ | refine ke_gd ?_ | refine ke_bindO (by first | exact KeP.tr (by assumption) (ke_F_X11_within _ _ _ _) | exact KeP.tr (by assumption) (ke_F_X10_copyFrom _ _ _)) (fun _ _ => ?_) | refine ke_bindS (by first | exact KeS.tr (by assumption) (kes_pi _ _ _ _ _) | exact KeS.tr (by assumption) (kes_st _ _ _ _ _) | exact KeS.tr (by assumption) (kes_stl _ _ _ _) | exact KeS.tr (by assumption) (kes_cp _ _ _ _ _ _)) (fun _ _ => ?_) | refine ke_bindV (fun _ => ?_))
